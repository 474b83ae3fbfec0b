theorem z_upd_ne {f : Nat → Int32} {k j : Nat} {x : Int32} (h : j ≠ k) : upd f k x j = f j := by
  unfold upd
  rw [if_neg h]
theorem z_upd_eq {f : Nat → Int32} {k : Nat} {x : Int32} : upd f k x k = x := by
  unfold upd
  rw [if_pos rfl]
set_option maxHeartbeats 4000000 in
set_option maxRecDepth 100000 in
theorem c_m_init (l : Launch) (T : zTy) (y : Nat) : zMv l T yX12_init cX12_init 1 2 15 21147 [.ref y] [[(y, .inr (11, [.null, .null, .int 0, .int 0, .int 0, .int 0, .int 0, .int 0, .int 0, .int 0, .null, .int 0, .int 0, .int 0, .null, .null, .null, .int 0, .int 0, .int 0, .int 0, .null, .null, .null, .null, .null, .null, .int 0, .int 0, .int 0, .int 0, .int 0, .int 0, .int 0, .int 0, .int 0, .int 0, .int 0, .int 0, .null, .null, .null, .int 0]))]] (fun bs => ∃ (r_all : Nat) (r_has : Nat) (r_read : Nat) (r_posts : Nat) (r_shut : Nat) (r_here : Nat) (r_was : Nat) (r_came : Nat) (r_seenAt : Nat) (r_rowWorth : Nat) (r_farBy : Nat) (r_used : Nat) (r_fitPost : Nat) (r_fitEnd : Nat) (r_keptPosts : Nat), bs = [[(y, .inr (11, [.ref r_all, .ref r_has, .int 0, .int 0, .int 0, .int 0, .int 0, .int 0, .int 0, .int 0, .ref r_read, .int 0, .int 0, .int 0, .ref r_posts, .ref r_shut, .ref r_here, .int 0, .int 0, .int 0, .int 0, .ref r_was, .ref r_came, .ref r_seenAt, .ref r_rowWorth, .ref r_farBy, .ref r_used, .int 0, .int 0, .int 0, .int 0, .int 0, .int 0, .int 0, .int 0, .int 0, .int 0, .int 0, .int 0, .ref r_fitPost, .ref r_fitEnd, .ref r_keptPosts, .int 0]))], [(r_all, .inl (T.2 0, 3952, .inl (upd (fun _ => 0) 6 (-1))))], [(r_has, .inl (T.2 2, 3, .inl (fun _ => 0)))], [(r_read, .inl (T.2 0, 121, .inl (fun _ => 0)))], [(r_posts, .inl (T.2 0, 7, .inl (fun _ => 0)))], [(r_shut, .inl (T.2 0, 7, .inl (fun _ => 0)))], [(r_here, .inl (T.2 0, 7, .inl (fun _ => 0)))], [(r_was, .inl (T.2 0, 7, .inl (fun _ => 0)))], [(r_came, .inl (T.2 0, 7, .inl (fun _ => 0)))], [(r_seenAt, .inl (T.2 0, 16384, .inl (fun _ => 0)))], [(r_rowWorth, .inl (T.2 0, 512, .inl (fun _ => 0)))], [(r_farBy, .inl (T.2 0, 49, .inl (fun _ => 0)))], [(r_used, .inl (T.2 0, 7, .inl (fun _ => 0)))], [(r_fitPost, .inl (T.2 0, 28, .inl (fun _ => 0)))], [(r_fitEnd, .inl (T.2 0, 49, .inl (fun _ => 0)))], [(r_keptPosts, .inl (T.2 0, 7, .inl (fun _ => 0)))]]) := by
  refine zMv_of (own := RX12) (by decide) rfl (Nat.le_of_ble_eq_true rfl) ?_
  intro p e s m args below meth c A ls C hr hlocks hnm hAe G hl
  have hx := C.1
  have hb := C.2.1
  have hl : lv_has ls 1 [(0, .ref y)] := hl
  refine lv_aload_n hx hb dX12_init_0 rfl (lv_at hl 0 rfl) ?_
  refine W.objInit hx hb C.2.2.2.1 (C.2.2.2.2 _ m_ml_RX12_1) (C.2.2.2.2 _ m_im_obj) (C.2.2.2.2 _ m_co_obj) rfl (by rw [C.2.2.1]; exact hl.1) rfl dX12_init_1 (Nat.le_of_ble_eq_true rfl) (Nat.le_of_ble_eq_true rfl) ?_
  refine W.eq (g2 := F0 m 4 ls []) rfl ?_
  refine lv_aload_n hx hb dX12_init_4 rfl (lv_at hl 0 rfl) ?_
  refine lv_sipush (v := 3952) hx hb dX12_init_5 (by decide) ?_
  refine z_newa C G 0 (ty := .int) (N' := 3952) (a0 := (3952, .inl (fun _ => 0))) rfl z_uint m_ar_int rfl (fun _ => rfl) (by decide) (by decide) (Nat.le_of_ble_eq_true rfl) (Nat.le_of_ble_eq_true rfl) (Nat.le_of_ble_eq_true rfl) dX12_init_8 (fun q_1 H G => ?_)
  have G : zS T A s.heap s [[(y, .inr (11, [.null, .null, .int 0, .int 0, .int 0, .int 0, .int 0, .int 0, .int 0, .int 0, .null, .int 0, .int 0, .int 0, .null, .null, .null, .int 0, .int 0, .int 0, .int 0, .null, .null, .null, .null, .null, .null, .int 0, .int 0, .int 0, .int 0, .int 0, .int 0, .int 0, .int 0, .int 0, .int 0, .int 0, .int 0, .null, .null, .null, .int 0]))], [(q_1, .inl (T.2 0, 3952, .inl (fun _ => 0)))]] _ _ := G
  refine z_putF C G hnm clX12 0 rfl 0 (by decide) m_fl_RX12_7 rfl rfl rfl rfl (Nat.le_of_ble_eq_true rfl) dX12_init_10 (fun H locs G => ?_)
  have G : zS T A s.heap s [[(y, .inr (11, [.ref q_1, .null, .int 0, .int 0, .int 0, .int 0, .int 0, .int 0, .int 0, .int 0, .null, .int 0, .int 0, .int 0, .null, .null, .null, .int 0, .int 0, .int 0, .int 0, .null, .null, .null, .null, .null, .null, .int 0, .int 0, .int 0, .int 0, .int 0, .int 0, .int 0, .int 0, .int 0, .int 0, .int 0, .int 0, .null, .null, .null, .int 0]))], [(q_1, .inl (T.2 0, 3952, .inl (fun _ => 0)))]] _ _ := G
  refine lv_aload_n hx hb dX12_init_13 rfl (lv_at hl 0 rfl) ?_
  refine lv_iconst (v := 3) hx hb dX12_init_14 (by decide) ?_
  refine z_newa C G 2 (ty := .boolean) (N' := 3) (a0 := (3, .inl (fun _ => 0))) rfl z_uboolean m_ar_boolean rfl (fun _ => rfl) (by decide) (by decide) (Nat.le_of_ble_eq_true rfl) (Nat.le_of_ble_eq_true rfl) (Nat.le_of_ble_eq_true rfl) dX12_init_15 (fun q_2 H G => ?_)
  have G : zS T A s.heap s [[(y, .inr (11, [.ref q_1, .null, .int 0, .int 0, .int 0, .int 0, .int 0, .int 0, .int 0, .int 0, .null, .int 0, .int 0, .int 0, .null, .null, .null, .int 0, .int 0, .int 0, .int 0, .null, .null, .null, .null, .null, .null, .int 0, .int 0, .int 0, .int 0, .int 0, .int 0, .int 0, .int 0, .int 0, .int 0, .int 0, .int 0, .null, .null, .null, .int 0]))], [(q_1, .inl (T.2 0, 3952, .inl (fun _ => 0)))], [(q_2, .inl (T.2 2, 3, .inl (fun _ => 0)))]] _ _ := G
  refine z_putF C G hnm clX12 0 rfl 1 (by decide) m_fl_RX12_13 rfl rfl rfl rfl (Nat.le_of_ble_eq_true rfl) dX12_init_17 (fun H locs G => ?_)
  have G : zS T A s.heap s [[(y, .inr (11, [.ref q_1, .ref q_2, .int 0, .int 0, .int 0, .int 0, .int 0, .int 0, .int 0, .int 0, .null, .int 0, .int 0, .int 0, .null, .null, .null, .int 0, .int 0, .int 0, .int 0, .null, .null, .null, .null, .null, .null, .int 0, .int 0, .int 0, .int 0, .int 0, .int 0, .int 0, .int 0, .int 0, .int 0, .int 0, .int 0, .null, .null, .null, .int 0]))], [(q_1, .inl (T.2 0, 3952, .inl (fun _ => 0)))], [(q_2, .inl (T.2 2, 3, .inl (fun _ => 0)))]] _ _ := G
  refine lv_aload_n hx hb dX12_init_20 rfl (lv_at hl 0 rfl) ?_
  refine lv_bipush (v := 121) hx hb dX12_init_21 (by decide) ?_
  refine z_newa C G 0 (ty := .int) (N' := 121) (a0 := (121, .inl (fun _ => 0))) rfl z_uint m_ar_int rfl (fun _ => rfl) (by decide) (by decide) (Nat.le_of_ble_eq_true rfl) (Nat.le_of_ble_eq_true rfl) (Nat.le_of_ble_eq_true rfl) dX12_init_23 (fun q_3 H G => ?_)
  have G : zS T A s.heap s [[(y, .inr (11, [.ref q_1, .ref q_2, .int 0, .int 0, .int 0, .int 0, .int 0, .int 0, .int 0, .int 0, .null, .int 0, .int 0, .int 0, .null, .null, .null, .int 0, .int 0, .int 0, .int 0, .null, .null, .null, .null, .null, .null, .int 0, .int 0, .int 0, .int 0, .int 0, .int 0, .int 0, .int 0, .int 0, .int 0, .int 0, .int 0, .null, .null, .null, .int 0]))], [(q_1, .inl (T.2 0, 3952, .inl (fun _ => 0)))], [(q_2, .inl (T.2 2, 3, .inl (fun _ => 0)))], [(q_3, .inl (T.2 0, 121, .inl (fun _ => 0)))]] _ _ := G
  refine z_putF C G hnm clX12 0 rfl 10 (by decide) m_fl_RX12_17 rfl rfl rfl rfl (Nat.le_of_ble_eq_true rfl) dX12_init_25 (fun H locs G => ?_)
  have G : zS T A s.heap s [[(y, .inr (11, [.ref q_1, .ref q_2, .int 0, .int 0, .int 0, .int 0, .int 0, .int 0, .int 0, .int 0, .ref q_3, .int 0, .int 0, .int 0, .null, .null, .null, .int 0, .int 0, .int 0, .int 0, .null, .null, .null, .null, .null, .null, .int 0, .int 0, .int 0, .int 0, .int 0, .int 0, .int 0, .int 0, .int 0, .int 0, .int 0, .int 0, .null, .null, .null, .int 0]))], [(q_1, .inl (T.2 0, 3952, .inl (fun _ => 0)))], [(q_2, .inl (T.2 2, 3, .inl (fun _ => 0)))], [(q_3, .inl (T.2 0, 121, .inl (fun _ => 0)))]] _ _ := G
  refine lv_aload_n hx hb dX12_init_28 rfl (lv_at hl 0 rfl) ?_
  refine lv_bipush (v := 7) hx hb dX12_init_29 (by decide) ?_
  refine z_newa C G 0 (ty := .int) (N' := 7) (a0 := (7, .inl (fun _ => 0))) rfl z_uint m_ar_int rfl (fun _ => rfl) (by decide) (by decide) (Nat.le_of_ble_eq_true rfl) (Nat.le_of_ble_eq_true rfl) (Nat.le_of_ble_eq_true rfl) dX12_init_31 (fun q_4 H G => ?_)
  have G : zS T A s.heap s [[(y, .inr (11, [.ref q_1, .ref q_2, .int 0, .int 0, .int 0, .int 0, .int 0, .int 0, .int 0, .int 0, .ref q_3, .int 0, .int 0, .int 0, .null, .null, .null, .int 0, .int 0, .int 0, .int 0, .null, .null, .null, .null, .null, .null, .int 0, .int 0, .int 0, .int 0, .int 0, .int 0, .int 0, .int 0, .int 0, .int 0, .int 0, .int 0, .null, .null, .null, .int 0]))], [(q_1, .inl (T.2 0, 3952, .inl (fun _ => 0)))], [(q_2, .inl (T.2 2, 3, .inl (fun _ => 0)))], [(q_3, .inl (T.2 0, 121, .inl (fun _ => 0)))], [(q_4, .inl (T.2 0, 7, .inl (fun _ => 0)))]] _ _ := G
  refine z_putF C G hnm clX12 0 rfl 14 (by decide) m_fl_RX12_20 rfl rfl rfl rfl (Nat.le_of_ble_eq_true rfl) dX12_init_33 (fun H locs G => ?_)
  have G : zS T A s.heap s [[(y, .inr (11, [.ref q_1, .ref q_2, .int 0, .int 0, .int 0, .int 0, .int 0, .int 0, .int 0, .int 0, .ref q_3, .int 0, .int 0, .int 0, .ref q_4, .null, .null, .int 0, .int 0, .int 0, .int 0, .null, .null, .null, .null, .null, .null, .int 0, .int 0, .int 0, .int 0, .int 0, .int 0, .int 0, .int 0, .int 0, .int 0, .int 0, .int 0, .null, .null, .null, .int 0]))], [(q_1, .inl (T.2 0, 3952, .inl (fun _ => 0)))], [(q_2, .inl (T.2 2, 3, .inl (fun _ => 0)))], [(q_3, .inl (T.2 0, 121, .inl (fun _ => 0)))], [(q_4, .inl (T.2 0, 7, .inl (fun _ => 0)))]] _ _ := G
  refine lv_aload_n hx hb dX12_init_36 rfl (lv_at hl 0 rfl) ?_
  refine lv_bipush (v := 7) hx hb dX12_init_37 (by decide) ?_
  refine z_newa C G 0 (ty := .int) (N' := 7) (a0 := (7, .inl (fun _ => 0))) rfl z_uint m_ar_int rfl (fun _ => rfl) (by decide) (by decide) (Nat.le_of_ble_eq_true rfl) (Nat.le_of_ble_eq_true rfl) (Nat.le_of_ble_eq_true rfl) dX12_init_39 (fun q_5 H G => ?_)
  have G : zS T A s.heap s [[(y, .inr (11, [.ref q_1, .ref q_2, .int 0, .int 0, .int 0, .int 0, .int 0, .int 0, .int 0, .int 0, .ref q_3, .int 0, .int 0, .int 0, .ref q_4, .null, .null, .int 0, .int 0, .int 0, .int 0, .null, .null, .null, .null, .null, .null, .int 0, .int 0, .int 0, .int 0, .int 0, .int 0, .int 0, .int 0, .int 0, .int 0, .int 0, .int 0, .null, .null, .null, .int 0]))], [(q_1, .inl (T.2 0, 3952, .inl (fun _ => 0)))], [(q_2, .inl (T.2 2, 3, .inl (fun _ => 0)))], [(q_3, .inl (T.2 0, 121, .inl (fun _ => 0)))], [(q_4, .inl (T.2 0, 7, .inl (fun _ => 0)))], [(q_5, .inl (T.2 0, 7, .inl (fun _ => 0)))]] _ _ := G
  refine z_putF C G hnm clX12 0 rfl 15 (by decide) m_fl_RX12_23 rfl rfl rfl rfl (Nat.le_of_ble_eq_true rfl) dX12_init_41 (fun H locs G => ?_)
  have G : zS T A s.heap s [[(y, .inr (11, [.ref q_1, .ref q_2, .int 0, .int 0, .int 0, .int 0, .int 0, .int 0, .int 0, .int 0, .ref q_3, .int 0, .int 0, .int 0, .ref q_4, .ref q_5, .null, .int 0, .int 0, .int 0, .int 0, .null, .null, .null, .null, .null, .null, .int 0, .int 0, .int 0, .int 0, .int 0, .int 0, .int 0, .int 0, .int 0, .int 0, .int 0, .int 0, .null, .null, .null, .int 0]))], [(q_1, .inl (T.2 0, 3952, .inl (fun _ => 0)))], [(q_2, .inl (T.2 2, 3, .inl (fun _ => 0)))], [(q_3, .inl (T.2 0, 121, .inl (fun _ => 0)))], [(q_4, .inl (T.2 0, 7, .inl (fun _ => 0)))], [(q_5, .inl (T.2 0, 7, .inl (fun _ => 0)))]] _ _ := G
  refine lv_aload_n hx hb dX12_init_44 rfl (lv_at hl 0 rfl) ?_
  refine lv_bipush (v := 7) hx hb dX12_init_45 (by decide) ?_
  refine z_newa C G 0 (ty := .int) (N' := 7) (a0 := (7, .inl (fun _ => 0))) rfl z_uint m_ar_int rfl (fun _ => rfl) (by decide) (by decide) (Nat.le_of_ble_eq_true rfl) (Nat.le_of_ble_eq_true rfl) (Nat.le_of_ble_eq_true rfl) dX12_init_47 (fun q_6 H G => ?_)
  have G : zS T A s.heap s [[(y, .inr (11, [.ref q_1, .ref q_2, .int 0, .int 0, .int 0, .int 0, .int 0, .int 0, .int 0, .int 0, .ref q_3, .int 0, .int 0, .int 0, .ref q_4, .ref q_5, .null, .int 0, .int 0, .int 0, .int 0, .null, .null, .null, .null, .null, .null, .int 0, .int 0, .int 0, .int 0, .int 0, .int 0, .int 0, .int 0, .int 0, .int 0, .int 0, .int 0, .null, .null, .null, .int 0]))], [(q_1, .inl (T.2 0, 3952, .inl (fun _ => 0)))], [(q_2, .inl (T.2 2, 3, .inl (fun _ => 0)))], [(q_3, .inl (T.2 0, 121, .inl (fun _ => 0)))], [(q_4, .inl (T.2 0, 7, .inl (fun _ => 0)))], [(q_5, .inl (T.2 0, 7, .inl (fun _ => 0)))], [(q_6, .inl (T.2 0, 7, .inl (fun _ => 0)))]] _ _ := G
  refine z_putF C G hnm clX12 0 rfl 16 (by decide) m_fl_RX12_26 rfl rfl rfl rfl (Nat.le_of_ble_eq_true rfl) dX12_init_49 (fun H locs G => ?_)
  have G : zS T A s.heap s [[(y, .inr (11, [.ref q_1, .ref q_2, .int 0, .int 0, .int 0, .int 0, .int 0, .int 0, .int 0, .int 0, .ref q_3, .int 0, .int 0, .int 0, .ref q_4, .ref q_5, .ref q_6, .int 0, .int 0, .int 0, .int 0, .null, .null, .null, .null, .null, .null, .int 0, .int 0, .int 0, .int 0, .int 0, .int 0, .int 0, .int 0, .int 0, .int 0, .int 0, .int 0, .null, .null, .null, .int 0]))], [(q_1, .inl (T.2 0, 3952, .inl (fun _ => 0)))], [(q_2, .inl (T.2 2, 3, .inl (fun _ => 0)))], [(q_3, .inl (T.2 0, 121, .inl (fun _ => 0)))], [(q_4, .inl (T.2 0, 7, .inl (fun _ => 0)))], [(q_5, .inl (T.2 0, 7, .inl (fun _ => 0)))], [(q_6, .inl (T.2 0, 7, .inl (fun _ => 0)))]] _ _ := G
  refine lv_aload_n hx hb dX12_init_52 rfl (lv_at hl 0 rfl) ?_
  refine lv_bipush (v := 7) hx hb dX12_init_53 (by decide) ?_
  refine z_newa C G 0 (ty := .int) (N' := 7) (a0 := (7, .inl (fun _ => 0))) rfl z_uint m_ar_int rfl (fun _ => rfl) (by decide) (by decide) (Nat.le_of_ble_eq_true rfl) (Nat.le_of_ble_eq_true rfl) (Nat.le_of_ble_eq_true rfl) dX12_init_55 (fun q_7 H G => ?_)
  have G : zS T A s.heap s [[(y, .inr (11, [.ref q_1, .ref q_2, .int 0, .int 0, .int 0, .int 0, .int 0, .int 0, .int 0, .int 0, .ref q_3, .int 0, .int 0, .int 0, .ref q_4, .ref q_5, .ref q_6, .int 0, .int 0, .int 0, .int 0, .null, .null, .null, .null, .null, .null, .int 0, .int 0, .int 0, .int 0, .int 0, .int 0, .int 0, .int 0, .int 0, .int 0, .int 0, .int 0, .null, .null, .null, .int 0]))], [(q_1, .inl (T.2 0, 3952, .inl (fun _ => 0)))], [(q_2, .inl (T.2 2, 3, .inl (fun _ => 0)))], [(q_3, .inl (T.2 0, 121, .inl (fun _ => 0)))], [(q_4, .inl (T.2 0, 7, .inl (fun _ => 0)))], [(q_5, .inl (T.2 0, 7, .inl (fun _ => 0)))], [(q_6, .inl (T.2 0, 7, .inl (fun _ => 0)))], [(q_7, .inl (T.2 0, 7, .inl (fun _ => 0)))]] _ _ := G
  refine z_putF C G hnm clX12 0 rfl 21 (by decide) m_fl_RX12_29 rfl rfl rfl rfl (Nat.le_of_ble_eq_true rfl) dX12_init_57 (fun H locs G => ?_)
  have G : zS T A s.heap s [[(y, .inr (11, [.ref q_1, .ref q_2, .int 0, .int 0, .int 0, .int 0, .int 0, .int 0, .int 0, .int 0, .ref q_3, .int 0, .int 0, .int 0, .ref q_4, .ref q_5, .ref q_6, .int 0, .int 0, .int 0, .int 0, .ref q_7, .null, .null, .null, .null, .null, .int 0, .int 0, .int 0, .int 0, .int 0, .int 0, .int 0, .int 0, .int 0, .int 0, .int 0, .int 0, .null, .null, .null, .int 0]))], [(q_1, .inl (T.2 0, 3952, .inl (fun _ => 0)))], [(q_2, .inl (T.2 2, 3, .inl (fun _ => 0)))], [(q_3, .inl (T.2 0, 121, .inl (fun _ => 0)))], [(q_4, .inl (T.2 0, 7, .inl (fun _ => 0)))], [(q_5, .inl (T.2 0, 7, .inl (fun _ => 0)))], [(q_6, .inl (T.2 0, 7, .inl (fun _ => 0)))], [(q_7, .inl (T.2 0, 7, .inl (fun _ => 0)))]] _ _ := G
  refine lv_aload_n hx hb dX12_init_60 rfl (lv_at hl 0 rfl) ?_
  refine lv_bipush (v := 7) hx hb dX12_init_61 (by decide) ?_
  refine z_newa C G 0 (ty := .int) (N' := 7) (a0 := (7, .inl (fun _ => 0))) rfl z_uint m_ar_int rfl (fun _ => rfl) (by decide) (by decide) (Nat.le_of_ble_eq_true rfl) (Nat.le_of_ble_eq_true rfl) (Nat.le_of_ble_eq_true rfl) dX12_init_63 (fun q_8 H G => ?_)
  have G : zS T A s.heap s [[(y, .inr (11, [.ref q_1, .ref q_2, .int 0, .int 0, .int 0, .int 0, .int 0, .int 0, .int 0, .int 0, .ref q_3, .int 0, .int 0, .int 0, .ref q_4, .ref q_5, .ref q_6, .int 0, .int 0, .int 0, .int 0, .ref q_7, .null, .null, .null, .null, .null, .int 0, .int 0, .int 0, .int 0, .int 0, .int 0, .int 0, .int 0, .int 0, .int 0, .int 0, .int 0, .null, .null, .null, .int 0]))], [(q_1, .inl (T.2 0, 3952, .inl (fun _ => 0)))], [(q_2, .inl (T.2 2, 3, .inl (fun _ => 0)))], [(q_3, .inl (T.2 0, 121, .inl (fun _ => 0)))], [(q_4, .inl (T.2 0, 7, .inl (fun _ => 0)))], [(q_5, .inl (T.2 0, 7, .inl (fun _ => 0)))], [(q_6, .inl (T.2 0, 7, .inl (fun _ => 0)))], [(q_7, .inl (T.2 0, 7, .inl (fun _ => 0)))], [(q_8, .inl (T.2 0, 7, .inl (fun _ => 0)))]] _ _ := G
  refine z_putF C G hnm clX12 0 rfl 22 (by decide) m_fl_RX12_32 rfl rfl rfl rfl (Nat.le_of_ble_eq_true rfl) dX12_init_65 (fun H locs G => ?_)
  have G : zS T A s.heap s [[(y, .inr (11, [.ref q_1, .ref q_2, .int 0, .int 0, .int 0, .int 0, .int 0, .int 0, .int 0, .int 0, .ref q_3, .int 0, .int 0, .int 0, .ref q_4, .ref q_5, .ref q_6, .int 0, .int 0, .int 0, .int 0, .ref q_7, .ref q_8, .null, .null, .null, .null, .int 0, .int 0, .int 0, .int 0, .int 0, .int 0, .int 0, .int 0, .int 0, .int 0, .int 0, .int 0, .null, .null, .null, .int 0]))], [(q_1, .inl (T.2 0, 3952, .inl (fun _ => 0)))], [(q_2, .inl (T.2 2, 3, .inl (fun _ => 0)))], [(q_3, .inl (T.2 0, 121, .inl (fun _ => 0)))], [(q_4, .inl (T.2 0, 7, .inl (fun _ => 0)))], [(q_5, .inl (T.2 0, 7, .inl (fun _ => 0)))], [(q_6, .inl (T.2 0, 7, .inl (fun _ => 0)))], [(q_7, .inl (T.2 0, 7, .inl (fun _ => 0)))], [(q_8, .inl (T.2 0, 7, .inl (fun _ => 0)))]] _ _ := G
  refine lv_aload_n hx hb dX12_init_68 rfl (lv_at hl 0 rfl) ?_
  refine lv_sipush (v := 16384) hx hb dX12_init_69 (by decide) ?_
  refine z_newa C G 0 (ty := .int) (N' := 16384) (a0 := (16384, .inl (fun _ => 0))) rfl z_uint m_ar_int rfl (fun _ => rfl) (by decide) (by decide) (Nat.le_of_ble_eq_true rfl) (Nat.le_of_ble_eq_true rfl) (Nat.le_of_ble_eq_true rfl) dX12_init_72 (fun q_9 H G => ?_)
  have G : zS T A s.heap s [[(y, .inr (11, [.ref q_1, .ref q_2, .int 0, .int 0, .int 0, .int 0, .int 0, .int 0, .int 0, .int 0, .ref q_3, .int 0, .int 0, .int 0, .ref q_4, .ref q_5, .ref q_6, .int 0, .int 0, .int 0, .int 0, .ref q_7, .ref q_8, .null, .null, .null, .null, .int 0, .int 0, .int 0, .int 0, .int 0, .int 0, .int 0, .int 0, .int 0, .int 0, .int 0, .int 0, .null, .null, .null, .int 0]))], [(q_1, .inl (T.2 0, 3952, .inl (fun _ => 0)))], [(q_2, .inl (T.2 2, 3, .inl (fun _ => 0)))], [(q_3, .inl (T.2 0, 121, .inl (fun _ => 0)))], [(q_4, .inl (T.2 0, 7, .inl (fun _ => 0)))], [(q_5, .inl (T.2 0, 7, .inl (fun _ => 0)))], [(q_6, .inl (T.2 0, 7, .inl (fun _ => 0)))], [(q_7, .inl (T.2 0, 7, .inl (fun _ => 0)))], [(q_8, .inl (T.2 0, 7, .inl (fun _ => 0)))], [(q_9, .inl (T.2 0, 16384, .inl (fun _ => 0)))]] _ _ := G
  refine z_putF C G hnm clX12 0 rfl 23 (by decide) m_fl_RX12_35 rfl rfl rfl rfl (Nat.le_of_ble_eq_true rfl) dX12_init_74 (fun H locs G => ?_)
  have G : zS T A s.heap s [[(y, .inr (11, [.ref q_1, .ref q_2, .int 0, .int 0, .int 0, .int 0, .int 0, .int 0, .int 0, .int 0, .ref q_3, .int 0, .int 0, .int 0, .ref q_4, .ref q_5, .ref q_6, .int 0, .int 0, .int 0, .int 0, .ref q_7, .ref q_8, .ref q_9, .null, .null, .null, .int 0, .int 0, .int 0, .int 0, .int 0, .int 0, .int 0, .int 0, .int 0, .int 0, .int 0, .int 0, .null, .null, .null, .int 0]))], [(q_1, .inl (T.2 0, 3952, .inl (fun _ => 0)))], [(q_2, .inl (T.2 2, 3, .inl (fun _ => 0)))], [(q_3, .inl (T.2 0, 121, .inl (fun _ => 0)))], [(q_4, .inl (T.2 0, 7, .inl (fun _ => 0)))], [(q_5, .inl (T.2 0, 7, .inl (fun _ => 0)))], [(q_6, .inl (T.2 0, 7, .inl (fun _ => 0)))], [(q_7, .inl (T.2 0, 7, .inl (fun _ => 0)))], [(q_8, .inl (T.2 0, 7, .inl (fun _ => 0)))], [(q_9, .inl (T.2 0, 16384, .inl (fun _ => 0)))]] _ _ := G
  refine lv_aload_n hx hb dX12_init_77 rfl (lv_at hl 0 rfl) ?_
  refine lv_sipush (v := 512) hx hb dX12_init_78 (by decide) ?_
  refine z_newa C G 0 (ty := .int) (N' := 512) (a0 := (512, .inl (fun _ => 0))) rfl z_uint m_ar_int rfl (fun _ => rfl) (by decide) (by decide) (Nat.le_of_ble_eq_true rfl) (Nat.le_of_ble_eq_true rfl) (Nat.le_of_ble_eq_true rfl) dX12_init_81 (fun q_10 H G => ?_)
  have G : zS T A s.heap s [[(y, .inr (11, [.ref q_1, .ref q_2, .int 0, .int 0, .int 0, .int 0, .int 0, .int 0, .int 0, .int 0, .ref q_3, .int 0, .int 0, .int 0, .ref q_4, .ref q_5, .ref q_6, .int 0, .int 0, .int 0, .int 0, .ref q_7, .ref q_8, .ref q_9, .null, .null, .null, .int 0, .int 0, .int 0, .int 0, .int 0, .int 0, .int 0, .int 0, .int 0, .int 0, .int 0, .int 0, .null, .null, .null, .int 0]))], [(q_1, .inl (T.2 0, 3952, .inl (fun _ => 0)))], [(q_2, .inl (T.2 2, 3, .inl (fun _ => 0)))], [(q_3, .inl (T.2 0, 121, .inl (fun _ => 0)))], [(q_4, .inl (T.2 0, 7, .inl (fun _ => 0)))], [(q_5, .inl (T.2 0, 7, .inl (fun _ => 0)))], [(q_6, .inl (T.2 0, 7, .inl (fun _ => 0)))], [(q_7, .inl (T.2 0, 7, .inl (fun _ => 0)))], [(q_8, .inl (T.2 0, 7, .inl (fun _ => 0)))], [(q_9, .inl (T.2 0, 16384, .inl (fun _ => 0)))], [(q_10, .inl (T.2 0, 512, .inl (fun _ => 0)))]] _ _ := G
  refine z_putF C G hnm clX12 0 rfl 24 (by decide) m_fl_RX12_38 rfl rfl rfl rfl (Nat.le_of_ble_eq_true rfl) dX12_init_83 (fun H locs G => ?_)
  have G : zS T A s.heap s [[(y, .inr (11, [.ref q_1, .ref q_2, .int 0, .int 0, .int 0, .int 0, .int 0, .int 0, .int 0, .int 0, .ref q_3, .int 0, .int 0, .int 0, .ref q_4, .ref q_5, .ref q_6, .int 0, .int 0, .int 0, .int 0, .ref q_7, .ref q_8, .ref q_9, .ref q_10, .null, .null, .int 0, .int 0, .int 0, .int 0, .int 0, .int 0, .int 0, .int 0, .int 0, .int 0, .int 0, .int 0, .null, .null, .null, .int 0]))], [(q_1, .inl (T.2 0, 3952, .inl (fun _ => 0)))], [(q_2, .inl (T.2 2, 3, .inl (fun _ => 0)))], [(q_3, .inl (T.2 0, 121, .inl (fun _ => 0)))], [(q_4, .inl (T.2 0, 7, .inl (fun _ => 0)))], [(q_5, .inl (T.2 0, 7, .inl (fun _ => 0)))], [(q_6, .inl (T.2 0, 7, .inl (fun _ => 0)))], [(q_7, .inl (T.2 0, 7, .inl (fun _ => 0)))], [(q_8, .inl (T.2 0, 7, .inl (fun _ => 0)))], [(q_9, .inl (T.2 0, 16384, .inl (fun _ => 0)))], [(q_10, .inl (T.2 0, 512, .inl (fun _ => 0)))]] _ _ := G
  refine lv_aload_n hx hb dX12_init_86 rfl (lv_at hl 0 rfl) ?_
  refine lv_bipush (v := 49) hx hb dX12_init_87 (by decide) ?_
  refine z_newa C G 0 (ty := .int) (N' := 49) (a0 := (49, .inl (fun _ => 0))) rfl z_uint m_ar_int rfl (fun _ => rfl) (by decide) (by decide) (Nat.le_of_ble_eq_true rfl) (Nat.le_of_ble_eq_true rfl) (Nat.le_of_ble_eq_true rfl) dX12_init_89 (fun q_11 H G => ?_)
  have G : zS T A s.heap s [[(y, .inr (11, [.ref q_1, .ref q_2, .int 0, .int 0, .int 0, .int 0, .int 0, .int 0, .int 0, .int 0, .ref q_3, .int 0, .int 0, .int 0, .ref q_4, .ref q_5, .ref q_6, .int 0, .int 0, .int 0, .int 0, .ref q_7, .ref q_8, .ref q_9, .ref q_10, .null, .null, .int 0, .int 0, .int 0, .int 0, .int 0, .int 0, .int 0, .int 0, .int 0, .int 0, .int 0, .int 0, .null, .null, .null, .int 0]))], [(q_1, .inl (T.2 0, 3952, .inl (fun _ => 0)))], [(q_2, .inl (T.2 2, 3, .inl (fun _ => 0)))], [(q_3, .inl (T.2 0, 121, .inl (fun _ => 0)))], [(q_4, .inl (T.2 0, 7, .inl (fun _ => 0)))], [(q_5, .inl (T.2 0, 7, .inl (fun _ => 0)))], [(q_6, .inl (T.2 0, 7, .inl (fun _ => 0)))], [(q_7, .inl (T.2 0, 7, .inl (fun _ => 0)))], [(q_8, .inl (T.2 0, 7, .inl (fun _ => 0)))], [(q_9, .inl (T.2 0, 16384, .inl (fun _ => 0)))], [(q_10, .inl (T.2 0, 512, .inl (fun _ => 0)))], [(q_11, .inl (T.2 0, 49, .inl (fun _ => 0)))]] _ _ := G
  refine z_putF C G hnm clX12 0 rfl 25 (by decide) m_fl_RX12_41 rfl rfl rfl rfl (Nat.le_of_ble_eq_true rfl) dX12_init_91 (fun H locs G => ?_)
  have G : zS T A s.heap s [[(y, .inr (11, [.ref q_1, .ref q_2, .int 0, .int 0, .int 0, .int 0, .int 0, .int 0, .int 0, .int 0, .ref q_3, .int 0, .int 0, .int 0, .ref q_4, .ref q_5, .ref q_6, .int 0, .int 0, .int 0, .int 0, .ref q_7, .ref q_8, .ref q_9, .ref q_10, .ref q_11, .null, .int 0, .int 0, .int 0, .int 0, .int 0, .int 0, .int 0, .int 0, .int 0, .int 0, .int 0, .int 0, .null, .null, .null, .int 0]))], [(q_1, .inl (T.2 0, 3952, .inl (fun _ => 0)))], [(q_2, .inl (T.2 2, 3, .inl (fun _ => 0)))], [(q_3, .inl (T.2 0, 121, .inl (fun _ => 0)))], [(q_4, .inl (T.2 0, 7, .inl (fun _ => 0)))], [(q_5, .inl (T.2 0, 7, .inl (fun _ => 0)))], [(q_6, .inl (T.2 0, 7, .inl (fun _ => 0)))], [(q_7, .inl (T.2 0, 7, .inl (fun _ => 0)))], [(q_8, .inl (T.2 0, 7, .inl (fun _ => 0)))], [(q_9, .inl (T.2 0, 16384, .inl (fun _ => 0)))], [(q_10, .inl (T.2 0, 512, .inl (fun _ => 0)))], [(q_11, .inl (T.2 0, 49, .inl (fun _ => 0)))]] _ _ := G
  refine lv_aload_n hx hb dX12_init_94 rfl (lv_at hl 0 rfl) ?_
  refine lv_bipush (v := 7) hx hb dX12_init_95 (by decide) ?_
  refine z_newa C G 0 (ty := .int) (N' := 7) (a0 := (7, .inl (fun _ => 0))) rfl z_uint m_ar_int rfl (fun _ => rfl) (by decide) (by decide) (Nat.le_of_ble_eq_true rfl) (Nat.le_of_ble_eq_true rfl) (Nat.le_of_ble_eq_true rfl) dX12_init_97 (fun q_12 H G => ?_)
  have G : zS T A s.heap s [[(y, .inr (11, [.ref q_1, .ref q_2, .int 0, .int 0, .int 0, .int 0, .int 0, .int 0, .int 0, .int 0, .ref q_3, .int 0, .int 0, .int 0, .ref q_4, .ref q_5, .ref q_6, .int 0, .int 0, .int 0, .int 0, .ref q_7, .ref q_8, .ref q_9, .ref q_10, .ref q_11, .null, .int 0, .int 0, .int 0, .int 0, .int 0, .int 0, .int 0, .int 0, .int 0, .int 0, .int 0, .int 0, .null, .null, .null, .int 0]))], [(q_1, .inl (T.2 0, 3952, .inl (fun _ => 0)))], [(q_2, .inl (T.2 2, 3, .inl (fun _ => 0)))], [(q_3, .inl (T.2 0, 121, .inl (fun _ => 0)))], [(q_4, .inl (T.2 0, 7, .inl (fun _ => 0)))], [(q_5, .inl (T.2 0, 7, .inl (fun _ => 0)))], [(q_6, .inl (T.2 0, 7, .inl (fun _ => 0)))], [(q_7, .inl (T.2 0, 7, .inl (fun _ => 0)))], [(q_8, .inl (T.2 0, 7, .inl (fun _ => 0)))], [(q_9, .inl (T.2 0, 16384, .inl (fun _ => 0)))], [(q_10, .inl (T.2 0, 512, .inl (fun _ => 0)))], [(q_11, .inl (T.2 0, 49, .inl (fun _ => 0)))], [(q_12, .inl (T.2 0, 7, .inl (fun _ => 0)))]] _ _ := G
  refine z_putF C G hnm clX12 0 rfl 26 (by decide) m_fl_RX12_44 rfl rfl rfl rfl (Nat.le_of_ble_eq_true rfl) dX12_init_99 (fun H locs G => ?_)
  have G : zS T A s.heap s [[(y, .inr (11, [.ref q_1, .ref q_2, .int 0, .int 0, .int 0, .int 0, .int 0, .int 0, .int 0, .int 0, .ref q_3, .int 0, .int 0, .int 0, .ref q_4, .ref q_5, .ref q_6, .int 0, .int 0, .int 0, .int 0, .ref q_7, .ref q_8, .ref q_9, .ref q_10, .ref q_11, .ref q_12, .int 0, .int 0, .int 0, .int 0, .int 0, .int 0, .int 0, .int 0, .int 0, .int 0, .int 0, .int 0, .null, .null, .null, .int 0]))], [(q_1, .inl (T.2 0, 3952, .inl (fun _ => 0)))], [(q_2, .inl (T.2 2, 3, .inl (fun _ => 0)))], [(q_3, .inl (T.2 0, 121, .inl (fun _ => 0)))], [(q_4, .inl (T.2 0, 7, .inl (fun _ => 0)))], [(q_5, .inl (T.2 0, 7, .inl (fun _ => 0)))], [(q_6, .inl (T.2 0, 7, .inl (fun _ => 0)))], [(q_7, .inl (T.2 0, 7, .inl (fun _ => 0)))], [(q_8, .inl (T.2 0, 7, .inl (fun _ => 0)))], [(q_9, .inl (T.2 0, 16384, .inl (fun _ => 0)))], [(q_10, .inl (T.2 0, 512, .inl (fun _ => 0)))], [(q_11, .inl (T.2 0, 49, .inl (fun _ => 0)))], [(q_12, .inl (T.2 0, 7, .inl (fun _ => 0)))]] _ _ := G
  refine lv_aload_n hx hb dX12_init_102 rfl (lv_at hl 0 rfl) ?_
  refine lv_bipush (v := 28) hx hb dX12_init_103 (by decide) ?_
  refine z_newa C G 0 (ty := .int) (N' := 28) (a0 := (28, .inl (fun _ => 0))) rfl z_uint m_ar_int rfl (fun _ => rfl) (by decide) (by decide) (Nat.le_of_ble_eq_true rfl) (Nat.le_of_ble_eq_true rfl) (Nat.le_of_ble_eq_true rfl) dX12_init_105 (fun q_13 H G => ?_)
  have G : zS T A s.heap s [[(y, .inr (11, [.ref q_1, .ref q_2, .int 0, .int 0, .int 0, .int 0, .int 0, .int 0, .int 0, .int 0, .ref q_3, .int 0, .int 0, .int 0, .ref q_4, .ref q_5, .ref q_6, .int 0, .int 0, .int 0, .int 0, .ref q_7, .ref q_8, .ref q_9, .ref q_10, .ref q_11, .ref q_12, .int 0, .int 0, .int 0, .int 0, .int 0, .int 0, .int 0, .int 0, .int 0, .int 0, .int 0, .int 0, .null, .null, .null, .int 0]))], [(q_1, .inl (T.2 0, 3952, .inl (fun _ => 0)))], [(q_2, .inl (T.2 2, 3, .inl (fun _ => 0)))], [(q_3, .inl (T.2 0, 121, .inl (fun _ => 0)))], [(q_4, .inl (T.2 0, 7, .inl (fun _ => 0)))], [(q_5, .inl (T.2 0, 7, .inl (fun _ => 0)))], [(q_6, .inl (T.2 0, 7, .inl (fun _ => 0)))], [(q_7, .inl (T.2 0, 7, .inl (fun _ => 0)))], [(q_8, .inl (T.2 0, 7, .inl (fun _ => 0)))], [(q_9, .inl (T.2 0, 16384, .inl (fun _ => 0)))], [(q_10, .inl (T.2 0, 512, .inl (fun _ => 0)))], [(q_11, .inl (T.2 0, 49, .inl (fun _ => 0)))], [(q_12, .inl (T.2 0, 7, .inl (fun _ => 0)))], [(q_13, .inl (T.2 0, 28, .inl (fun _ => 0)))]] _ _ := G
  refine z_putF C G hnm clX12 0 rfl 39 (by decide) m_fl_RX12_47 rfl rfl rfl rfl (Nat.le_of_ble_eq_true rfl) dX12_init_107 (fun H locs G => ?_)
  have G : zS T A s.heap s [[(y, .inr (11, [.ref q_1, .ref q_2, .int 0, .int 0, .int 0, .int 0, .int 0, .int 0, .int 0, .int 0, .ref q_3, .int 0, .int 0, .int 0, .ref q_4, .ref q_5, .ref q_6, .int 0, .int 0, .int 0, .int 0, .ref q_7, .ref q_8, .ref q_9, .ref q_10, .ref q_11, .ref q_12, .int 0, .int 0, .int 0, .int 0, .int 0, .int 0, .int 0, .int 0, .int 0, .int 0, .int 0, .int 0, .ref q_13, .null, .null, .int 0]))], [(q_1, .inl (T.2 0, 3952, .inl (fun _ => 0)))], [(q_2, .inl (T.2 2, 3, .inl (fun _ => 0)))], [(q_3, .inl (T.2 0, 121, .inl (fun _ => 0)))], [(q_4, .inl (T.2 0, 7, .inl (fun _ => 0)))], [(q_5, .inl (T.2 0, 7, .inl (fun _ => 0)))], [(q_6, .inl (T.2 0, 7, .inl (fun _ => 0)))], [(q_7, .inl (T.2 0, 7, .inl (fun _ => 0)))], [(q_8, .inl (T.2 0, 7, .inl (fun _ => 0)))], [(q_9, .inl (T.2 0, 16384, .inl (fun _ => 0)))], [(q_10, .inl (T.2 0, 512, .inl (fun _ => 0)))], [(q_11, .inl (T.2 0, 49, .inl (fun _ => 0)))], [(q_12, .inl (T.2 0, 7, .inl (fun _ => 0)))], [(q_13, .inl (T.2 0, 28, .inl (fun _ => 0)))]] _ _ := G
  refine lv_aload_n hx hb dX12_init_110 rfl (lv_at hl 0 rfl) ?_
  refine lv_bipush (v := 49) hx hb dX12_init_111 (by decide) ?_
  refine z_newa C G 0 (ty := .int) (N' := 49) (a0 := (49, .inl (fun _ => 0))) rfl z_uint m_ar_int rfl (fun _ => rfl) (by decide) (by decide) (Nat.le_of_ble_eq_true rfl) (Nat.le_of_ble_eq_true rfl) (Nat.le_of_ble_eq_true rfl) dX12_init_113 (fun q_14 H G => ?_)
  have G : zS T A s.heap s [[(y, .inr (11, [.ref q_1, .ref q_2, .int 0, .int 0, .int 0, .int 0, .int 0, .int 0, .int 0, .int 0, .ref q_3, .int 0, .int 0, .int 0, .ref q_4, .ref q_5, .ref q_6, .int 0, .int 0, .int 0, .int 0, .ref q_7, .ref q_8, .ref q_9, .ref q_10, .ref q_11, .ref q_12, .int 0, .int 0, .int 0, .int 0, .int 0, .int 0, .int 0, .int 0, .int 0, .int 0, .int 0, .int 0, .ref q_13, .null, .null, .int 0]))], [(q_1, .inl (T.2 0, 3952, .inl (fun _ => 0)))], [(q_2, .inl (T.2 2, 3, .inl (fun _ => 0)))], [(q_3, .inl (T.2 0, 121, .inl (fun _ => 0)))], [(q_4, .inl (T.2 0, 7, .inl (fun _ => 0)))], [(q_5, .inl (T.2 0, 7, .inl (fun _ => 0)))], [(q_6, .inl (T.2 0, 7, .inl (fun _ => 0)))], [(q_7, .inl (T.2 0, 7, .inl (fun _ => 0)))], [(q_8, .inl (T.2 0, 7, .inl (fun _ => 0)))], [(q_9, .inl (T.2 0, 16384, .inl (fun _ => 0)))], [(q_10, .inl (T.2 0, 512, .inl (fun _ => 0)))], [(q_11, .inl (T.2 0, 49, .inl (fun _ => 0)))], [(q_12, .inl (T.2 0, 7, .inl (fun _ => 0)))], [(q_13, .inl (T.2 0, 28, .inl (fun _ => 0)))], [(q_14, .inl (T.2 0, 49, .inl (fun _ => 0)))]] _ _ := G
  refine z_putF C G hnm clX12 0 rfl 40 (by decide) m_fl_RX12_50 rfl rfl rfl rfl (Nat.le_of_ble_eq_true rfl) dX12_init_115 (fun H locs G => ?_)
  have G : zS T A s.heap s [[(y, .inr (11, [.ref q_1, .ref q_2, .int 0, .int 0, .int 0, .int 0, .int 0, .int 0, .int 0, .int 0, .ref q_3, .int 0, .int 0, .int 0, .ref q_4, .ref q_5, .ref q_6, .int 0, .int 0, .int 0, .int 0, .ref q_7, .ref q_8, .ref q_9, .ref q_10, .ref q_11, .ref q_12, .int 0, .int 0, .int 0, .int 0, .int 0, .int 0, .int 0, .int 0, .int 0, .int 0, .int 0, .int 0, .ref q_13, .ref q_14, .null, .int 0]))], [(q_1, .inl (T.2 0, 3952, .inl (fun _ => 0)))], [(q_2, .inl (T.2 2, 3, .inl (fun _ => 0)))], [(q_3, .inl (T.2 0, 121, .inl (fun _ => 0)))], [(q_4, .inl (T.2 0, 7, .inl (fun _ => 0)))], [(q_5, .inl (T.2 0, 7, .inl (fun _ => 0)))], [(q_6, .inl (T.2 0, 7, .inl (fun _ => 0)))], [(q_7, .inl (T.2 0, 7, .inl (fun _ => 0)))], [(q_8, .inl (T.2 0, 7, .inl (fun _ => 0)))], [(q_9, .inl (T.2 0, 16384, .inl (fun _ => 0)))], [(q_10, .inl (T.2 0, 512, .inl (fun _ => 0)))], [(q_11, .inl (T.2 0, 49, .inl (fun _ => 0)))], [(q_12, .inl (T.2 0, 7, .inl (fun _ => 0)))], [(q_13, .inl (T.2 0, 28, .inl (fun _ => 0)))], [(q_14, .inl (T.2 0, 49, .inl (fun _ => 0)))]] _ _ := G
  refine lv_aload_n hx hb dX12_init_118 rfl (lv_at hl 0 rfl) ?_
  refine lv_bipush (v := 7) hx hb dX12_init_119 (by decide) ?_
  refine z_newa C G 0 (ty := .int) (N' := 7) (a0 := (7, .inl (fun _ => 0))) rfl z_uint m_ar_int rfl (fun _ => rfl) (by decide) (by decide) (Nat.le_of_ble_eq_true rfl) (Nat.le_of_ble_eq_true rfl) (Nat.le_of_ble_eq_true rfl) dX12_init_121 (fun q_15 H G => ?_)
  have G : zS T A s.heap s [[(y, .inr (11, [.ref q_1, .ref q_2, .int 0, .int 0, .int 0, .int 0, .int 0, .int 0, .int 0, .int 0, .ref q_3, .int 0, .int 0, .int 0, .ref q_4, .ref q_5, .ref q_6, .int 0, .int 0, .int 0, .int 0, .ref q_7, .ref q_8, .ref q_9, .ref q_10, .ref q_11, .ref q_12, .int 0, .int 0, .int 0, .int 0, .int 0, .int 0, .int 0, .int 0, .int 0, .int 0, .int 0, .int 0, .ref q_13, .ref q_14, .null, .int 0]))], [(q_1, .inl (T.2 0, 3952, .inl (fun _ => 0)))], [(q_2, .inl (T.2 2, 3, .inl (fun _ => 0)))], [(q_3, .inl (T.2 0, 121, .inl (fun _ => 0)))], [(q_4, .inl (T.2 0, 7, .inl (fun _ => 0)))], [(q_5, .inl (T.2 0, 7, .inl (fun _ => 0)))], [(q_6, .inl (T.2 0, 7, .inl (fun _ => 0)))], [(q_7, .inl (T.2 0, 7, .inl (fun _ => 0)))], [(q_8, .inl (T.2 0, 7, .inl (fun _ => 0)))], [(q_9, .inl (T.2 0, 16384, .inl (fun _ => 0)))], [(q_10, .inl (T.2 0, 512, .inl (fun _ => 0)))], [(q_11, .inl (T.2 0, 49, .inl (fun _ => 0)))], [(q_12, .inl (T.2 0, 7, .inl (fun _ => 0)))], [(q_13, .inl (T.2 0, 28, .inl (fun _ => 0)))], [(q_14, .inl (T.2 0, 49, .inl (fun _ => 0)))], [(q_15, .inl (T.2 0, 7, .inl (fun _ => 0)))]] _ _ := G
  refine z_putF C G hnm clX12 0 rfl 41 (by decide) m_fl_RX12_53 rfl rfl rfl rfl (Nat.le_of_ble_eq_true rfl) dX12_init_123 (fun H locs G => ?_)
  have G : zS T A s.heap s [[(y, .inr (11, [.ref q_1, .ref q_2, .int 0, .int 0, .int 0, .int 0, .int 0, .int 0, .int 0, .int 0, .ref q_3, .int 0, .int 0, .int 0, .ref q_4, .ref q_5, .ref q_6, .int 0, .int 0, .int 0, .int 0, .ref q_7, .ref q_8, .ref q_9, .ref q_10, .ref q_11, .ref q_12, .int 0, .int 0, .int 0, .int 0, .int 0, .int 0, .int 0, .int 0, .int 0, .int 0, .int 0, .int 0, .ref q_13, .ref q_14, .ref q_15, .int 0]))], [(q_1, .inl (T.2 0, 3952, .inl (fun _ => 0)))], [(q_2, .inl (T.2 2, 3, .inl (fun _ => 0)))], [(q_3, .inl (T.2 0, 121, .inl (fun _ => 0)))], [(q_4, .inl (T.2 0, 7, .inl (fun _ => 0)))], [(q_5, .inl (T.2 0, 7, .inl (fun _ => 0)))], [(q_6, .inl (T.2 0, 7, .inl (fun _ => 0)))], [(q_7, .inl (T.2 0, 7, .inl (fun _ => 0)))], [(q_8, .inl (T.2 0, 7, .inl (fun _ => 0)))], [(q_9, .inl (T.2 0, 16384, .inl (fun _ => 0)))], [(q_10, .inl (T.2 0, 512, .inl (fun _ => 0)))], [(q_11, .inl (T.2 0, 49, .inl (fun _ => 0)))], [(q_12, .inl (T.2 0, 7, .inl (fun _ => 0)))], [(q_13, .inl (T.2 0, 28, .inl (fun _ => 0)))], [(q_14, .inl (T.2 0, 49, .inl (fun _ => 0)))], [(q_15, .inl (T.2 0, 7, .inl (fun _ => 0)))]] _ _ := G
  refine lv_aload_n hx hb dX12_init_126 rfl (lv_at hl 0 rfl) ?_
  refine z_get C G clX12 0 rfl 0 (by decide) m_fl_RX12_7 rfl dX12_init_127 ?_
  refine lv_bipush (v := 6) hx hb dX12_init_130 (by decide) ?_
  refine lv_iconst (v := (-1)) hx hb dX12_init_132 (by decide) ?_
  refine z_ist C G 1 rfl (vp_in_nI (n := 6) (by decide) (by decide)) dX12_init_133 (fun H locs G => ?_)
  have G : zS T A s.heap s [[(y, .inr (11, [.ref q_1, .ref q_2, .int 0, .int 0, .int 0, .int 0, .int 0, .int 0, .int 0, .int 0, .ref q_3, .int 0, .int 0, .int 0, .ref q_4, .ref q_5, .ref q_6, .int 0, .int 0, .int 0, .int 0, .ref q_7, .ref q_8, .ref q_9, .ref q_10, .ref q_11, .ref q_12, .int 0, .int 0, .int 0, .int 0, .int 0, .int 0, .int 0, .int 0, .int 0, .int 0, .int 0, .int 0, .ref q_13, .ref q_14, .ref q_15, .int 0]))], [(q_1, .inl (T.2 0, 3952, .inl (upd (fun _ => 0) 6 (-1))))], [(q_2, .inl (T.2 2, 3, .inl (fun _ => 0)))], [(q_3, .inl (T.2 0, 121, .inl (fun _ => 0)))], [(q_4, .inl (T.2 0, 7, .inl (fun _ => 0)))], [(q_5, .inl (T.2 0, 7, .inl (fun _ => 0)))], [(q_6, .inl (T.2 0, 7, .inl (fun _ => 0)))], [(q_7, .inl (T.2 0, 7, .inl (fun _ => 0)))], [(q_8, .inl (T.2 0, 7, .inl (fun _ => 0)))], [(q_9, .inl (T.2 0, 16384, .inl (fun _ => 0)))], [(q_10, .inl (T.2 0, 512, .inl (fun _ => 0)))], [(q_11, .inl (T.2 0, 49, .inl (fun _ => 0)))], [(q_12, .inl (T.2 0, 7, .inl (fun _ => 0)))], [(q_13, .inl (T.2 0, 28, .inl (fun _ => 0)))], [(q_14, .inl (T.2 0, 49, .inl (fun _ => 0)))], [(q_15, .inl (T.2 0, 7, .inl (fun _ => 0)))]] _ _ := G
  exact z_vret C hr hlocks G (Nat.le_of_ble_eq_true rfl) (Nat.le_of_ble_eq_true rfl) dX12_init_134 ⟨q_1, q_2, q_3, q_4, q_5, q_6, q_7, q_8, q_9, q_10, q_11, q_12, q_13, q_14, q_15, rfl⟩
set_option maxHeartbeats 4000000 in
set_option maxRecDepth 100000 in
/-- isIn -/
theorem c_isIn (l : Launch) (T : zTy) (v : Int32) (lo : Int32) (hi : Int32) : zMi l T yX12_isIn cX12_isIn 3 (some .boolean) 1 0 0 [.int v, .int lo, .int hi] [] (fun (r : Int32) bs => bs = [] ∧ ((r = 1 ∧ lo.toInt ≤ v.toInt ∧ v.toInt ≤ hi.toInt) ∨ (r = 0 ∧ (v.toInt < lo.toInt ∨ hi.toInt < v.toInt)))) := by
  refine zMi_of (own := RX12) (by decide) rfl (Nat.le_of_ble_eq_true rfl) ?_
  intro p e s m args below meth c A ls C hr hlocks hnm hAe G hl
  have hx := C.1
  have hb := C.2.1
  have hl : lv_has ls 3 [(0, .int v), (1, .int lo), (2, .int hi)] := hl
  refine lv_iload_n hx hb dX12_isIn_0 rfl (lv_at hl 0 rfl) ?_
  refine lv_iload_n hx hb dX12_isIn_1 rfl (lv_at hl 1 rfl) ?_
  refine lv_icmp_lt (tgt := 14) hx hb dX12_isIn_2 (by decide) (fun c_1 => ?_) (fun c_1 => ?_)
  · have c_1n : v.toInt < lo.toInt := (fa_lt _ _).mp c_1
    refine lv_iconst (v := 0) hx hb dX12_isIn_14 (by decide) ?_
    exact z_zret C hr hlocks G (Nat.le_of_ble_eq_true rfl) (Nat.le_of_ble_eq_true rfl) dX12_isIn_15 rfl ⟨rfl, (Or.inr (⟨rfl, (by first | assumption | omega)⟩))⟩
  · have c_1n : ¬ v.toInt < lo.toInt := fun q => c_1 ((fa_lt _ _).mpr q)
    refine lv_iload_n hx hb dX12_isIn_5 rfl (lv_at hl 0 rfl) ?_
    refine lv_iload_n hx hb dX12_isIn_6 rfl (lv_at hl 2 rfl) ?_
    refine lv_icmp_gt (tgt := 14) hx hb dX12_isIn_7 (by decide) (fun c_2 => ?_) (fun c_2 => ?_)
    · have c_2n : hi.toInt < v.toInt := (fa_lt _ _).mp c_2
      refine lv_iconst (v := 0) hx hb dX12_isIn_14 (by decide) ?_
      exact z_zret C hr hlocks G (Nat.le_of_ble_eq_true rfl) (Nat.le_of_ble_eq_true rfl) dX12_isIn_15 rfl ⟨rfl, (Or.inr (⟨rfl, (by first | assumption | omega)⟩))⟩
    · have c_2n : ¬ hi.toInt < v.toInt := fun q => c_2 ((fa_lt _ _).mpr q)
      refine lv_iconst (v := 1) hx hb dX12_isIn_10 (by decide) ?_
      refine lv_goto (tgt := 15) hx hb dX12_isIn_11 (by decide) ?_
      exact z_zret C hr hlocks G (Nat.le_of_ble_eq_true rfl) (Nat.le_of_ble_eq_true rfl) dX12_isIn_15 rfl ⟨rfl, (Or.inl (⟨rfl, (by first | assumption | omega), (by first | assumption | omega)⟩))⟩
set_option maxHeartbeats 4000000 in
set_option maxRecDepth 100000 in
/-- isOf: there is none -/
theorem c_isOf0 (l : Launch) (T : zTy) (y : Nat) (r_all : Nat) (r_has : Nat) (r_read : Nat) (r_posts : Nat) (r_shut : Nat) (r_here : Nat) (r_was : Nat) (r_came : Nat) (r_seenAt : Nat) (r_rowWorth : Nat) (r_farBy : Nat) (r_used : Nat) (r_fitPost : Nat) (r_fitEnd : Nat) (r_keptPosts : Nat) (u_size : Int32) (u_next : Int32) (u_where : Int32) (u_token : Int32) (u_number : Int32) (u_word : Int32) (u_wrong : Int32) (u_farCrossing : Int32) (u_z0 : Int32) (u_crossings : Int32) (u_inns : Int32) (u_steps : Int32) (u_done : Int32) (u_at : Int32) (u_gone : Int32) (u_everywhere : Int32) (u_again0 : Int32) (u_d0 : Int32) (u_never : Int32) (u_firstCame : Int32) (u_longRun : Int32) (u_moved : Int32) (u_crowd : Int32) (u_l0 : Int32) (u_fitMany : Int32) (u_fitLeast : Int32) (u_fitMost : Int32) (u_x0 : Int32) (f : Nat → Int32) (so : Nat) (k : Int32) (hs : f so = 0) (hso : so < 3952) : zMi l T yX12_isOf cX12_isOf 3 (some .boolean) 2 0 0 [.ref y, .int (nI so), .int k] [[(y, .inr (11, [.ref r_all, .ref r_has, .int u_size, .int u_next, .int u_where, .int u_token, .int u_number, .int u_word, .int u_wrong, .int u_farCrossing, .ref r_read, .int u_z0, .int u_crossings, .int u_inns, .ref r_posts, .ref r_shut, .ref r_here, .int u_steps, .int u_done, .int u_at, .int u_gone, .ref r_was, .ref r_came, .ref r_seenAt, .ref r_rowWorth, .ref r_farBy, .ref r_used, .int u_everywhere, .int u_again0, .int u_d0, .int u_never, .int u_firstCame, .int u_longRun, .int u_moved, .int u_crowd, .int u_l0, .int u_fitMany, .int u_fitLeast, .int u_fitMost, .ref r_fitPost, .ref r_fitEnd, .ref r_keptPosts, .int u_x0]))], [(r_all, .inl (T.2 0, 3952, .inl f))]] (fun (r : Int32) bs => bs = [[(y, .inr (11, [.ref r_all, .ref r_has, .int u_size, .int u_next, .int u_where, .int u_token, .int u_number, .int u_word, .int u_wrong, .int u_farCrossing, .ref r_read, .int u_z0, .int u_crossings, .int u_inns, .ref r_posts, .ref r_shut, .ref r_here, .int u_steps, .int u_done, .int u_at, .int u_gone, .ref r_was, .ref r_came, .ref r_seenAt, .ref r_rowWorth, .ref r_farBy, .ref r_used, .int u_everywhere, .int u_again0, .int u_d0, .int u_never, .int u_firstCame, .int u_longRun, .int u_moved, .int u_crowd, .int u_l0, .int u_fitMany, .int u_fitLeast, .int u_fitMost, .ref r_fitPost, .ref r_fitEnd, .ref r_keptPosts, .int u_x0]))], [(r_all, .inl (T.2 0, 3952, .inl f))]] ∧ r = 0) := by
  refine zMi_of (own := RX12) (by decide) rfl (Nat.le_of_ble_eq_true rfl) ?_
  intro p e s m args below meth c A ls C hr hlocks hnm hAe G hl
  have hx := C.1
  have hb := C.2.1
  have hl : lv_has ls 3 [(0, .ref y), (1, .int (nI so)), (2, .int k)] := hl
  refine lv_iload_n hx hb dX12_isOf_0 rfl (lv_at hl 2 rfl) ?_
  refine lv_iconst (v := 0) hx hb dX12_isOf_1 (by decide) ?_
  refine lv_aload_n hx hb dX12_isOf_2 rfl (lv_at hl 0 rfl) ?_
  refine z_get C G clX12 0 rfl 0 (by decide) m_fl_RX12_7 rfl dX12_isOf_3 ?_
  refine lv_iload_n hx hb dX12_isOf_6 rfl (lv_at hl 1 rfl) ?_
  refine z_ild C G 1 rfl (vp_in_nI (by omega) (by omega)) dX12_isOf_7 ?_
  refine lv_topi (fun v_1 ev_1 => ?_)
  rw [nI_clamp (by omega)] at ev_1
  subst ev_1
  rw [hs]
  refine lv_iconst (v := 1) hx hb dX12_isOf_8 (by decide) ?_
  refine lv_isub hx hb dX12_isOf_9 ?_
  refine lv_topi (fun y_2 ey_2 => ?_)
  obtain rfl : y_2 = (-1) := ey_2.trans (by decide)
  refine z_Si (bc := []) (br := [[(y, .inr (11, [.ref r_all, .ref r_has, .int u_size, .int u_next, .int u_where, .int u_token, .int u_number, .int u_word, .int u_wrong, .int u_farCrossing, .ref r_read, .int u_z0, .int u_crossings, .int u_inns, .ref r_posts, .ref r_shut, .ref r_here, .int u_steps, .int u_done, .int u_at, .int u_gone, .ref r_was, .ref r_came, .ref r_seenAt, .ref r_rowWorth, .ref r_farBy, .ref r_used, .int u_everywhere, .int u_again0, .int u_d0, .int u_never, .int u_firstCame, .int u_longRun, .int u_moved, .int u_crowd, .int u_l0, .int u_fitMany, .int u_fitLeast, .int u_fitMost, .ref r_fitPost, .ref r_fitEnd, .ref r_keptPosts, .int u_x0]))], [(r_all, .inl (T.2 0, 3952, .inl f))]]) (As := [.int k, .int 0, .int (-1)]) (rest := []) C G (c_isIn l T k 0 (-1)) (kS_RX12_111 C.2.2.2.2 (Nat.le_of_ble_eq_true rfl) (Nat.le_of_ble_eq_true rfl)) [] [0, 1] rfl rfl rfl rfl hl.1 dX12_isOf_10 (Nat.le_of_ble_eq_true rfl) (Nat.le_of_ble_eq_true rfl) (fun r_4 b1 H locs hw G => ?_)
  obtain ⟨rfl, hc_3⟩ := hw
  have G : zS T A s.heap s [[(y, .inr (11, [.ref r_all, .ref r_has, .int u_size, .int u_next, .int u_where, .int u_token, .int u_number, .int u_word, .int u_wrong, .int u_farCrossing, .ref r_read, .int u_z0, .int u_crossings, .int u_inns, .ref r_posts, .ref r_shut, .ref r_here, .int u_steps, .int u_done, .int u_at, .int u_gone, .ref r_was, .ref r_came, .ref r_seenAt, .ref r_rowWorth, .ref r_farBy, .ref r_used, .int u_everywhere, .int u_again0, .int u_d0, .int u_never, .int u_firstCame, .int u_longRun, .int u_moved, .int u_crowd, .int u_l0, .int u_fitMany, .int u_fitLeast, .int u_fitMost, .ref r_fitPost, .ref r_fitEnd, .ref r_keptPosts, .int u_x0]))], [(r_all, .inl (T.2 0, 3952, .inl f))]] _ _ := G
  rcases hc_3 with ⟨rfl, h_5, h_6⟩ | ⟨rfl, h_7⟩
  · have h_5 : (0 : Int) ≤ k.toInt := h_5
    have h_6 : k.toInt ≤ (-1 : Int) := h_6
    exact absurd (Int.le_trans h_5 h_6) (by omega)
  · have h_7 : (k.toInt < (0 : Int) ∨ (-1 : Int) < k.toInt) := h_7
    exact z_zret C hr hlocks G (Nat.le_of_ble_eq_true rfl) (Nat.le_of_ble_eq_true rfl) dX12_isOf_13 rfl ⟨rfl, rfl⟩
set_option maxHeartbeats 4000000 in
set_option maxRecDepth 100000 in
/-- c_isLand0 -/
theorem c_isLand0 (l : Launch) (T : zTy) (y : Nat) (r_all : Nat) (r_has : Nat) (r_read : Nat) (r_posts : Nat) (r_shut : Nat) (r_here : Nat) (r_was : Nat) (r_came : Nat) (r_seenAt : Nat) (r_rowWorth : Nat) (r_farBy : Nat) (r_used : Nat) (r_fitPost : Nat) (r_fitEnd : Nat) (r_keptPosts : Nat) (u_size : Int32) (u_next : Int32) (u_where : Int32) (u_token : Int32) (u_number : Int32) (u_word : Int32) (u_wrong : Int32) (u_farCrossing : Int32) (u_z0 : Int32) (u_crossings : Int32) (u_inns : Int32) (u_steps : Int32) (u_done : Int32) (u_at : Int32) (u_gone : Int32) (u_everywhere : Int32) (u_again0 : Int32) (u_d0 : Int32) (u_never : Int32) (u_firstCame : Int32) (u_longRun : Int32) (u_moved : Int32) (u_crowd : Int32) (u_l0 : Int32) (u_fitMany : Int32) (u_fitLeast : Int32) (u_fitMost : Int32) (u_x0 : Int32) (f : Nat → Int32) (k : Int32) (hs : f 0 = 0) : zMi l T yX12_isLand cX12_isLand 2 (some .boolean) 3 0 0 [.ref y, .int k] [[(y, .inr (11, [.ref r_all, .ref r_has, .int u_size, .int u_next, .int u_where, .int u_token, .int u_number, .int u_word, .int u_wrong, .int u_farCrossing, .ref r_read, .int u_z0, .int u_crossings, .int u_inns, .ref r_posts, .ref r_shut, .ref r_here, .int u_steps, .int u_done, .int u_at, .int u_gone, .ref r_was, .ref r_came, .ref r_seenAt, .ref r_rowWorth, .ref r_farBy, .ref r_used, .int u_everywhere, .int u_again0, .int u_d0, .int u_never, .int u_firstCame, .int u_longRun, .int u_moved, .int u_crowd, .int u_l0, .int u_fitMany, .int u_fitLeast, .int u_fitMost, .ref r_fitPost, .ref r_fitEnd, .ref r_keptPosts, .int u_x0]))], [(r_all, .inl (T.2 0, 3952, .inl f))]] (fun (r : Int32) bs => bs = [[(y, .inr (11, [.ref r_all, .ref r_has, .int u_size, .int u_next, .int u_where, .int u_token, .int u_number, .int u_word, .int u_wrong, .int u_farCrossing, .ref r_read, .int u_z0, .int u_crossings, .int u_inns, .ref r_posts, .ref r_shut, .ref r_here, .int u_steps, .int u_done, .int u_at, .int u_gone, .ref r_was, .ref r_came, .ref r_seenAt, .ref r_rowWorth, .ref r_farBy, .ref r_used, .int u_everywhere, .int u_again0, .int u_d0, .int u_never, .int u_firstCame, .int u_longRun, .int u_moved, .int u_crowd, .int u_l0, .int u_fitMany, .int u_fitLeast, .int u_fitMost, .ref r_fitPost, .ref r_fitEnd, .ref r_keptPosts, .int u_x0]))], [(r_all, .inl (T.2 0, 3952, .inl f))]] ∧ r = 0) := by
  refine zMi_of (own := RX12) (by decide) rfl (Nat.le_of_ble_eq_true rfl) ?_
  intro p e s m args below meth c A ls C hr hlocks hnm hAe G hl
  have hx := C.1
  have hb := C.2.1
  have hl : lv_has ls 2 [(0, .ref y), (1, .int k)] := hl
  refine lv_aload_n hx hb dX12_isLand_0 rfl (lv_at hl 0 rfl) ?_
  refine lv_iconst (v := 0) hx hb dX12_isLand_1 (by decide) ?_
  refine lv_iload_n hx hb dX12_isLand_2 rfl (lv_at hl 1 rfl) ?_
  refine z_Vi (bc := [[(y, .inr (11, [.ref r_all, .ref r_has, .int u_size, .int u_next, .int u_where, .int u_token, .int u_number, .int u_word, .int u_wrong, .int u_farCrossing, .ref r_read, .int u_z0, .int u_crossings, .int u_inns, .ref r_posts, .ref r_shut, .ref r_here, .int u_steps, .int u_done, .int u_at, .int u_gone, .ref r_was, .ref r_came, .ref r_seenAt, .ref r_rowWorth, .ref r_farBy, .ref r_used, .int u_everywhere, .int u_again0, .int u_d0, .int u_never, .int u_firstCame, .int u_longRun, .int u_moved, .int u_crowd, .int u_l0, .int u_fitMany, .int u_fitLeast, .int u_fitMost, .ref r_fitPost, .ref r_fitEnd, .ref r_keptPosts, .int u_x0]))], [(r_all, .inl (T.2 0, 3952, .inl f))]]) (br := []) (As := [.int 0, .int k]) (rest := []) C G (c_isOf0 l T y r_all r_has r_read r_posts r_shut r_here r_was r_came r_seenAt r_rowWorth r_farBy r_used r_fitPost r_fitEnd r_keptPosts u_size u_next u_where u_token u_number u_word u_wrong u_farCrossing u_z0 u_crossings u_inns u_steps u_done u_at u_gone u_everywhere u_again0 u_d0 u_never u_firstCame u_longRun u_moved u_crowd u_l0 u_fitMany u_fitLeast u_fitMost u_x0 f 0 k (by first | assumption | omega | rfl) (by first | assumption | omega | rfl)) (kV_RX12_143 C.2.2.2.2 (Nat.le_of_ble_eq_true rfl) (Nat.le_of_ble_eq_true rfl)) [0, 1] [] rfl rfl (ci := 11) (qc := (RX12, TX12, 43)) rfl rfl (List.mem_flatten.mpr ⟨_, List.mem_of_getElem? (i := 0) rfl, List.mem_cons_self⟩) rfl rfl hl.1 dX12_isLand_3 (Nat.le_of_ble_eq_true rfl) (Nat.le_of_ble_eq_true rfl) (fun r_2 b1 H locs hw G => ?_)
  obtain ⟨rfl, h_1⟩ := hw
  have G : zS T A s.heap s [[(y, .inr (11, [.ref r_all, .ref r_has, .int u_size, .int u_next, .int u_where, .int u_token, .int u_number, .int u_word, .int u_wrong, .int u_farCrossing, .ref r_read, .int u_z0, .int u_crossings, .int u_inns, .ref r_posts, .ref r_shut, .ref r_here, .int u_steps, .int u_done, .int u_at, .int u_gone, .ref r_was, .ref r_came, .ref r_seenAt, .ref r_rowWorth, .ref r_farBy, .ref r_used, .int u_everywhere, .int u_again0, .int u_d0, .int u_never, .int u_firstCame, .int u_longRun, .int u_moved, .int u_crowd, .int u_l0, .int u_fitMany, .int u_fitLeast, .int u_fitMost, .ref r_fitPost, .ref r_fitEnd, .ref r_keptPosts, .int u_x0]))], [(r_all, .inl (T.2 0, 3952, .inl f))]] _ _ := G
  subst h_1
  refine lv_if_ne (tgt := 11) hx hb dX12_isLand_6 (by decide) (fun q => absurd (by decide) q) (fun _ => ?_)
  refine lv_iconst (v := 0) hx hb dX12_isLand_9 (by decide) ?_
  exact z_zret C hr hlocks G (Nat.le_of_ble_eq_true rfl) (Nat.le_of_ble_eq_true rfl) dX12_isLand_10 rfl ⟨rfl, rfl⟩
set_option maxHeartbeats 4000000 in
set_option maxRecDepth 100000 in
/-- c_isDay0 -/
theorem c_isDay0 (l : Launch) (T : zTy) (y : Nat) (r_all : Nat) (r_has : Nat) (r_read : Nat) (r_posts : Nat) (r_shut : Nat) (r_here : Nat) (r_was : Nat) (r_came : Nat) (r_seenAt : Nat) (r_rowWorth : Nat) (r_farBy : Nat) (r_used : Nat) (r_fitPost : Nat) (r_fitEnd : Nat) (r_keptPosts : Nat) (u_size : Int32) (u_next : Int32) (u_where : Int32) (u_token : Int32) (u_number : Int32) (u_word : Int32) (u_wrong : Int32) (u_farCrossing : Int32) (u_z0 : Int32) (u_crossings : Int32) (u_inns : Int32) (u_steps : Int32) (u_done : Int32) (u_at : Int32) (u_gone : Int32) (u_everywhere : Int32) (u_again0 : Int32) (u_d0 : Int32) (u_never : Int32) (u_firstCame : Int32) (u_longRun : Int32) (u_moved : Int32) (u_crowd : Int32) (u_l0 : Int32) (u_fitMany : Int32) (u_fitLeast : Int32) (u_fitMost : Int32) (u_x0 : Int32) (f : Nat → Int32) (k : Int32) (hs : f 1 = 0) : zMi l T yX12_isDay cX12_isDay 2 (some .boolean) 3 0 0 [.ref y, .int k] [[(y, .inr (11, [.ref r_all, .ref r_has, .int u_size, .int u_next, .int u_where, .int u_token, .int u_number, .int u_word, .int u_wrong, .int u_farCrossing, .ref r_read, .int u_z0, .int u_crossings, .int u_inns, .ref r_posts, .ref r_shut, .ref r_here, .int u_steps, .int u_done, .int u_at, .int u_gone, .ref r_was, .ref r_came, .ref r_seenAt, .ref r_rowWorth, .ref r_farBy, .ref r_used, .int u_everywhere, .int u_again0, .int u_d0, .int u_never, .int u_firstCame, .int u_longRun, .int u_moved, .int u_crowd, .int u_l0, .int u_fitMany, .int u_fitLeast, .int u_fitMost, .ref r_fitPost, .ref r_fitEnd, .ref r_keptPosts, .int u_x0]))], [(r_all, .inl (T.2 0, 3952, .inl f))]] (fun (r : Int32) bs => bs = [[(y, .inr (11, [.ref r_all, .ref r_has, .int u_size, .int u_next, .int u_where, .int u_token, .int u_number, .int u_word, .int u_wrong, .int u_farCrossing, .ref r_read, .int u_z0, .int u_crossings, .int u_inns, .ref r_posts, .ref r_shut, .ref r_here, .int u_steps, .int u_done, .int u_at, .int u_gone, .ref r_was, .ref r_came, .ref r_seenAt, .ref r_rowWorth, .ref r_farBy, .ref r_used, .int u_everywhere, .int u_again0, .int u_d0, .int u_never, .int u_firstCame, .int u_longRun, .int u_moved, .int u_crowd, .int u_l0, .int u_fitMany, .int u_fitLeast, .int u_fitMost, .ref r_fitPost, .ref r_fitEnd, .ref r_keptPosts, .int u_x0]))], [(r_all, .inl (T.2 0, 3952, .inl f))]] ∧ r = 0) := by
  refine zMi_of (own := RX12) (by decide) rfl (Nat.le_of_ble_eq_true rfl) ?_
  intro p e s m args below meth c A ls C hr hlocks hnm hAe G hl
  have hx := C.1
  have hb := C.2.1
  have hl : lv_has ls 2 [(0, .ref y), (1, .int k)] := hl
  refine lv_aload_n hx hb dX12_isDay_0 rfl (lv_at hl 0 rfl) ?_
  refine lv_iconst (v := 1) hx hb dX12_isDay_1 (by decide) ?_
  refine lv_iload_n hx hb dX12_isDay_2 rfl (lv_at hl 1 rfl) ?_
  refine z_Vi (bc := [[(y, .inr (11, [.ref r_all, .ref r_has, .int u_size, .int u_next, .int u_where, .int u_token, .int u_number, .int u_word, .int u_wrong, .int u_farCrossing, .ref r_read, .int u_z0, .int u_crossings, .int u_inns, .ref r_posts, .ref r_shut, .ref r_here, .int u_steps, .int u_done, .int u_at, .int u_gone, .ref r_was, .ref r_came, .ref r_seenAt, .ref r_rowWorth, .ref r_farBy, .ref r_used, .int u_everywhere, .int u_again0, .int u_d0, .int u_never, .int u_firstCame, .int u_longRun, .int u_moved, .int u_crowd, .int u_l0, .int u_fitMany, .int u_fitLeast, .int u_fitMost, .ref r_fitPost, .ref r_fitEnd, .ref r_keptPosts, .int u_x0]))], [(r_all, .inl (T.2 0, 3952, .inl f))]]) (br := []) (As := [.int 1, .int k]) (rest := []) C G (c_isOf0 l T y r_all r_has r_read r_posts r_shut r_here r_was r_came r_seenAt r_rowWorth r_farBy r_used r_fitPost r_fitEnd r_keptPosts u_size u_next u_where u_token u_number u_word u_wrong u_farCrossing u_z0 u_crossings u_inns u_steps u_done u_at u_gone u_everywhere u_again0 u_d0 u_never u_firstCame u_longRun u_moved u_crowd u_l0 u_fitMany u_fitLeast u_fitMost u_x0 f 1 k (by first | assumption | omega | rfl) (by first | assumption | omega | rfl)) (kV_RX12_143 C.2.2.2.2 (Nat.le_of_ble_eq_true rfl) (Nat.le_of_ble_eq_true rfl)) [0, 1] [] rfl rfl (ci := 11) (qc := (RX12, TX12, 43)) rfl rfl (List.mem_flatten.mpr ⟨_, List.mem_of_getElem? (i := 0) rfl, List.mem_cons_self⟩) rfl rfl hl.1 dX12_isDay_3 (Nat.le_of_ble_eq_true rfl) (Nat.le_of_ble_eq_true rfl) (fun r_2 b1 H locs hw G => ?_)
  obtain ⟨rfl, h_1⟩ := hw
  have G : zS T A s.heap s [[(y, .inr (11, [.ref r_all, .ref r_has, .int u_size, .int u_next, .int u_where, .int u_token, .int u_number, .int u_word, .int u_wrong, .int u_farCrossing, .ref r_read, .int u_z0, .int u_crossings, .int u_inns, .ref r_posts, .ref r_shut, .ref r_here, .int u_steps, .int u_done, .int u_at, .int u_gone, .ref r_was, .ref r_came, .ref r_seenAt, .ref r_rowWorth, .ref r_farBy, .ref r_used, .int u_everywhere, .int u_again0, .int u_d0, .int u_never, .int u_firstCame, .int u_longRun, .int u_moved, .int u_crowd, .int u_l0, .int u_fitMany, .int u_fitLeast, .int u_fitMost, .ref r_fitPost, .ref r_fitEnd, .ref r_keptPosts, .int u_x0]))], [(r_all, .inl (T.2 0, 3952, .inl f))]] _ _ := G
  subst h_1
  refine lv_if_ne (tgt := 11) hx hb dX12_isDay_6 (by decide) (fun q => absurd (by decide) q) (fun _ => ?_)
  refine lv_iconst (v := 0) hx hb dX12_isDay_9 (by decide) ?_
  exact z_zret C hr hlocks G (Nat.le_of_ble_eq_true rfl) (Nat.le_of_ble_eq_true rfl) dX12_isDay_10 rfl ⟨rfl, rfl⟩
set_option maxHeartbeats 4000000 in
set_option maxRecDepth 100000 in
/-- c_isLog0 -/
theorem c_isLog0 (l : Launch) (T : zTy) (y : Nat) (r_all : Nat) (r_has : Nat) (r_read : Nat) (r_posts : Nat) (r_shut : Nat) (r_here : Nat) (r_was : Nat) (r_came : Nat) (r_seenAt : Nat) (r_rowWorth : Nat) (r_farBy : Nat) (r_used : Nat) (r_fitPost : Nat) (r_fitEnd : Nat) (r_keptPosts : Nat) (u_size : Int32) (u_next : Int32) (u_where : Int32) (u_token : Int32) (u_number : Int32) (u_word : Int32) (u_wrong : Int32) (u_farCrossing : Int32) (u_z0 : Int32) (u_crossings : Int32) (u_inns : Int32) (u_steps : Int32) (u_done : Int32) (u_at : Int32) (u_gone : Int32) (u_everywhere : Int32) (u_again0 : Int32) (u_d0 : Int32) (u_never : Int32) (u_firstCame : Int32) (u_longRun : Int32) (u_moved : Int32) (u_crowd : Int32) (u_l0 : Int32) (u_fitMany : Int32) (u_fitLeast : Int32) (u_fitMost : Int32) (u_x0 : Int32) (f : Nat → Int32) (k : Int32) (hs : f 2 = 0) : zMi l T yX12_isLog cX12_isLog 2 (some .boolean) 3 0 0 [.ref y, .int k] [[(y, .inr (11, [.ref r_all, .ref r_has, .int u_size, .int u_next, .int u_where, .int u_token, .int u_number, .int u_word, .int u_wrong, .int u_farCrossing, .ref r_read, .int u_z0, .int u_crossings, .int u_inns, .ref r_posts, .ref r_shut, .ref r_here, .int u_steps, .int u_done, .int u_at, .int u_gone, .ref r_was, .ref r_came, .ref r_seenAt, .ref r_rowWorth, .ref r_farBy, .ref r_used, .int u_everywhere, .int u_again0, .int u_d0, .int u_never, .int u_firstCame, .int u_longRun, .int u_moved, .int u_crowd, .int u_l0, .int u_fitMany, .int u_fitLeast, .int u_fitMost, .ref r_fitPost, .ref r_fitEnd, .ref r_keptPosts, .int u_x0]))], [(r_all, .inl (T.2 0, 3952, .inl f))]] (fun (r : Int32) bs => bs = [[(y, .inr (11, [.ref r_all, .ref r_has, .int u_size, .int u_next, .int u_where, .int u_token, .int u_number, .int u_word, .int u_wrong, .int u_farCrossing, .ref r_read, .int u_z0, .int u_crossings, .int u_inns, .ref r_posts, .ref r_shut, .ref r_here, .int u_steps, .int u_done, .int u_at, .int u_gone, .ref r_was, .ref r_came, .ref r_seenAt, .ref r_rowWorth, .ref r_farBy, .ref r_used, .int u_everywhere, .int u_again0, .int u_d0, .int u_never, .int u_firstCame, .int u_longRun, .int u_moved, .int u_crowd, .int u_l0, .int u_fitMany, .int u_fitLeast, .int u_fitMost, .ref r_fitPost, .ref r_fitEnd, .ref r_keptPosts, .int u_x0]))], [(r_all, .inl (T.2 0, 3952, .inl f))]] ∧ r = 0) := by
  refine zMi_of (own := RX12) (by decide) rfl (Nat.le_of_ble_eq_true rfl) ?_
  intro p e s m args below meth c A ls C hr hlocks hnm hAe G hl
  have hx := C.1
  have hb := C.2.1
  have hl : lv_has ls 2 [(0, .ref y), (1, .int k)] := hl
  refine lv_aload_n hx hb dX12_isLog_0 rfl (lv_at hl 0 rfl) ?_
  refine lv_iconst (v := 2) hx hb dX12_isLog_1 (by decide) ?_
  refine lv_iload_n hx hb dX12_isLog_2 rfl (lv_at hl 1 rfl) ?_
  refine z_Vi (bc := [[(y, .inr (11, [.ref r_all, .ref r_has, .int u_size, .int u_next, .int u_where, .int u_token, .int u_number, .int u_word, .int u_wrong, .int u_farCrossing, .ref r_read, .int u_z0, .int u_crossings, .int u_inns, .ref r_posts, .ref r_shut, .ref r_here, .int u_steps, .int u_done, .int u_at, .int u_gone, .ref r_was, .ref r_came, .ref r_seenAt, .ref r_rowWorth, .ref r_farBy, .ref r_used, .int u_everywhere, .int u_again0, .int u_d0, .int u_never, .int u_firstCame, .int u_longRun, .int u_moved, .int u_crowd, .int u_l0, .int u_fitMany, .int u_fitLeast, .int u_fitMost, .ref r_fitPost, .ref r_fitEnd, .ref r_keptPosts, .int u_x0]))], [(r_all, .inl (T.2 0, 3952, .inl f))]]) (br := []) (As := [.int 2, .int k]) (rest := []) C G (c_isOf0 l T y r_all r_has r_read r_posts r_shut r_here r_was r_came r_seenAt r_rowWorth r_farBy r_used r_fitPost r_fitEnd r_keptPosts u_size u_next u_where u_token u_number u_word u_wrong u_farCrossing u_z0 u_crossings u_inns u_steps u_done u_at u_gone u_everywhere u_again0 u_d0 u_never u_firstCame u_longRun u_moved u_crowd u_l0 u_fitMany u_fitLeast u_fitMost u_x0 f 2 k (by first | assumption | omega | rfl) (by first | assumption | omega | rfl)) (kV_RX12_143 C.2.2.2.2 (Nat.le_of_ble_eq_true rfl) (Nat.le_of_ble_eq_true rfl)) [0, 1] [] rfl rfl (ci := 11) (qc := (RX12, TX12, 43)) rfl rfl (List.mem_flatten.mpr ⟨_, List.mem_of_getElem? (i := 0) rfl, List.mem_cons_self⟩) rfl rfl hl.1 dX12_isLog_3 (Nat.le_of_ble_eq_true rfl) (Nat.le_of_ble_eq_true rfl) (fun r_2 b1 H locs hw G => ?_)
  obtain ⟨rfl, h_1⟩ := hw
  have G : zS T A s.heap s [[(y, .inr (11, [.ref r_all, .ref r_has, .int u_size, .int u_next, .int u_where, .int u_token, .int u_number, .int u_word, .int u_wrong, .int u_farCrossing, .ref r_read, .int u_z0, .int u_crossings, .int u_inns, .ref r_posts, .ref r_shut, .ref r_here, .int u_steps, .int u_done, .int u_at, .int u_gone, .ref r_was, .ref r_came, .ref r_seenAt, .ref r_rowWorth, .ref r_farBy, .ref r_used, .int u_everywhere, .int u_again0, .int u_d0, .int u_never, .int u_firstCame, .int u_longRun, .int u_moved, .int u_crowd, .int u_l0, .int u_fitMany, .int u_fitLeast, .int u_fitMost, .ref r_fitPost, .ref r_fitEnd, .ref r_keptPosts, .int u_x0]))], [(r_all, .inl (T.2 0, 3952, .inl f))]] _ _ := G
  subst h_1
  refine lv_if_ne (tgt := 11) hx hb dX12_isLog_6 (by decide) (fun q => absurd (by decide) q) (fun _ => ?_)
  refine lv_iconst (v := 0) hx hb dX12_isLog_9 (by decide) ?_
  exact z_zret C hr hlocks G (Nat.le_of_ble_eq_true rfl) (Nat.le_of_ble_eq_true rfl) dX12_isLog_10 rfl ⟨rfl, rfl⟩
set_option maxHeartbeats 4000000 in
set_option maxRecDepth 100000 in
/-- feed: on a new object -/
theorem c_m_feed (l : Launch) (T : zTy) (y : Nat) (r_all : Nat) (r_has : Nat) (r_read : Nat) (r_posts : Nat) (r_shut : Nat) (r_here : Nat) (r_was : Nat) (r_came : Nat) (r_seenAt : Nat) (r_rowWorth : Nat) (r_farBy : Nat) (r_used : Nat) (r_fitPost : Nat) (r_fitEnd : Nat) (r_keptPosts : Nat) (p1 : Int32) (p2 : Int32) (p3 : Int32) (p4 : Int32) (p5 : Int32) : zMi l T yX12_feed cX12_feed 8 (some .int) 3 0 0 [.ref y, .int p1, .int p2, .int p3, .int p4, .int p5] [[(y, .inr (11, [.ref r_all, .ref r_has, .int 0, .int 0, .int 0, .int 0, .int 0, .int 0, .int 0, .int 0, .ref r_read, .int 0, .int 0, .int 0, .ref r_posts, .ref r_shut, .ref r_here, .int 0, .int 0, .int 0, .int 0, .ref r_was, .ref r_came, .ref r_seenAt, .ref r_rowWorth, .ref r_farBy, .ref r_used, .int 0, .int 0, .int 0, .int 0, .int 0, .int 0, .int 0, .int 0, .int 0, .int 0, .int 0, .int 0, .ref r_fitPost, .ref r_fitEnd, .ref r_keptPosts, .int 0]))], [(r_all, .inl (T.2 0, 3952, .inl (upd (fun _ => 0) 6 (-1))))]] (fun (r : Int32) bs => bs = [] ∧ r = 20) := by
  refine zMi_of (own := RX12) (by decide) rfl (Nat.le_of_ble_eq_true rfl) ?_
  intro p e s m args below meth c A ls C hr hlocks hnm hAe G hl
  have hx := C.1
  have hb := C.2.1
  have hl : lv_has ls 8 [(0, .ref y), (1, .int p1), (2, .int p2), (3, .int p3), (4, .int p4), (5, .int p5)] := hl
  refine lv_aload_n hx hb dX12_feed_0 rfl (lv_at hl 0 rfl) ?_
  refine z_get C G clX12 0 rfl 0 (by decide) m_fl_RX12_7 rfl dX12_feed_1 ?_
  refine lv_iconst (v := 4) hx hb dX12_feed_4 (by decide) ?_
  refine z_ild C G 1 rfl (vp_in_nI (n := 4) (by decide) (by decide)) dX12_feed_5 ?_
  refine lv_topi (fun v_1 ev_1 => ?_)
  obtain rfl : v_1 = 0 := ev_1
  refine lv_bipush (v := 20) hx hb dX12_feed_6 (by decide) ?_
  refine lv_iadd hx hb dX12_feed_8 ?_
  refine lv_topi (fun y_2 ey_2 => ?_)
  obtain rfl : y_2 = 20 := ey_2.trans (by decide)
  refine lv_sipush (v := 600) hx hb dX12_feed_9 (by decide) ?_
  refine lv_icmp_le (tgt := 17) hx hb dX12_feed_12 (by decide) (fun _ => ?_) (fun q => absurd (by decide) q)
  refine lv_iconst (v := 0) hx hb dX12_feed_17 (by decide) ?_
  refine lv_istore (lv' := [(6, .int 0), (0, .ref y), (1, .int p1), (2, .int p2), (3, .int p3), (4, .int p4), (5, .int p5)]) hx hb dX12_feed_18 hl (by decide) rfl (fun ls hl => ?_)
  refine z_loop (T := T) (α := Nat × (Nat → Int32)) 20 (fun (i, g) => [[(y, .inr (11, [.ref r_all, .ref r_has, .int 0, .int 0, .int 0, .int 0, .int 0, .int 0, .int 0, .int 0, .ref r_read, .int 0, .int 0, .int 0, .ref r_posts, .ref r_shut, .ref r_here, .int 0, .int 0, .int 0, .int 0, .ref r_was, .ref r_came, .ref r_seenAt, .ref r_rowWorth, .ref r_farBy, .ref r_used, .int 0, .int 0, .int 0, .int 0, .int 0, .int 0, .int 0, .int 0, .int 0, .int 0, .int 0, .int 0, .ref r_fitPost, .ref r_fitEnd, .ref r_keptPosts, .int 0]))], [(r_all, .inl (T.2 0, 3952, .inl g))]]) (fun (i, g) => [(6, .int (nI i)), (0, .ref y), (1, .int p1), (2, .int p2), (3, .int p3), (4, .int p4), (5, .int p5)]) (fun (i, g) => i ≤ 20 ∧ g 4 = nI i) (fun (i, g) => 20 - i) ?_ (0, (upd (fun _ => 0) 6 (-1))) (show 0 ≤ 20 ∧ (upd (fun _ => 0) 6 (-1)) 4 = nI 0 from ⟨by omega, rfl⟩) G (lv_sub hl [0, 1, 2, 3, 4, 5, 6] rfl)
  rintro ⟨i, g⟩ ⟨hi, hg⟩ ih H locs ls G hl
  have hi : i ≤ 20 := hi
  have hg : g 4 = nI i := hg
  have G : zS T A s.heap s [[(y, .inr (11, [.ref r_all, .ref r_has, .int 0, .int 0, .int 0, .int 0, .int 0, .int 0, .int 0, .int 0, .ref r_read, .int 0, .int 0, .int 0, .ref r_posts, .ref r_shut, .ref r_here, .int 0, .int 0, .int 0, .int 0, .ref r_was, .ref r_came, .ref r_seenAt, .ref r_rowWorth, .ref r_farBy, .ref r_used, .int 0, .int 0, .int 0, .int 0, .int 0, .int 0, .int 0, .int 0, .int 0, .int 0, .int 0, .int 0, .ref r_fitPost, .ref r_fitEnd, .ref r_keptPosts, .int 0]))], [(r_all, .inl (T.2 0, 3952, .inl g))]] _ _ := G
  have hl : lv_has ls 8 [(6, .int (nI i)), (0, .ref y), (1, .int p1), (2, .int p2), (3, .int p3), (4, .int p4), (5, .int p5)] := hl
  refine lv_iload hx hb dX12_feed_20 (lv_at hl 0 rfl) ?_
  refine lv_bipush (v := 20) hx hb dX12_feed_22 (by decide) ?_
  refine lv_icmp_ge (tgt := 122) hx hb dX12_feed_24 (by decide) (fun c_3 => ?_) (fun c_3 => ?_)
  · have c_3n : 20 ≤ i := (nI_leI (a := 20) (b := i) (by omega) (by omega)).mp c_3
    refine lv_aload_n hx hb dX12_feed_122 rfl (lv_at hl 1 rfl) ?_
    refine z_get C G clX12 0 rfl 0 (by decide) m_fl_RX12_7 rfl dX12_feed_123 ?_
    refine lv_iconst (v := 4) hx hb dX12_feed_126 (by decide) ?_
    refine z_ild C G 1 rfl (vp_in_nI (n := 4) (by decide) (by decide)) dX12_feed_127 ?_
    refine lv_topi (fun v_4 ev_4 => ?_)
    rw [show ((4 : Int32).toNatClampNeg) = 4 from rfl] at ev_4
    subst ev_4
    rw [hg]
    have G := G.sub (bs' := []) [] rfl
    exact z_iret C hr hlocks G (Nat.le_of_ble_eq_true rfl) (Nat.le_of_ble_eq_true rfl) dX12_feed_128 ⟨rfl, (by rw [show i = 20 by omega]; decide)⟩
  · have c_3n : ¬ 20 ≤ i := fun q => c_3 ((nI_leI (a := 20) (b := i) (by omega) (by omega)).mpr q)
    refine lv_iload hx hb dX12_feed_27 (lv_at hl 0 rfl) ?_
    refine lv_iconst (v := 4) hx hb dX12_feed_29 (by decide) ?_
    refine lv_icmp_ge (tgt := 37) hx hb dX12_feed_30 (by decide) (fun c_5 => ?_) (fun c_5 => ?_)
    · have c_5n : 4 ≤ i := (nI_leI (a := 4) (b := i) (by omega) (by omega)).mp c_5
      refine lv_iload hx hb dX12_feed_37 (lv_at hl 0 rfl) ?_
      refine lv_bipush (v := 8) hx hb dX12_feed_39 (by decide) ?_
      refine lv_icmp_ge (tgt := 48) hx hb dX12_feed_41 (by decide) (fun c_6 => ?_) (fun c_6 => ?_)
      · have c_6n : 8 ≤ i := (nI_leI (a := 8) (b := i) (by omega) (by omega)).mp c_6
        refine lv_iload hx hb dX12_feed_48 (lv_at hl 0 rfl) ?_
        refine lv_bipush (v := 12) hx hb dX12_feed_50 (by decide) ?_
        refine lv_icmp_ge (tgt := 59) hx hb dX12_feed_52 (by decide) (fun c_7 => ?_) (fun c_7 => ?_)
        · have c_7n : 12 ≤ i := (nI_leI (a := 12) (b := i) (by omega) (by omega)).mp c_7
          refine lv_iload hx hb dX12_feed_59 (lv_at hl 0 rfl) ?_
          refine lv_bipush (v := 16) hx hb dX12_feed_61 (by decide) ?_
          refine lv_icmp_ge (tgt := 71) hx hb dX12_feed_63 (by decide) (fun c_8 => ?_) (fun c_8 => ?_)
          · have c_8n : 16 ≤ i := (nI_leI (a := 16) (b := i) (by omega) (by omega)).mp c_8
            refine lv_iload hx hb dX12_feed_71 (lv_at hl 6 rfl) ?_
            refine lv_istore (lv' := [(7, .int p5), (6, .int (nI i)), (0, .ref y), (1, .int p1), (2, .int p2), (3, .int p3), (4, .int p4), (5, .int p5)]) hx hb dX12_feed_73 hl (by decide) rfl (fun ls hl => ?_)
            refine lv_aload_n hx hb dX12_feed_75 rfl (lv_at hl 2 rfl) ?_
            refine z_get C G clX12 0 rfl 0 (by decide) m_fl_RX12_7 rfl dX12_feed_76 ?_
            refine lv_bipush (v := 10) hx hb dX12_feed_79 (by decide) ?_
            refine lv_aload_n hx hb dX12_feed_81 rfl (lv_at hl 2 rfl) ?_
            refine z_get C G clX12 0 rfl 0 (by decide) m_fl_RX12_7 rfl dX12_feed_82 ?_
            refine lv_iconst (v := 4) hx hb dX12_feed_85 (by decide) ?_
            refine z_ild C G 1 rfl (vp_in_nI (n := 4) (by decide) (by decide)) dX12_feed_86 ?_
            refine lv_topi (fun v_9 ev_9 => ?_)
            rw [show ((4 : Int32).toNatClampNeg) = 4 from rfl] at ev_9
            subst ev_9
            rw [hg]
            refine lv_iadd hx hb dX12_feed_87 ?_
            refine lv_topi (fun y_10 ey_10 => ?_)
            obtain rfl : y_10 = nI (10 + i) := ey_10.trans (z_iaddn 10 i rfl rfl)
            refine lv_iload hx hb dX12_feed_88 (lv_at hl 0 rfl) ?_
            refine lv_bipush (v := 24) hx hb dX12_feed_90 (by decide) ?_
            refine lv_bipush (v := 8) hx hb dX12_feed_92 (by decide) ?_
            refine lv_iload hx hb dX12_feed_94 (lv_at hl 1 rfl) ?_
            refine lv_iconst (v := 4) hx hb dX12_feed_96 (by decide) ?_
            refine lv_irem hx hb dX12_feed_97 (by decide) ?_
            refine lv_imul hx hb dX12_feed_98 ?_
            refine lv_isub hx hb dX12_feed_99 ?_
            refine lv_ishr hx hb dX12_feed_100 ?_
            refine lv_sipush (v := 255) hx hb dX12_feed_101 (by decide) ?_
            refine lv_iand hx hb dX12_feed_104 ?_
            refine z_ist C G 1 rfl (vp_in_nI (by omega) (by omega)) dX12_feed_105 (fun H locs G => ?_)
            rw [nI_clamp (by omega)] at G
            have G : zS T A s.heap s [[(y, .inr (11, [.ref r_all, .ref r_has, .int 0, .int 0, .int 0, .int 0, .int 0, .int 0, .int 0, .int 0, .ref r_read, .int 0, .int 0, .int 0, .ref r_posts, .ref r_shut, .ref r_here, .int 0, .int 0, .int 0, .int 0, .ref r_was, .ref r_came, .ref r_seenAt, .ref r_rowWorth, .ref r_farBy, .ref r_used, .int 0, .int 0, .int 0, .int 0, .int 0, .int 0, .int 0, .int 0, .int 0, .int 0, .int 0, .int 0, .ref r_fitPost, .ref r_fitEnd, .ref r_keptPosts, .int 0]))], [(r_all, .inl (T.2 0, 3952, .inl (upd g (10 + i) ((p5 >>> ((24 - (8 * ((nI i) - (nI i) / 4 * 4))) &&& 31)) &&& 255))))]] _ _ := G
            refine lv_aload_n hx hb dX12_feed_106 rfl (lv_at hl 2 rfl) ?_
            refine z_get C G clX12 0 rfl 0 (by decide) m_fl_RX12_7 rfl dX12_feed_107 ?_
            refine lv_iconst (v := 4) hx hb dX12_feed_110 (by decide) ?_
            refine lv_dup2_11 hx hb dX12_feed_111 rfl rfl ?_
            refine z_ild C G 1 rfl (vp_in_nI (n := 4) (by decide) (by decide)) dX12_feed_112 ?_
            refine lv_topi (fun v_11 ev_11 => ?_)
            rw [show ((4 : Int32).toNatClampNeg) = 4 from rfl] at ev_11
            obtain rfl : v_11 = nI i := ev_11.trans ((z_upd_ne (by omega)).trans hg)
            refine lv_iconst (v := 1) hx hb dX12_feed_113 (by decide) ?_
            refine lv_iadd hx hb dX12_feed_114 ?_
            refine lv_topi (fun y_12 ey_12 => ?_)
            obtain rfl : y_12 = nI (i + 1) := ey_12.trans (z_iaddn i 1 rfl rfl)
            refine z_ist C G 1 rfl (vp_in_nI (n := 4) (by decide) (by decide)) dX12_feed_115 (fun H locs G => ?_)
            have G : zS T A s.heap s [[(y, .inr (11, [.ref r_all, .ref r_has, .int 0, .int 0, .int 0, .int 0, .int 0, .int 0, .int 0, .int 0, .ref r_read, .int 0, .int 0, .int 0, .ref r_posts, .ref r_shut, .ref r_here, .int 0, .int 0, .int 0, .int 0, .ref r_was, .ref r_came, .ref r_seenAt, .ref r_rowWorth, .ref r_farBy, .ref r_used, .int 0, .int 0, .int 0, .int 0, .int 0, .int 0, .int 0, .int 0, .int 0, .int 0, .int 0, .int 0, .ref r_fitPost, .ref r_fitEnd, .ref r_keptPosts, .int 0]))], [(r_all, .inl (T.2 0, 3952, .inl (upd (upd g (10 + i) ((p5 >>> ((24 - (8 * ((nI i) - (nI i) / 4 * 4))) &&& 31)) &&& 255)) 4 (nI (i + 1)))))]] _ _ := G
            refine lv_iinc (v := nI (i + 1)) (lv' := [(6, .int (nI (i + 1))), (7, .int p5), (0, .ref y), (1, .int p1), (2, .int p2), (3, .int p3), (4, .int p4), (5, .int p5)]) hx hb dX12_feed_116 hl (k := 1) rfl (z_inc i 1) (by decide) rfl (fun ls hl => ?_)
            refine lv_goto (tgt := 20) hx hb dX12_feed_119 (by decide) ?_
            exact ih ((i + 1), (upd (upd g (10 + i) ((p5 >>> ((24 - (8 * ((nI i) - (nI i) / 4 * 4))) &&& 31)) &&& 255)) 4 (nI (i + 1)))) (show (i + 1) ≤ 20 ∧ (upd (upd g (10 + i) ((p5 >>> ((24 - (8 * ((nI i) - (nI i) / 4 * 4))) &&& 31)) &&& 255)) 4 (nI (i + 1))) 4 = nI (i + 1) from ⟨by omega, z_upd_eq⟩) (show 20 - (i + 1) < 20 - i from by omega) _ _ ls G (lv_sub hl [0, 2, 3, 4, 5, 6, 7] rfl)
          · have c_8n : ¬ 16 ≤ i := fun q => c_8 ((nI_leI (a := 16) (b := i) (by omega) (by omega)).mpr q)
            refine lv_iload hx hb dX12_feed_66 (lv_at hl 5 rfl) ?_
            refine lv_goto (tgt := 73) hx hb dX12_feed_68 (by decide) ?_
            refine lv_istore (lv' := [(7, .int p4), (6, .int (nI i)), (0, .ref y), (1, .int p1), (2, .int p2), (3, .int p3), (4, .int p4), (5, .int p5)]) hx hb dX12_feed_73 hl (by decide) rfl (fun ls hl => ?_)
            refine lv_aload_n hx hb dX12_feed_75 rfl (lv_at hl 2 rfl) ?_
            refine z_get C G clX12 0 rfl 0 (by decide) m_fl_RX12_7 rfl dX12_feed_76 ?_
            refine lv_bipush (v := 10) hx hb dX12_feed_79 (by decide) ?_
            refine lv_aload_n hx hb dX12_feed_81 rfl (lv_at hl 2 rfl) ?_
            refine z_get C G clX12 0 rfl 0 (by decide) m_fl_RX12_7 rfl dX12_feed_82 ?_
            refine lv_iconst (v := 4) hx hb dX12_feed_85 (by decide) ?_
            refine z_ild C G 1 rfl (vp_in_nI (n := 4) (by decide) (by decide)) dX12_feed_86 ?_
            refine lv_topi (fun v_13 ev_13 => ?_)
            rw [show ((4 : Int32).toNatClampNeg) = 4 from rfl] at ev_13
            subst ev_13
            rw [hg]
            refine lv_iadd hx hb dX12_feed_87 ?_
            refine lv_topi (fun y_14 ey_14 => ?_)
            obtain rfl : y_14 = nI (10 + i) := ey_14.trans (z_iaddn 10 i rfl rfl)
            refine lv_iload hx hb dX12_feed_88 (lv_at hl 0 rfl) ?_
            refine lv_bipush (v := 24) hx hb dX12_feed_90 (by decide) ?_
            refine lv_bipush (v := 8) hx hb dX12_feed_92 (by decide) ?_
            refine lv_iload hx hb dX12_feed_94 (lv_at hl 1 rfl) ?_
            refine lv_iconst (v := 4) hx hb dX12_feed_96 (by decide) ?_
            refine lv_irem hx hb dX12_feed_97 (by decide) ?_
            refine lv_imul hx hb dX12_feed_98 ?_
            refine lv_isub hx hb dX12_feed_99 ?_
            refine lv_ishr hx hb dX12_feed_100 ?_
            refine lv_sipush (v := 255) hx hb dX12_feed_101 (by decide) ?_
            refine lv_iand hx hb dX12_feed_104 ?_
            refine z_ist C G 1 rfl (vp_in_nI (by omega) (by omega)) dX12_feed_105 (fun H locs G => ?_)
            rw [nI_clamp (by omega)] at G
            have G : zS T A s.heap s [[(y, .inr (11, [.ref r_all, .ref r_has, .int 0, .int 0, .int 0, .int 0, .int 0, .int 0, .int 0, .int 0, .ref r_read, .int 0, .int 0, .int 0, .ref r_posts, .ref r_shut, .ref r_here, .int 0, .int 0, .int 0, .int 0, .ref r_was, .ref r_came, .ref r_seenAt, .ref r_rowWorth, .ref r_farBy, .ref r_used, .int 0, .int 0, .int 0, .int 0, .int 0, .int 0, .int 0, .int 0, .int 0, .int 0, .int 0, .int 0, .ref r_fitPost, .ref r_fitEnd, .ref r_keptPosts, .int 0]))], [(r_all, .inl (T.2 0, 3952, .inl (upd g (10 + i) ((p4 >>> ((24 - (8 * ((nI i) - (nI i) / 4 * 4))) &&& 31)) &&& 255))))]] _ _ := G
            refine lv_aload_n hx hb dX12_feed_106 rfl (lv_at hl 2 rfl) ?_
            refine z_get C G clX12 0 rfl 0 (by decide) m_fl_RX12_7 rfl dX12_feed_107 ?_
            refine lv_iconst (v := 4) hx hb dX12_feed_110 (by decide) ?_
            refine lv_dup2_11 hx hb dX12_feed_111 rfl rfl ?_
            refine z_ild C G 1 rfl (vp_in_nI (n := 4) (by decide) (by decide)) dX12_feed_112 ?_
            refine lv_topi (fun v_15 ev_15 => ?_)
            rw [show ((4 : Int32).toNatClampNeg) = 4 from rfl] at ev_15
            obtain rfl : v_15 = nI i := ev_15.trans ((z_upd_ne (by omega)).trans hg)
            refine lv_iconst (v := 1) hx hb dX12_feed_113 (by decide) ?_
            refine lv_iadd hx hb dX12_feed_114 ?_
            refine lv_topi (fun y_16 ey_16 => ?_)
            obtain rfl : y_16 = nI (i + 1) := ey_16.trans (z_iaddn i 1 rfl rfl)
            refine z_ist C G 1 rfl (vp_in_nI (n := 4) (by decide) (by decide)) dX12_feed_115 (fun H locs G => ?_)
            have G : zS T A s.heap s [[(y, .inr (11, [.ref r_all, .ref r_has, .int 0, .int 0, .int 0, .int 0, .int 0, .int 0, .int 0, .int 0, .ref r_read, .int 0, .int 0, .int 0, .ref r_posts, .ref r_shut, .ref r_here, .int 0, .int 0, .int 0, .int 0, .ref r_was, .ref r_came, .ref r_seenAt, .ref r_rowWorth, .ref r_farBy, .ref r_used, .int 0, .int 0, .int 0, .int 0, .int 0, .int 0, .int 0, .int 0, .int 0, .int 0, .int 0, .int 0, .ref r_fitPost, .ref r_fitEnd, .ref r_keptPosts, .int 0]))], [(r_all, .inl (T.2 0, 3952, .inl (upd (upd g (10 + i) ((p4 >>> ((24 - (8 * ((nI i) - (nI i) / 4 * 4))) &&& 31)) &&& 255)) 4 (nI (i + 1)))))]] _ _ := G
            refine lv_iinc (v := nI (i + 1)) (lv' := [(6, .int (nI (i + 1))), (7, .int p4), (0, .ref y), (1, .int p1), (2, .int p2), (3, .int p3), (4, .int p4), (5, .int p5)]) hx hb dX12_feed_116 hl (k := 1) rfl (z_inc i 1) (by decide) rfl (fun ls hl => ?_)
            refine lv_goto (tgt := 20) hx hb dX12_feed_119 (by decide) ?_
            exact ih ((i + 1), (upd (upd g (10 + i) ((p4 >>> ((24 - (8 * ((nI i) - (nI i) / 4 * 4))) &&& 31)) &&& 255)) 4 (nI (i + 1)))) (show (i + 1) ≤ 20 ∧ (upd (upd g (10 + i) ((p4 >>> ((24 - (8 * ((nI i) - (nI i) / 4 * 4))) &&& 31)) &&& 255)) 4 (nI (i + 1))) 4 = nI (i + 1) from ⟨by omega, z_upd_eq⟩) (show 20 - (i + 1) < 20 - i from by omega) _ _ ls G (lv_sub hl [0, 2, 3, 4, 5, 6, 7] rfl)
        · have c_7n : ¬ 12 ≤ i := fun q => c_7 ((nI_leI (a := 12) (b := i) (by omega) (by omega)).mpr q)
          refine lv_iload_n hx hb dX12_feed_55 rfl (lv_at hl 4 rfl) ?_
          refine lv_goto (tgt := 73) hx hb dX12_feed_56 (by decide) ?_
          refine lv_istore (lv' := [(7, .int p3), (6, .int (nI i)), (0, .ref y), (1, .int p1), (2, .int p2), (3, .int p3), (4, .int p4), (5, .int p5)]) hx hb dX12_feed_73 hl (by decide) rfl (fun ls hl => ?_)
          refine lv_aload_n hx hb dX12_feed_75 rfl (lv_at hl 2 rfl) ?_
          refine z_get C G clX12 0 rfl 0 (by decide) m_fl_RX12_7 rfl dX12_feed_76 ?_
          refine lv_bipush (v := 10) hx hb dX12_feed_79 (by decide) ?_
          refine lv_aload_n hx hb dX12_feed_81 rfl (lv_at hl 2 rfl) ?_
          refine z_get C G clX12 0 rfl 0 (by decide) m_fl_RX12_7 rfl dX12_feed_82 ?_
          refine lv_iconst (v := 4) hx hb dX12_feed_85 (by decide) ?_
          refine z_ild C G 1 rfl (vp_in_nI (n := 4) (by decide) (by decide)) dX12_feed_86 ?_
          refine lv_topi (fun v_17 ev_17 => ?_)
          rw [show ((4 : Int32).toNatClampNeg) = 4 from rfl] at ev_17
          subst ev_17
          rw [hg]
          refine lv_iadd hx hb dX12_feed_87 ?_
          refine lv_topi (fun y_18 ey_18 => ?_)
          obtain rfl : y_18 = nI (10 + i) := ey_18.trans (z_iaddn 10 i rfl rfl)
          refine lv_iload hx hb dX12_feed_88 (lv_at hl 0 rfl) ?_
          refine lv_bipush (v := 24) hx hb dX12_feed_90 (by decide) ?_
          refine lv_bipush (v := 8) hx hb dX12_feed_92 (by decide) ?_
          refine lv_iload hx hb dX12_feed_94 (lv_at hl 1 rfl) ?_
          refine lv_iconst (v := 4) hx hb dX12_feed_96 (by decide) ?_
          refine lv_irem hx hb dX12_feed_97 (by decide) ?_
          refine lv_imul hx hb dX12_feed_98 ?_
          refine lv_isub hx hb dX12_feed_99 ?_
          refine lv_ishr hx hb dX12_feed_100 ?_
          refine lv_sipush (v := 255) hx hb dX12_feed_101 (by decide) ?_
          refine lv_iand hx hb dX12_feed_104 ?_
          refine z_ist C G 1 rfl (vp_in_nI (by omega) (by omega)) dX12_feed_105 (fun H locs G => ?_)
          rw [nI_clamp (by omega)] at G
          have G : zS T A s.heap s [[(y, .inr (11, [.ref r_all, .ref r_has, .int 0, .int 0, .int 0, .int 0, .int 0, .int 0, .int 0, .int 0, .ref r_read, .int 0, .int 0, .int 0, .ref r_posts, .ref r_shut, .ref r_here, .int 0, .int 0, .int 0, .int 0, .ref r_was, .ref r_came, .ref r_seenAt, .ref r_rowWorth, .ref r_farBy, .ref r_used, .int 0, .int 0, .int 0, .int 0, .int 0, .int 0, .int 0, .int 0, .int 0, .int 0, .int 0, .int 0, .ref r_fitPost, .ref r_fitEnd, .ref r_keptPosts, .int 0]))], [(r_all, .inl (T.2 0, 3952, .inl (upd g (10 + i) ((p3 >>> ((24 - (8 * ((nI i) - (nI i) / 4 * 4))) &&& 31)) &&& 255))))]] _ _ := G
          refine lv_aload_n hx hb dX12_feed_106 rfl (lv_at hl 2 rfl) ?_
          refine z_get C G clX12 0 rfl 0 (by decide) m_fl_RX12_7 rfl dX12_feed_107 ?_
          refine lv_iconst (v := 4) hx hb dX12_feed_110 (by decide) ?_
          refine lv_dup2_11 hx hb dX12_feed_111 rfl rfl ?_
          refine z_ild C G 1 rfl (vp_in_nI (n := 4) (by decide) (by decide)) dX12_feed_112 ?_
          refine lv_topi (fun v_19 ev_19 => ?_)
          rw [show ((4 : Int32).toNatClampNeg) = 4 from rfl] at ev_19
          obtain rfl : v_19 = nI i := ev_19.trans ((z_upd_ne (by omega)).trans hg)
          refine lv_iconst (v := 1) hx hb dX12_feed_113 (by decide) ?_
          refine lv_iadd hx hb dX12_feed_114 ?_
          refine lv_topi (fun y_20 ey_20 => ?_)
          obtain rfl : y_20 = nI (i + 1) := ey_20.trans (z_iaddn i 1 rfl rfl)
          refine z_ist C G 1 rfl (vp_in_nI (n := 4) (by decide) (by decide)) dX12_feed_115 (fun H locs G => ?_)
          have G : zS T A s.heap s [[(y, .inr (11, [.ref r_all, .ref r_has, .int 0, .int 0, .int 0, .int 0, .int 0, .int 0, .int 0, .int 0, .ref r_read, .int 0, .int 0, .int 0, .ref r_posts, .ref r_shut, .ref r_here, .int 0, .int 0, .int 0, .int 0, .ref r_was, .ref r_came, .ref r_seenAt, .ref r_rowWorth, .ref r_farBy, .ref r_used, .int 0, .int 0, .int 0, .int 0, .int 0, .int 0, .int 0, .int 0, .int 0, .int 0, .int 0, .int 0, .ref r_fitPost, .ref r_fitEnd, .ref r_keptPosts, .int 0]))], [(r_all, .inl (T.2 0, 3952, .inl (upd (upd g (10 + i) ((p3 >>> ((24 - (8 * ((nI i) - (nI i) / 4 * 4))) &&& 31)) &&& 255)) 4 (nI (i + 1)))))]] _ _ := G
          refine lv_iinc (v := nI (i + 1)) (lv' := [(6, .int (nI (i + 1))), (7, .int p3), (0, .ref y), (1, .int p1), (2, .int p2), (3, .int p3), (4, .int p4), (5, .int p5)]) hx hb dX12_feed_116 hl (k := 1) rfl (z_inc i 1) (by decide) rfl (fun ls hl => ?_)
          refine lv_goto (tgt := 20) hx hb dX12_feed_119 (by decide) ?_
          exact ih ((i + 1), (upd (upd g (10 + i) ((p3 >>> ((24 - (8 * ((nI i) - (nI i) / 4 * 4))) &&& 31)) &&& 255)) 4 (nI (i + 1)))) (show (i + 1) ≤ 20 ∧ (upd (upd g (10 + i) ((p3 >>> ((24 - (8 * ((nI i) - (nI i) / 4 * 4))) &&& 31)) &&& 255)) 4 (nI (i + 1))) 4 = nI (i + 1) from ⟨by omega, z_upd_eq⟩) (show 20 - (i + 1) < 20 - i from by omega) _ _ ls G (lv_sub hl [0, 2, 3, 4, 5, 6, 7] rfl)
      · have c_6n : ¬ 8 ≤ i := fun q => c_6 ((nI_leI (a := 8) (b := i) (by omega) (by omega)).mpr q)
        refine lv_iload_n hx hb dX12_feed_44 rfl (lv_at hl 3 rfl) ?_
        refine lv_goto (tgt := 73) hx hb dX12_feed_45 (by decide) ?_
        refine lv_istore (lv' := [(7, .int p2), (6, .int (nI i)), (0, .ref y), (1, .int p1), (2, .int p2), (3, .int p3), (4, .int p4), (5, .int p5)]) hx hb dX12_feed_73 hl (by decide) rfl (fun ls hl => ?_)
        refine lv_aload_n hx hb dX12_feed_75 rfl (lv_at hl 2 rfl) ?_
        refine z_get C G clX12 0 rfl 0 (by decide) m_fl_RX12_7 rfl dX12_feed_76 ?_
        refine lv_bipush (v := 10) hx hb dX12_feed_79 (by decide) ?_
        refine lv_aload_n hx hb dX12_feed_81 rfl (lv_at hl 2 rfl) ?_
        refine z_get C G clX12 0 rfl 0 (by decide) m_fl_RX12_7 rfl dX12_feed_82 ?_
        refine lv_iconst (v := 4) hx hb dX12_feed_85 (by decide) ?_
        refine z_ild C G 1 rfl (vp_in_nI (n := 4) (by decide) (by decide)) dX12_feed_86 ?_
        refine lv_topi (fun v_21 ev_21 => ?_)
        rw [show ((4 : Int32).toNatClampNeg) = 4 from rfl] at ev_21
        subst ev_21
        rw [hg]
        refine lv_iadd hx hb dX12_feed_87 ?_
        refine lv_topi (fun y_22 ey_22 => ?_)
        obtain rfl : y_22 = nI (10 + i) := ey_22.trans (z_iaddn 10 i rfl rfl)
        refine lv_iload hx hb dX12_feed_88 (lv_at hl 0 rfl) ?_
        refine lv_bipush (v := 24) hx hb dX12_feed_90 (by decide) ?_
        refine lv_bipush (v := 8) hx hb dX12_feed_92 (by decide) ?_
        refine lv_iload hx hb dX12_feed_94 (lv_at hl 1 rfl) ?_
        refine lv_iconst (v := 4) hx hb dX12_feed_96 (by decide) ?_
        refine lv_irem hx hb dX12_feed_97 (by decide) ?_
        refine lv_imul hx hb dX12_feed_98 ?_
        refine lv_isub hx hb dX12_feed_99 ?_
        refine lv_ishr hx hb dX12_feed_100 ?_
        refine lv_sipush (v := 255) hx hb dX12_feed_101 (by decide) ?_
        refine lv_iand hx hb dX12_feed_104 ?_
        refine z_ist C G 1 rfl (vp_in_nI (by omega) (by omega)) dX12_feed_105 (fun H locs G => ?_)
        rw [nI_clamp (by omega)] at G
        have G : zS T A s.heap s [[(y, .inr (11, [.ref r_all, .ref r_has, .int 0, .int 0, .int 0, .int 0, .int 0, .int 0, .int 0, .int 0, .ref r_read, .int 0, .int 0, .int 0, .ref r_posts, .ref r_shut, .ref r_here, .int 0, .int 0, .int 0, .int 0, .ref r_was, .ref r_came, .ref r_seenAt, .ref r_rowWorth, .ref r_farBy, .ref r_used, .int 0, .int 0, .int 0, .int 0, .int 0, .int 0, .int 0, .int 0, .int 0, .int 0, .int 0, .int 0, .ref r_fitPost, .ref r_fitEnd, .ref r_keptPosts, .int 0]))], [(r_all, .inl (T.2 0, 3952, .inl (upd g (10 + i) ((p2 >>> ((24 - (8 * ((nI i) - (nI i) / 4 * 4))) &&& 31)) &&& 255))))]] _ _ := G
        refine lv_aload_n hx hb dX12_feed_106 rfl (lv_at hl 2 rfl) ?_
        refine z_get C G clX12 0 rfl 0 (by decide) m_fl_RX12_7 rfl dX12_feed_107 ?_
        refine lv_iconst (v := 4) hx hb dX12_feed_110 (by decide) ?_
        refine lv_dup2_11 hx hb dX12_feed_111 rfl rfl ?_
        refine z_ild C G 1 rfl (vp_in_nI (n := 4) (by decide) (by decide)) dX12_feed_112 ?_
        refine lv_topi (fun v_23 ev_23 => ?_)
        rw [show ((4 : Int32).toNatClampNeg) = 4 from rfl] at ev_23
        obtain rfl : v_23 = nI i := ev_23.trans ((z_upd_ne (by omega)).trans hg)
        refine lv_iconst (v := 1) hx hb dX12_feed_113 (by decide) ?_
        refine lv_iadd hx hb dX12_feed_114 ?_
        refine lv_topi (fun y_24 ey_24 => ?_)
        obtain rfl : y_24 = nI (i + 1) := ey_24.trans (z_iaddn i 1 rfl rfl)
        refine z_ist C G 1 rfl (vp_in_nI (n := 4) (by decide) (by decide)) dX12_feed_115 (fun H locs G => ?_)
        have G : zS T A s.heap s [[(y, .inr (11, [.ref r_all, .ref r_has, .int 0, .int 0, .int 0, .int 0, .int 0, .int 0, .int 0, .int 0, .ref r_read, .int 0, .int 0, .int 0, .ref r_posts, .ref r_shut, .ref r_here, .int 0, .int 0, .int 0, .int 0, .ref r_was, .ref r_came, .ref r_seenAt, .ref r_rowWorth, .ref r_farBy, .ref r_used, .int 0, .int 0, .int 0, .int 0, .int 0, .int 0, .int 0, .int 0, .int 0, .int 0, .int 0, .int 0, .ref r_fitPost, .ref r_fitEnd, .ref r_keptPosts, .int 0]))], [(r_all, .inl (T.2 0, 3952, .inl (upd (upd g (10 + i) ((p2 >>> ((24 - (8 * ((nI i) - (nI i) / 4 * 4))) &&& 31)) &&& 255)) 4 (nI (i + 1)))))]] _ _ := G
        refine lv_iinc (v := nI (i + 1)) (lv' := [(6, .int (nI (i + 1))), (7, .int p2), (0, .ref y), (1, .int p1), (2, .int p2), (3, .int p3), (4, .int p4), (5, .int p5)]) hx hb dX12_feed_116 hl (k := 1) rfl (z_inc i 1) (by decide) rfl (fun ls hl => ?_)
        refine lv_goto (tgt := 20) hx hb dX12_feed_119 (by decide) ?_
        exact ih ((i + 1), (upd (upd g (10 + i) ((p2 >>> ((24 - (8 * ((nI i) - (nI i) / 4 * 4))) &&& 31)) &&& 255)) 4 (nI (i + 1)))) (show (i + 1) ≤ 20 ∧ (upd (upd g (10 + i) ((p2 >>> ((24 - (8 * ((nI i) - (nI i) / 4 * 4))) &&& 31)) &&& 255)) 4 (nI (i + 1))) 4 = nI (i + 1) from ⟨by omega, z_upd_eq⟩) (show 20 - (i + 1) < 20 - i from by omega) _ _ ls G (lv_sub hl [0, 2, 3, 4, 5, 6, 7] rfl)
    · have c_5n : ¬ 4 ≤ i := fun q => c_5 ((nI_leI (a := 4) (b := i) (by omega) (by omega)).mpr q)
      refine lv_iload_n hx hb dX12_feed_33 rfl (lv_at hl 2 rfl) ?_
      refine lv_goto (tgt := 73) hx hb dX12_feed_34 (by decide) ?_
      refine lv_istore (lv' := [(7, .int p1), (6, .int (nI i)), (0, .ref y), (1, .int p1), (2, .int p2), (3, .int p3), (4, .int p4), (5, .int p5)]) hx hb dX12_feed_73 hl (by decide) rfl (fun ls hl => ?_)
      refine lv_aload_n hx hb dX12_feed_75 rfl (lv_at hl 2 rfl) ?_
      refine z_get C G clX12 0 rfl 0 (by decide) m_fl_RX12_7 rfl dX12_feed_76 ?_
      refine lv_bipush (v := 10) hx hb dX12_feed_79 (by decide) ?_
      refine lv_aload_n hx hb dX12_feed_81 rfl (lv_at hl 2 rfl) ?_
      refine z_get C G clX12 0 rfl 0 (by decide) m_fl_RX12_7 rfl dX12_feed_82 ?_
      refine lv_iconst (v := 4) hx hb dX12_feed_85 (by decide) ?_
      refine z_ild C G 1 rfl (vp_in_nI (n := 4) (by decide) (by decide)) dX12_feed_86 ?_
      refine lv_topi (fun v_25 ev_25 => ?_)
      rw [show ((4 : Int32).toNatClampNeg) = 4 from rfl] at ev_25
      subst ev_25
      rw [hg]
      refine lv_iadd hx hb dX12_feed_87 ?_
      refine lv_topi (fun y_26 ey_26 => ?_)
      obtain rfl : y_26 = nI (10 + i) := ey_26.trans (z_iaddn 10 i rfl rfl)
      refine lv_iload hx hb dX12_feed_88 (lv_at hl 0 rfl) ?_
      refine lv_bipush (v := 24) hx hb dX12_feed_90 (by decide) ?_
      refine lv_bipush (v := 8) hx hb dX12_feed_92 (by decide) ?_
      refine lv_iload hx hb dX12_feed_94 (lv_at hl 1 rfl) ?_
      refine lv_iconst (v := 4) hx hb dX12_feed_96 (by decide) ?_
      refine lv_irem hx hb dX12_feed_97 (by decide) ?_
      refine lv_imul hx hb dX12_feed_98 ?_
      refine lv_isub hx hb dX12_feed_99 ?_
      refine lv_ishr hx hb dX12_feed_100 ?_
      refine lv_sipush (v := 255) hx hb dX12_feed_101 (by decide) ?_
      refine lv_iand hx hb dX12_feed_104 ?_
      refine z_ist C G 1 rfl (vp_in_nI (by omega) (by omega)) dX12_feed_105 (fun H locs G => ?_)
      rw [nI_clamp (by omega)] at G
      have G : zS T A s.heap s [[(y, .inr (11, [.ref r_all, .ref r_has, .int 0, .int 0, .int 0, .int 0, .int 0, .int 0, .int 0, .int 0, .ref r_read, .int 0, .int 0, .int 0, .ref r_posts, .ref r_shut, .ref r_here, .int 0, .int 0, .int 0, .int 0, .ref r_was, .ref r_came, .ref r_seenAt, .ref r_rowWorth, .ref r_farBy, .ref r_used, .int 0, .int 0, .int 0, .int 0, .int 0, .int 0, .int 0, .int 0, .int 0, .int 0, .int 0, .int 0, .ref r_fitPost, .ref r_fitEnd, .ref r_keptPosts, .int 0]))], [(r_all, .inl (T.2 0, 3952, .inl (upd g (10 + i) ((p1 >>> ((24 - (8 * ((nI i) - (nI i) / 4 * 4))) &&& 31)) &&& 255))))]] _ _ := G
      refine lv_aload_n hx hb dX12_feed_106 rfl (lv_at hl 2 rfl) ?_
      refine z_get C G clX12 0 rfl 0 (by decide) m_fl_RX12_7 rfl dX12_feed_107 ?_
      refine lv_iconst (v := 4) hx hb dX12_feed_110 (by decide) ?_
      refine lv_dup2_11 hx hb dX12_feed_111 rfl rfl ?_
      refine z_ild C G 1 rfl (vp_in_nI (n := 4) (by decide) (by decide)) dX12_feed_112 ?_
      refine lv_topi (fun v_27 ev_27 => ?_)
      rw [show ((4 : Int32).toNatClampNeg) = 4 from rfl] at ev_27
      obtain rfl : v_27 = nI i := ev_27.trans ((z_upd_ne (by omega)).trans hg)
      refine lv_iconst (v := 1) hx hb dX12_feed_113 (by decide) ?_
      refine lv_iadd hx hb dX12_feed_114 ?_
      refine lv_topi (fun y_28 ey_28 => ?_)
      obtain rfl : y_28 = nI (i + 1) := ey_28.trans (z_iaddn i 1 rfl rfl)
      refine z_ist C G 1 rfl (vp_in_nI (n := 4) (by decide) (by decide)) dX12_feed_115 (fun H locs G => ?_)
      have G : zS T A s.heap s [[(y, .inr (11, [.ref r_all, .ref r_has, .int 0, .int 0, .int 0, .int 0, .int 0, .int 0, .int 0, .int 0, .ref r_read, .int 0, .int 0, .int 0, .ref r_posts, .ref r_shut, .ref r_here, .int 0, .int 0, .int 0, .int 0, .ref r_was, .ref r_came, .ref r_seenAt, .ref r_rowWorth, .ref r_farBy, .ref r_used, .int 0, .int 0, .int 0, .int 0, .int 0, .int 0, .int 0, .int 0, .int 0, .int 0, .int 0, .int 0, .ref r_fitPost, .ref r_fitEnd, .ref r_keptPosts, .int 0]))], [(r_all, .inl (T.2 0, 3952, .inl (upd (upd g (10 + i) ((p1 >>> ((24 - (8 * ((nI i) - (nI i) / 4 * 4))) &&& 31)) &&& 255)) 4 (nI (i + 1)))))]] _ _ := G
      refine lv_iinc (v := nI (i + 1)) (lv' := [(6, .int (nI (i + 1))), (7, .int p1), (0, .ref y), (1, .int p1), (2, .int p2), (3, .int p3), (4, .int p4), (5, .int p5)]) hx hb dX12_feed_116 hl (k := 1) rfl (z_inc i 1) (by decide) rfl (fun ls hl => ?_)
      refine lv_goto (tgt := 20) hx hb dX12_feed_119 (by decide) ?_
      exact ih ((i + 1), (upd (upd g (10 + i) ((p1 >>> ((24 - (8 * ((nI i) - (nI i) / 4 * 4))) &&& 31)) &&& 255)) 4 (nI (i + 1)))) (show (i + 1) ≤ 20 ∧ (upd (upd g (10 + i) ((p1 >>> ((24 - (8 * ((nI i) - (nI i) / 4 * 4))) &&& 31)) &&& 255)) 4 (nI (i + 1))) 4 = nI (i + 1) from ⟨by omega, z_upd_eq⟩) (show 20 - (i + 1) < 20 - i from by omega) _ _ ls G (lv_sub hl [0, 2, 3, 4, 5, 6, 7] rfl)
set_option maxHeartbeats 4000000 in
set_option maxRecDepth 100000 in
/-- end -/
theorem c_m_end (l : Launch) (T : zTy) (y : Nat) (r_all : Nat) (r_has : Nat) (r_read : Nat) (r_posts : Nat) (r_shut : Nat) (r_here : Nat) (r_was : Nat) (r_came : Nat) (r_seenAt : Nat) (r_rowWorth : Nat) (r_farBy : Nat) (r_used : Nat) (r_fitPost : Nat) (r_fitEnd : Nat) (r_keptPosts : Nat) (n : Int32) : zMi l T yX12_end cX12_end 2 (some .int) 3 0 0 [.ref y, .int n] [[(y, .inr (11, [.ref r_all, .ref r_has, .int 0, .int 0, .int 0, .int 0, .int 0, .int 0, .int 0, .int 0, .ref r_read, .int 0, .int 0, .int 0, .ref r_posts, .ref r_shut, .ref r_here, .int 0, .int 0, .int 0, .int 0, .ref r_was, .ref r_came, .ref r_seenAt, .ref r_rowWorth, .ref r_farBy, .ref r_used, .int 0, .int 0, .int 0, .int 0, .int 0, .int 0, .int 0, .int 0, .int 0, .int 0, .int 0, .int 0, .ref r_fitPost, .ref r_fitEnd, .ref r_keptPosts, .int 0]))], [(r_all, .inl (T.2 0, 3952, .inl (upd (fun _ => 0) 6 (-1))))]] (fun (r : Int32) bs => bs = [] ∧ r = zEnd n) := by
  refine zMi_of (own := RX12) (by decide) rfl (Nat.le_of_ble_eq_true rfl) ?_
  intro p e s m args below meth c A ls C hr hlocks hnm hAe G hl
  have hx := C.1
  have hb := C.2.1
  have hl : lv_has ls 2 [(0, .ref y), (1, .int n)] := hl
  refine lv_iload_n hx hb dX12_end_0 rfl (lv_at hl 1 rfl) ?_
  refine lv_if_lt (tgt := 14) hx hb dX12_end_1 (by decide) (fun c_1 => ?_) (fun c_1 => ?_)
  · have c_1n : n.toInt < (0 : Int) := (fa_lt _ _).mp c_1
    refine lv_iconst (v := (-1)) hx hb dX12_end_14 (by decide) ?_
    have G := G.sub (bs' := []) [] rfl
    exact z_iret C hr hlocks G (Nat.le_of_ble_eq_true rfl) (Nat.le_of_ble_eq_true rfl) dX12_end_15 ⟨rfl, (by unfold zEnd; rw [if_neg (by omega)])⟩
  · have c_1n : ¬ n.toInt < (0 : Int) := fun q => c_1 ((fa_lt _ _).mpr q)
    refine lv_iload_n hx hb dX12_end_4 rfl (lv_at hl 1 rfl) ?_
    refine lv_aload_n hx hb dX12_end_5 rfl (lv_at hl 0 rfl) ?_
    refine z_get C G clX12 0 rfl 0 (by decide) m_fl_RX12_7 rfl dX12_end_6 ?_
    refine lv_iconst (v := 4) hx hb dX12_end_9 (by decide) ?_
    refine z_ild C G 1 rfl (vp_in_nI (n := 4) (by decide) (by decide)) dX12_end_10 ?_
    refine lv_topi (fun v_2 ev_2 => ?_)
    obtain rfl : v_2 = 0 := ev_2
    refine lv_icmp_le (tgt := 16) hx hb dX12_end_11 (by decide) (fun c_3 => ?_) (fun c_3 => ?_)
    · have c_3n : n.toInt ≤ (0 : Int) := (fa_le _ _).mp c_3
      refine lv_aload_n hx hb dX12_end_16 rfl (lv_at hl 0 rfl) ?_
      refine z_get C G clX12 0 rfl 0 (by decide) m_fl_RX12_7 rfl dX12_end_17 ?_
      refine lv_iconst (v := 4) hx hb dX12_end_20 (by decide) ?_
      refine lv_iload_n hx hb dX12_end_21 rfl (lv_at hl 1 rfl) ?_
      refine z_ist C G 1 rfl (vp_in_nI (n := 4) (by decide) (by decide)) dX12_end_22 (fun H locs G => ?_)
      have G : zS T A s.heap s [[(y, .inr (11, [.ref r_all, .ref r_has, .int 0, .int 0, .int 0, .int 0, .int 0, .int 0, .int 0, .int 0, .ref r_read, .int 0, .int 0, .int 0, .ref r_posts, .ref r_shut, .ref r_here, .int 0, .int 0, .int 0, .int 0, .ref r_was, .ref r_came, .ref r_seenAt, .ref r_rowWorth, .ref r_farBy, .ref r_used, .int 0, .int 0, .int 0, .int 0, .int 0, .int 0, .int 0, .int 0, .int 0, .int 0, .int 0, .int 0, .ref r_fitPost, .ref r_fitEnd, .ref r_keptPosts, .int 0]))], [(r_all, .inl (T.2 0, 3952, .inl (upd (upd (fun _ => 0) 6 (-1)) 4 n)))]] _ _ := G
      refine lv_iload_n hx hb dX12_end_23 rfl (lv_at hl 1 rfl) ?_
      have G := G.sub (bs' := []) [] rfl
      exact z_iret C hr hlocks G (Nat.le_of_ble_eq_true rfl) (Nat.le_of_ble_eq_true rfl) dX12_end_24 ⟨rfl, (by unfold zEnd; rw [if_pos (by omega)]; exact (fa_eq _ _).mpr (by show n.toInt = 0; omega))⟩
    · have c_3n : ¬ n.toInt ≤ (0 : Int) := fun q => c_3 ((fa_le _ _).mpr q)
      refine lv_iconst (v := (-1)) hx hb dX12_end_14 (by decide) ?_
      have G := G.sub (bs' := []) [] rfl
      exact z_iret C hr hlocks G (Nat.le_of_ble_eq_true rfl) (Nat.le_of_ble_eq_true rfl) dX12_end_15 ⟨rfl, (by unfold zEnd; rw [if_neg (by omega)])⟩
set_option maxHeartbeats 4000000 in
set_option maxRecDepth 100000 in
/-- fault -/
theorem c_m_fault (l : Launch) (T : zTy) (y : Nat) (r_all : Nat) (r_has : Nat) (r_read : Nat) (r_posts : Nat) (r_shut : Nat) (r_here : Nat) (r_was : Nat) (r_came : Nat) (r_seenAt : Nat) (r_rowWorth : Nat) (r_farBy : Nat) (r_used : Nat) (r_fitPost : Nat) (r_fitEnd : Nat) (r_keptPosts : Nat) (n : Int32) : zMi l T yX12_fault cX12_fault 2 (some .int) 3 0 0 [.ref y, .int n] [[(y, .inr (11, [.ref r_all, .ref r_has, .int 0, .int 0, .int 0, .int 0, .int 0, .int 0, .int 0, .int 0, .ref r_read, .int 0, .int 0, .int 0, .ref r_posts, .ref r_shut, .ref r_here, .int 0, .int 0, .int 0, .int 0, .ref r_was, .ref r_came, .ref r_seenAt, .ref r_rowWorth, .ref r_farBy, .ref r_used, .int 0, .int 0, .int 0, .int 0, .int 0, .int 0, .int 0, .int 0, .int 0, .int 0, .int 0, .int 0, .ref r_fitPost, .ref r_fitEnd, .ref r_keptPosts, .int 0]))], [(r_all, .inl (T.2 0, 3952, .inl (upd (fun _ => 0) 6 (-1))))]] (fun (r : Int32) bs => bs = [] ∧ r = zFault n) := by
  refine zMi_of (own := RX12) (by decide) rfl (Nat.le_of_ble_eq_true rfl) ?_
  intro p e s m args below meth c A ls C hr hlocks hnm hAe G hl
  have hx := C.1
  have hb := C.2.1
  have hl : lv_has ls 2 [(0, .ref y), (1, .int n)] := hl
  refine lv_iload_n hx hb dX12_fault_0 rfl (lv_at hl 1 rfl) ?_
  refine lv_if_ne (tgt := 13) hx hb dX12_fault_1 (by decide) (fun c_1 => ?_) (fun c_1 => ?_)
  · have c_1n : ¬ n.toInt = (0 : Int) := fun q => c_1 ((fa_eq _ _).mpr q)
    refine lv_iload_n hx hb dX12_fault_13 rfl (lv_at hl 1 rfl) ?_
    refine lv_iconst (v := 1) hx hb dX12_fault_14 (by decide) ?_
    refine lv_icmp_ne (tgt := 28) hx hb dX12_fault_15 (by decide) (fun c_2 => ?_) (fun c_2 => ?_)
    · have c_2n : ¬ n.toInt = (1 : Int) := fun q => c_2 ((fa_eq _ _).mpr q)
      refine lv_iconst (v := (-1)) hx hb dX12_fault_28 (by decide) ?_
      have G := G.sub (bs' := []) [] rfl
      exact z_iret C hr hlocks G (Nat.le_of_ble_eq_true rfl) (Nat.le_of_ble_eq_true rfl) dX12_fault_29 ⟨rfl, (by unfold zFault; rw [if_neg (by omega)])⟩
    · have c_2n : n.toInt = (1 : Int) := (fa_eq _ _).mp c_2
      refine lv_aload_n hx hb dX12_fault_18 rfl (lv_at hl 0 rfl) ?_
      refine z_get C G clX12 0 rfl 0 (by decide) m_fl_RX12_7 rfl dX12_fault_19 ?_
      refine lv_bipush (v := 6) hx hb dX12_fault_22 (by decide) ?_
      refine z_ild C G 1 rfl (vp_in_nI (n := 6) (by decide) (by decide)) dX12_fault_24 ?_
      refine lv_topi (fun v_3 ev_3 => ?_)
      obtain rfl : v_3 = (-1) := ev_3
      refine lv_goto (tgt := 29) hx hb dX12_fault_25 (by decide) ?_
      have G := G.sub (bs' := []) [] rfl
      exact z_iret C hr hlocks G (Nat.le_of_ble_eq_true rfl) (Nat.le_of_ble_eq_true rfl) dX12_fault_29 ⟨rfl, (by unfold zFault; rw [if_neg (by omega)])⟩
  · have c_1n : n.toInt = (0 : Int) := (fa_eq _ _).mp c_1
    refine lv_aload_n hx hb dX12_fault_4 rfl (lv_at hl 0 rfl) ?_
    refine z_get C G clX12 0 rfl 0 (by decide) m_fl_RX12_7 rfl dX12_fault_5 ?_
    refine lv_iconst (v := 5) hx hb dX12_fault_8 (by decide) ?_
    refine z_ild C G 1 rfl (vp_in_nI (n := 5) (by decide) (by decide)) dX12_fault_9 ?_
    refine lv_topi (fun v_4 ev_4 => ?_)
    obtain rfl : v_4 = 0 := ev_4
    refine lv_goto (tgt := 29) hx hb dX12_fault_10 (by decide) ?_
    have G := G.sub (bs' := []) [] rfl
    exact z_iret C hr hlocks G (Nat.le_of_ble_eq_true rfl) (Nat.le_of_ble_eq_true rfl) dX12_fault_29 ⟨rfl, (by unfold zFault; rw [if_pos (by omega)])⟩
set_option maxHeartbeats 4000000 in
set_option maxRecDepth 100000 in
/-- count -/
theorem c_m_count (l : Launch) (T : zTy) (y : Nat) (r_all : Nat) (r_has : Nat) (r_read : Nat) (r_posts : Nat) (r_shut : Nat) (r_here : Nat) (r_was : Nat) (r_came : Nat) (r_seenAt : Nat) (r_rowWorth : Nat) (r_farBy : Nat) (r_used : Nat) (r_fitPost : Nat) (r_fitEnd : Nat) (r_keptPosts : Nat) (n : Int32) : zMi l T yX12_count cX12_count 2 (some .int) 3 0 0 [.ref y, .int n] [[(y, .inr (11, [.ref r_all, .ref r_has, .int 0, .int 0, .int 0, .int 0, .int 0, .int 0, .int 0, .int 0, .ref r_read, .int 0, .int 0, .int 0, .ref r_posts, .ref r_shut, .ref r_here, .int 0, .int 0, .int 0, .int 0, .ref r_was, .ref r_came, .ref r_seenAt, .ref r_rowWorth, .ref r_farBy, .ref r_used, .int 0, .int 0, .int 0, .int 0, .int 0, .int 0, .int 0, .int 0, .int 0, .int 0, .int 0, .int 0, .ref r_fitPost, .ref r_fitEnd, .ref r_keptPosts, .int 0]))], [(r_all, .inl (T.2 0, 3952, .inl (upd (fun _ => 0) 6 (-1))))]] (fun (r : Int32) bs => bs = [] ∧ r = zCount n) := by
  refine zMi_of (own := RX12) (by decide) rfl (Nat.le_of_ble_eq_true rfl) ?_
  intro p e s m args below meth c A ls C hr hlocks hnm hAe G hl
  have hx := C.1
  have hb := C.2.1
  have hl : lv_has ls 2 [(0, .ref y), (1, .int n)] := hl
  refine lv_iload_n hx hb dX12_count_0 rfl (lv_at hl 1 rfl) ?_
  refine lv_iconst (v := 0) hx hb dX12_count_1 (by decide) ?_
  refine lv_iconst (v := 2) hx hb dX12_count_2 (by decide) ?_
  refine z_Si (bc := []) (br := [[(y, .inr (11, [.ref r_all, .ref r_has, .int 0, .int 0, .int 0, .int 0, .int 0, .int 0, .int 0, .int 0, .ref r_read, .int 0, .int 0, .int 0, .ref r_posts, .ref r_shut, .ref r_here, .int 0, .int 0, .int 0, .int 0, .ref r_was, .ref r_came, .ref r_seenAt, .ref r_rowWorth, .ref r_farBy, .ref r_used, .int 0, .int 0, .int 0, .int 0, .int 0, .int 0, .int 0, .int 0, .int 0, .int 0, .int 0, .int 0, .ref r_fitPost, .ref r_fitEnd, .ref r_keptPosts, .int 0]))], [(r_all, .inl (T.2 0, 3952, .inl (upd (fun _ => 0) 6 (-1))))]]) (As := [.int n, .int 0, .int 2]) (rest := []) C G (c_isIn l T n 0 2) (kS_RX12_111 C.2.2.2.2 (Nat.le_of_ble_eq_true rfl) (Nat.le_of_ble_eq_true rfl)) [] [0, 1] rfl rfl rfl rfl hl.1 dX12_count_3 (Nat.le_of_ble_eq_true rfl) (Nat.le_of_ble_eq_true rfl) (fun r_2 b1 H locs hw G => ?_)
  obtain ⟨rfl, hc_1⟩ := hw
  have G : zS T A s.heap s [[(y, .inr (11, [.ref r_all, .ref r_has, .int 0, .int 0, .int 0, .int 0, .int 0, .int 0, .int 0, .int 0, .ref r_read, .int 0, .int 0, .int 0, .ref r_posts, .ref r_shut, .ref r_here, .int 0, .int 0, .int 0, .int 0, .ref r_was, .ref r_came, .ref r_seenAt, .ref r_rowWorth, .ref r_farBy, .ref r_used, .int 0, .int 0, .int 0, .int 0, .int 0, .int 0, .int 0, .int 0, .int 0, .int 0, .int 0, .int 0, .ref r_fitPost, .ref r_fitEnd, .ref r_keptPosts, .int 0]))], [(r_all, .inl (T.2 0, 3952, .inl (upd (fun _ => 0) 6 (-1))))]] _ _ := G
  rcases hc_1 with ⟨rfl, h_3, h_4⟩ | ⟨rfl, h_5⟩
  · have h_3 : (0 : Int) ≤ n.toInt := h_3
    have h_4 : n.toInt ≤ (2 : Int) := h_4
    refine lv_if_eq (tgt := 18) hx hb dX12_count_6 (by decide) (fun q => absurd q (by decide)) (fun _ => ?_)
    rcases z_three (so := n) (by omega) (by omega) with rfl | rfl | rfl
    · refine lv_aload_n hx hb dX12_count_9 rfl (lv_at hl 0 rfl) ?_
      refine z_get C G clX12 0 rfl 0 (by decide) m_fl_RX12_7 rfl dX12_count_10 ?_
      refine lv_iload_n hx hb dX12_count_13 rfl (lv_at hl 1 rfl) ?_
      refine z_ild C G 1 rfl (vp_in_nI (n := 0) (by decide) (by decide)) dX12_count_14 ?_
      refine lv_topi (fun v_6 ev_6 => ?_)
      obtain rfl : v_6 = 0 := ev_6
      refine lv_goto (tgt := 20) hx hb dX12_count_15 (by decide) ?_
      have G := G.sub (bs' := []) [] rfl
      exact z_iret C hr hlocks G (Nat.le_of_ble_eq_true rfl) (Nat.le_of_ble_eq_true rfl) dX12_count_20 ⟨rfl, (by decide)⟩
    · refine lv_aload_n hx hb dX12_count_9 rfl (lv_at hl 0 rfl) ?_
      refine z_get C G clX12 0 rfl 0 (by decide) m_fl_RX12_7 rfl dX12_count_10 ?_
      refine lv_iload_n hx hb dX12_count_13 rfl (lv_at hl 1 rfl) ?_
      refine z_ild C G 1 rfl (vp_in_nI (n := 1) (by decide) (by decide)) dX12_count_14 ?_
      refine lv_topi (fun v_7 ev_7 => ?_)
      obtain rfl : v_7 = 0 := ev_7
      refine lv_goto (tgt := 20) hx hb dX12_count_15 (by decide) ?_
      have G := G.sub (bs' := []) [] rfl
      exact z_iret C hr hlocks G (Nat.le_of_ble_eq_true rfl) (Nat.le_of_ble_eq_true rfl) dX12_count_20 ⟨rfl, (by decide)⟩
    · refine lv_aload_n hx hb dX12_count_9 rfl (lv_at hl 0 rfl) ?_
      refine z_get C G clX12 0 rfl 0 (by decide) m_fl_RX12_7 rfl dX12_count_10 ?_
      refine lv_iload_n hx hb dX12_count_13 rfl (lv_at hl 1 rfl) ?_
      refine z_ild C G 1 rfl (vp_in_nI (n := 2) (by decide) (by decide)) dX12_count_14 ?_
      refine lv_topi (fun v_8 ev_8 => ?_)
      obtain rfl : v_8 = 0 := ev_8
      refine lv_goto (tgt := 20) hx hb dX12_count_15 (by decide) ?_
      have G := G.sub (bs' := []) [] rfl
      exact z_iret C hr hlocks G (Nat.le_of_ble_eq_true rfl) (Nat.le_of_ble_eq_true rfl) dX12_count_20 ⟨rfl, (by decide)⟩
  · have h_5 : (n.toInt < (0 : Int) ∨ (2 : Int) < n.toInt) := h_5
    refine lv_if_eq (tgt := 18) hx hb dX12_count_6 (by decide) (fun _ => ?_) (fun q => absurd (by decide) q)
    refine lv_bipush (v := (-2)) hx hb dX12_count_18 (by decide) ?_
    have G := G.sub (bs' := []) [] rfl
    exact z_iret C hr hlocks G (Nat.le_of_ble_eq_true rfl) (Nat.le_of_ble_eq_true rfl) dX12_count_20 ⟨rfl, (by unfold zCount; rw [if_neg (by omega)])⟩
set_option maxHeartbeats 4000000 in
set_option maxRecDepth 100000 in
/-- image -/
theorem c_m_image (l : Launch) (T : zTy) (y : Nat) (r_all : Nat) (r_has : Nat) (r_read : Nat) (r_posts : Nat) (r_shut : Nat) (r_here : Nat) (r_was : Nat) (r_came : Nat) (r_seenAt : Nat) (r_rowWorth : Nat) (r_farBy : Nat) (r_used : Nat) (r_fitPost : Nat) (r_fitEnd : Nat) (r_keptPosts : Nat) (n : Int32) : zMi l T yX12_image cX12_image 3 (some .boolean) 3 0 0 [.ref y, .int n] [[(y, .inr (11, [.ref r_all, .ref r_has, .int 0, .int 0, .int 0, .int 0, .int 0, .int 0, .int 0, .int 0, .ref r_read, .int 0, .int 0, .int 0, .ref r_posts, .ref r_shut, .ref r_here, .int 0, .int 0, .int 0, .int 0, .ref r_was, .ref r_came, .ref r_seenAt, .ref r_rowWorth, .ref r_farBy, .ref r_used, .int 0, .int 0, .int 0, .int 0, .int 0, .int 0, .int 0, .int 0, .int 0, .int 0, .int 0, .int 0, .ref r_fitPost, .ref r_fitEnd, .ref r_keptPosts, .int 0]))], [(r_all, .inl (T.2 0, 3952, .inl (upd (fun _ => 0) 6 (-1))))], [(r_has, .inl (T.2 2, 3, .inl (fun _ => 0)))]] (fun (r : Int32) bs => bs = [] ∧ r = zImage n) := by
  refine zMi_of (own := RX12) (by decide) rfl (Nat.le_of_ble_eq_true rfl) ?_
  intro p e s m args below meth c A ls C hr hlocks hnm hAe G hl
  have hx := C.1
  have hb := C.2.1
  have hl : lv_has ls 3 [(0, .ref y), (1, .int n)] := hl
  refine lv_iload_n hx hb dX12_image_0 rfl (lv_at hl 1 rfl) ?_
  refine lv_iconst (v := 0) hx hb dX12_image_1 (by decide) ?_
  refine lv_iconst (v := 2) hx hb dX12_image_2 (by decide) ?_
  refine z_Si (bc := []) (br := [[(y, .inr (11, [.ref r_all, .ref r_has, .int 0, .int 0, .int 0, .int 0, .int 0, .int 0, .int 0, .int 0, .ref r_read, .int 0, .int 0, .int 0, .ref r_posts, .ref r_shut, .ref r_here, .int 0, .int 0, .int 0, .int 0, .ref r_was, .ref r_came, .ref r_seenAt, .ref r_rowWorth, .ref r_farBy, .ref r_used, .int 0, .int 0, .int 0, .int 0, .int 0, .int 0, .int 0, .int 0, .int 0, .int 0, .int 0, .int 0, .ref r_fitPost, .ref r_fitEnd, .ref r_keptPosts, .int 0]))], [(r_all, .inl (T.2 0, 3952, .inl (upd (fun _ => 0) 6 (-1))))], [(r_has, .inl (T.2 2, 3, .inl (fun _ => 0)))]]) (As := [.int n, .int 0, .int 2]) (rest := []) C G (c_isIn l T n 0 2) (kS_RX12_111 C.2.2.2.2 (Nat.le_of_ble_eq_true rfl) (Nat.le_of_ble_eq_true rfl)) [] [0, 1, 2] rfl rfl rfl rfl hl.1 dX12_image_3 (Nat.le_of_ble_eq_true rfl) (Nat.le_of_ble_eq_true rfl) (fun r_2 b1 H locs hw G => ?_)
  obtain ⟨rfl, hc_1⟩ := hw
  have G : zS T A s.heap s [[(y, .inr (11, [.ref r_all, .ref r_has, .int 0, .int 0, .int 0, .int 0, .int 0, .int 0, .int 0, .int 0, .ref r_read, .int 0, .int 0, .int 0, .ref r_posts, .ref r_shut, .ref r_here, .int 0, .int 0, .int 0, .int 0, .ref r_was, .ref r_came, .ref r_seenAt, .ref r_rowWorth, .ref r_farBy, .ref r_used, .int 0, .int 0, .int 0, .int 0, .int 0, .int 0, .int 0, .int 0, .int 0, .int 0, .int 0, .int 0, .ref r_fitPost, .ref r_fitEnd, .ref r_keptPosts, .int 0]))], [(r_all, .inl (T.2 0, 3952, .inl (upd (fun _ => 0) 6 (-1))))], [(r_has, .inl (T.2 2, 3, .inl (fun _ => 0)))]] _ _ := G
  rcases hc_1 with ⟨rfl, h_3, h_4⟩ | ⟨rfl, h_5⟩
  · have h_3 : (0 : Int) ≤ n.toInt := h_3
    have h_4 : n.toInt ≤ (2 : Int) := h_4
    refine lv_if_ne (tgt := 11) hx hb dX12_image_6 (by decide) (fun _ => ?_) (fun q => absurd q (by decide))
    rcases z_three (so := n) (by omega) (by omega) with rfl | rfl | rfl
    · refine lv_aload_n hx hb dX12_image_11 rfl (lv_at hl 0 rfl) ?_
      refine z_get C G clX12 0 rfl 1 (by decide) m_fl_RX12_13 rfl dX12_image_12 ?_
      refine lv_iload_n hx hb dX12_image_15 rfl (lv_at hl 1 rfl) ?_
      refine lv_iconst (v := 1) hx hb dX12_image_16 (by decide) ?_
      refine z_zst C G 2 rfl (vp_in_nI (n := 0) (by decide) (by decide)) dX12_image_17 (fun H locs G => ?_)
      have G : zS T A s.heap s [[(y, .inr (11, [.ref r_all, .ref r_has, .int 0, .int 0, .int 0, .int 0, .int 0, .int 0, .int 0, .int 0, .ref r_read, .int 0, .int 0, .int 0, .ref r_posts, .ref r_shut, .ref r_here, .int 0, .int 0, .int 0, .int 0, .ref r_was, .ref r_came, .ref r_seenAt, .ref r_rowWorth, .ref r_farBy, .ref r_used, .int 0, .int 0, .int 0, .int 0, .int 0, .int 0, .int 0, .int 0, .int 0, .int 0, .int 0, .int 0, .ref r_fitPost, .ref r_fitEnd, .ref r_keptPosts, .int 0]))], [(r_all, .inl (T.2 0, 3952, .inl (upd (fun _ => 0) 6 (-1))))], [(r_has, .inl (T.2 2, 3, .inl (upd (fun _ => 0) 0 (vp_nar .boolean 1))))]] _ _ := G
      refine lv_iconst (v := 0) hx hb dX12_image_18 (by decide) ?_
      refine lv_istore_n (lv' := [(2, .int 0), (0, .ref y), (1, .int 0)]) hx hb dX12_image_19 rfl hl (by decide) rfl (fun ls hl => ?_)
      refine z_loop (T := T) (α := Nat × (Nat → Int32)) 20 (fun (i, g) => [[(y, .inr (11, [.ref r_all, .ref r_has, .int 0, .int 0, .int 0, .int 0, .int 0, .int 0, .int 0, .int 0, .ref r_read, .int 0, .int 0, .int 0, .ref r_posts, .ref r_shut, .ref r_here, .int 0, .int 0, .int 0, .int 0, .ref r_was, .ref r_came, .ref r_seenAt, .ref r_rowWorth, .ref r_farBy, .ref r_used, .int 0, .int 0, .int 0, .int 0, .int 0, .int 0, .int 0, .int 0, .int 0, .int 0, .int 0, .int 0, .ref r_fitPost, .ref r_fitEnd, .ref r_keptPosts, .int 0]))], [(r_all, .inl (T.2 0, 3952, .inl g))], [(r_has, .inl (T.2 2, 3, .inl (upd (fun _ => 0) 0 (vp_nar .boolean 1))))]]) (fun (i, g) => [(2, .int (nI i)), (0, .ref y), (1, .int 0)]) (fun (i, g) => i ≤ 988) (fun (i, g) => 988 - i) ?_ (0, (upd (fun _ => 0) 6 (-1))) (show 0 ≤ 988 from by omega) G (lv_sub hl [0, 1, 2] rfl)
      rintro ⟨i, g⟩ hi ih H locs ls G hl
      have hi : i ≤ 988 := hi
      have G : zS T A s.heap s [[(y, .inr (11, [.ref r_all, .ref r_has, .int 0, .int 0, .int 0, .int 0, .int 0, .int 0, .int 0, .int 0, .ref r_read, .int 0, .int 0, .int 0, .ref r_posts, .ref r_shut, .ref r_here, .int 0, .int 0, .int 0, .int 0, .ref r_was, .ref r_came, .ref r_seenAt, .ref r_rowWorth, .ref r_farBy, .ref r_used, .int 0, .int 0, .int 0, .int 0, .int 0, .int 0, .int 0, .int 0, .int 0, .int 0, .int 0, .int 0, .ref r_fitPost, .ref r_fitEnd, .ref r_keptPosts, .int 0]))], [(r_all, .inl (T.2 0, 3952, .inl g))], [(r_has, .inl (T.2 2, 3, .inl (upd (fun _ => 0) 0 (vp_nar .boolean 1))))]] _ _ := G
      have hl : lv_has ls 3 [(2, .int (nI i)), (0, .ref y), (1, .int 0)] := hl
      refine lv_iload_n hx hb dX12_image_20 rfl (lv_at hl 0 rfl) ?_
      refine lv_sipush (v := 988) hx hb dX12_image_21 (by decide) ?_
      refine lv_icmp_ge (tgt := 53) hx hb dX12_image_24 (by decide) (fun c_6 => ?_) (fun c_6 => ?_)
      · have c_6n : 988 ≤ i := (nI_leI (a := 988) (b := i) (by omega) (by omega)).mp c_6
        refine lv_iconst (v := 1) hx hb dX12_image_53 (by decide) ?_
        have G := G.sub (bs' := []) [] rfl
        exact z_zret C hr hlocks G (Nat.le_of_ble_eq_true rfl) (Nat.le_of_ble_eq_true rfl) dX12_image_54 rfl ⟨rfl, (by decide)⟩
      · have c_6n : ¬ 988 ≤ i := fun q => c_6 ((nI_leI (a := 988) (b := i) (by omega) (by omega)).mpr q)
        refine lv_aload_n hx hb dX12_image_27 rfl (lv_at hl 1 rfl) ?_
        refine z_get C G clX12 0 rfl 0 (by decide) m_fl_RX12_7 rfl dX12_image_28 ?_
        refine lv_sipush (v := 988) hx hb dX12_image_31 (by decide) ?_
        refine lv_iload_n hx hb dX12_image_34 rfl (lv_at hl 2 rfl) ?_
        refine lv_iconst (v := 1) hx hb dX12_image_35 (by decide) ?_
        refine lv_iadd hx hb dX12_image_36 ?_
        refine lv_topi (fun y_7 ey_7 => ?_)
        obtain rfl : y_7 = 1 := ey_7.trans (by decide)
        refine lv_imul hx hb dX12_image_37 ?_
        refine lv_topi (fun y_8 ey_8 => ?_)
        obtain rfl : y_8 = 988 := ey_8.trans (by decide)
        refine lv_iload_n hx hb dX12_image_38 rfl (lv_at hl 0 rfl) ?_
        refine lv_iadd hx hb dX12_image_39 ?_
        refine lv_topi (fun y_9 ey_9 => ?_)
        obtain rfl : y_9 = nI (988 + i) := ey_9.trans (z_iaddn 988 i rfl rfl)
        refine lv_aload_n hx hb dX12_image_40 rfl (lv_at hl 1 rfl) ?_
        refine z_get C G clX12 0 rfl 0 (by decide) m_fl_RX12_7 rfl dX12_image_41 ?_
        refine lv_iload_n hx hb dX12_image_44 rfl (lv_at hl 0 rfl) ?_
        refine z_ild C G 1 rfl (vp_in_nI (by omega) (by omega)) dX12_image_45 ?_
        refine lv_topi (fun v_10 ev_10 => ?_)
        rw [nI_clamp (by omega)] at ev_10
        subst ev_10
        refine z_ist C G 1 rfl (vp_in_nI (by omega) (by omega)) dX12_image_46 (fun H locs G => ?_)
        rw [nI_clamp (by omega)] at G
        have G : zS T A s.heap s [[(y, .inr (11, [.ref r_all, .ref r_has, .int 0, .int 0, .int 0, .int 0, .int 0, .int 0, .int 0, .int 0, .ref r_read, .int 0, .int 0, .int 0, .ref r_posts, .ref r_shut, .ref r_here, .int 0, .int 0, .int 0, .int 0, .ref r_was, .ref r_came, .ref r_seenAt, .ref r_rowWorth, .ref r_farBy, .ref r_used, .int 0, .int 0, .int 0, .int 0, .int 0, .int 0, .int 0, .int 0, .int 0, .int 0, .int 0, .int 0, .ref r_fitPost, .ref r_fitEnd, .ref r_keptPosts, .int 0]))], [(r_all, .inl (T.2 0, 3952, .inl (upd g (988 + i) (g i))))], [(r_has, .inl (T.2 2, 3, .inl (upd (fun _ => 0) 0 (vp_nar .boolean 1))))]] _ _ := G
        refine lv_iinc (v := nI (i + 1)) (lv' := [(2, .int (nI (i + 1))), (0, .ref y), (1, .int 0)]) hx hb dX12_image_47 hl (k := 0) rfl (z_inc i 1) (by decide) rfl (fun ls hl => ?_)
        refine lv_goto (tgt := 20) hx hb dX12_image_50 (by decide) ?_
        exact ih ((i + 1), (upd g (988 + i) (g i))) (show (i + 1) ≤ 988 from by omega) (show 988 - (i + 1) < 988 - i from by omega) _ _ ls G (lv_sub hl [0, 1, 2] rfl)
    · refine lv_aload_n hx hb dX12_image_11 rfl (lv_at hl 0 rfl) ?_
      refine z_get C G clX12 0 rfl 1 (by decide) m_fl_RX12_13 rfl dX12_image_12 ?_
      refine lv_iload_n hx hb dX12_image_15 rfl (lv_at hl 1 rfl) ?_
      refine lv_iconst (v := 1) hx hb dX12_image_16 (by decide) ?_
      refine z_zst C G 2 rfl (vp_in_nI (n := 1) (by decide) (by decide)) dX12_image_17 (fun H locs G => ?_)
      have G : zS T A s.heap s [[(y, .inr (11, [.ref r_all, .ref r_has, .int 0, .int 0, .int 0, .int 0, .int 0, .int 0, .int 0, .int 0, .ref r_read, .int 0, .int 0, .int 0, .ref r_posts, .ref r_shut, .ref r_here, .int 0, .int 0, .int 0, .int 0, .ref r_was, .ref r_came, .ref r_seenAt, .ref r_rowWorth, .ref r_farBy, .ref r_used, .int 0, .int 0, .int 0, .int 0, .int 0, .int 0, .int 0, .int 0, .int 0, .int 0, .int 0, .int 0, .ref r_fitPost, .ref r_fitEnd, .ref r_keptPosts, .int 0]))], [(r_all, .inl (T.2 0, 3952, .inl (upd (fun _ => 0) 6 (-1))))], [(r_has, .inl (T.2 2, 3, .inl (upd (fun _ => 0) 1 (vp_nar .boolean 1))))]] _ _ := G
      refine lv_iconst (v := 0) hx hb dX12_image_18 (by decide) ?_
      refine lv_istore_n (lv' := [(2, .int 0), (0, .ref y), (1, .int 1)]) hx hb dX12_image_19 rfl hl (by decide) rfl (fun ls hl => ?_)
      refine z_loop (T := T) (α := Nat × (Nat → Int32)) 20 (fun (i, g) => [[(y, .inr (11, [.ref r_all, .ref r_has, .int 0, .int 0, .int 0, .int 0, .int 0, .int 0, .int 0, .int 0, .ref r_read, .int 0, .int 0, .int 0, .ref r_posts, .ref r_shut, .ref r_here, .int 0, .int 0, .int 0, .int 0, .ref r_was, .ref r_came, .ref r_seenAt, .ref r_rowWorth, .ref r_farBy, .ref r_used, .int 0, .int 0, .int 0, .int 0, .int 0, .int 0, .int 0, .int 0, .int 0, .int 0, .int 0, .int 0, .ref r_fitPost, .ref r_fitEnd, .ref r_keptPosts, .int 0]))], [(r_all, .inl (T.2 0, 3952, .inl g))], [(r_has, .inl (T.2 2, 3, .inl (upd (fun _ => 0) 1 (vp_nar .boolean 1))))]]) (fun (i, g) => [(2, .int (nI i)), (0, .ref y), (1, .int 1)]) (fun (i, g) => i ≤ 988) (fun (i, g) => 988 - i) ?_ (0, (upd (fun _ => 0) 6 (-1))) (show 0 ≤ 988 from by omega) G (lv_sub hl [0, 1, 2] rfl)
      rintro ⟨i, g⟩ hi ih H locs ls G hl
      have hi : i ≤ 988 := hi
      have G : zS T A s.heap s [[(y, .inr (11, [.ref r_all, .ref r_has, .int 0, .int 0, .int 0, .int 0, .int 0, .int 0, .int 0, .int 0, .ref r_read, .int 0, .int 0, .int 0, .ref r_posts, .ref r_shut, .ref r_here, .int 0, .int 0, .int 0, .int 0, .ref r_was, .ref r_came, .ref r_seenAt, .ref r_rowWorth, .ref r_farBy, .ref r_used, .int 0, .int 0, .int 0, .int 0, .int 0, .int 0, .int 0, .int 0, .int 0, .int 0, .int 0, .int 0, .ref r_fitPost, .ref r_fitEnd, .ref r_keptPosts, .int 0]))], [(r_all, .inl (T.2 0, 3952, .inl g))], [(r_has, .inl (T.2 2, 3, .inl (upd (fun _ => 0) 1 (vp_nar .boolean 1))))]] _ _ := G
      have hl : lv_has ls 3 [(2, .int (nI i)), (0, .ref y), (1, .int 1)] := hl
      refine lv_iload_n hx hb dX12_image_20 rfl (lv_at hl 0 rfl) ?_
      refine lv_sipush (v := 988) hx hb dX12_image_21 (by decide) ?_
      refine lv_icmp_ge (tgt := 53) hx hb dX12_image_24 (by decide) (fun c_11 => ?_) (fun c_11 => ?_)
      · have c_11n : 988 ≤ i := (nI_leI (a := 988) (b := i) (by omega) (by omega)).mp c_11
        refine lv_iconst (v := 1) hx hb dX12_image_53 (by decide) ?_
        have G := G.sub (bs' := []) [] rfl
        exact z_zret C hr hlocks G (Nat.le_of_ble_eq_true rfl) (Nat.le_of_ble_eq_true rfl) dX12_image_54 rfl ⟨rfl, (by decide)⟩
      · have c_11n : ¬ 988 ≤ i := fun q => c_11 ((nI_leI (a := 988) (b := i) (by omega) (by omega)).mpr q)
        refine lv_aload_n hx hb dX12_image_27 rfl (lv_at hl 1 rfl) ?_
        refine z_get C G clX12 0 rfl 0 (by decide) m_fl_RX12_7 rfl dX12_image_28 ?_
        refine lv_sipush (v := 988) hx hb dX12_image_31 (by decide) ?_
        refine lv_iload_n hx hb dX12_image_34 rfl (lv_at hl 2 rfl) ?_
        refine lv_iconst (v := 1) hx hb dX12_image_35 (by decide) ?_
        refine lv_iadd hx hb dX12_image_36 ?_
        refine lv_topi (fun y_12 ey_12 => ?_)
        obtain rfl : y_12 = 2 := ey_12.trans (by decide)
        refine lv_imul hx hb dX12_image_37 ?_
        refine lv_topi (fun y_13 ey_13 => ?_)
        obtain rfl : y_13 = 1976 := ey_13.trans (by decide)
        refine lv_iload_n hx hb dX12_image_38 rfl (lv_at hl 0 rfl) ?_
        refine lv_iadd hx hb dX12_image_39 ?_
        refine lv_topi (fun y_14 ey_14 => ?_)
        obtain rfl : y_14 = nI (1976 + i) := ey_14.trans (z_iaddn 1976 i rfl rfl)
        refine lv_aload_n hx hb dX12_image_40 rfl (lv_at hl 1 rfl) ?_
        refine z_get C G clX12 0 rfl 0 (by decide) m_fl_RX12_7 rfl dX12_image_41 ?_
        refine lv_iload_n hx hb dX12_image_44 rfl (lv_at hl 0 rfl) ?_
        refine z_ild C G 1 rfl (vp_in_nI (by omega) (by omega)) dX12_image_45 ?_
        refine lv_topi (fun v_15 ev_15 => ?_)
        rw [nI_clamp (by omega)] at ev_15
        subst ev_15
        refine z_ist C G 1 rfl (vp_in_nI (by omega) (by omega)) dX12_image_46 (fun H locs G => ?_)
        rw [nI_clamp (by omega)] at G
        have G : zS T A s.heap s [[(y, .inr (11, [.ref r_all, .ref r_has, .int 0, .int 0, .int 0, .int 0, .int 0, .int 0, .int 0, .int 0, .ref r_read, .int 0, .int 0, .int 0, .ref r_posts, .ref r_shut, .ref r_here, .int 0, .int 0, .int 0, .int 0, .ref r_was, .ref r_came, .ref r_seenAt, .ref r_rowWorth, .ref r_farBy, .ref r_used, .int 0, .int 0, .int 0, .int 0, .int 0, .int 0, .int 0, .int 0, .int 0, .int 0, .int 0, .int 0, .ref r_fitPost, .ref r_fitEnd, .ref r_keptPosts, .int 0]))], [(r_all, .inl (T.2 0, 3952, .inl (upd g (1976 + i) (g i))))], [(r_has, .inl (T.2 2, 3, .inl (upd (fun _ => 0) 1 (vp_nar .boolean 1))))]] _ _ := G
        refine lv_iinc (v := nI (i + 1)) (lv' := [(2, .int (nI (i + 1))), (0, .ref y), (1, .int 1)]) hx hb dX12_image_47 hl (k := 0) rfl (z_inc i 1) (by decide) rfl (fun ls hl => ?_)
        refine lv_goto (tgt := 20) hx hb dX12_image_50 (by decide) ?_
        exact ih ((i + 1), (upd g (1976 + i) (g i))) (show (i + 1) ≤ 988 from by omega) (show 988 - (i + 1) < 988 - i from by omega) _ _ ls G (lv_sub hl [0, 1, 2] rfl)
    · refine lv_aload_n hx hb dX12_image_11 rfl (lv_at hl 0 rfl) ?_
      refine z_get C G clX12 0 rfl 1 (by decide) m_fl_RX12_13 rfl dX12_image_12 ?_
      refine lv_iload_n hx hb dX12_image_15 rfl (lv_at hl 1 rfl) ?_
      refine lv_iconst (v := 1) hx hb dX12_image_16 (by decide) ?_
      refine z_zst C G 2 rfl (vp_in_nI (n := 2) (by decide) (by decide)) dX12_image_17 (fun H locs G => ?_)
      have G : zS T A s.heap s [[(y, .inr (11, [.ref r_all, .ref r_has, .int 0, .int 0, .int 0, .int 0, .int 0, .int 0, .int 0, .int 0, .ref r_read, .int 0, .int 0, .int 0, .ref r_posts, .ref r_shut, .ref r_here, .int 0, .int 0, .int 0, .int 0, .ref r_was, .ref r_came, .ref r_seenAt, .ref r_rowWorth, .ref r_farBy, .ref r_used, .int 0, .int 0, .int 0, .int 0, .int 0, .int 0, .int 0, .int 0, .int 0, .int 0, .int 0, .int 0, .ref r_fitPost, .ref r_fitEnd, .ref r_keptPosts, .int 0]))], [(r_all, .inl (T.2 0, 3952, .inl (upd (fun _ => 0) 6 (-1))))], [(r_has, .inl (T.2 2, 3, .inl (upd (fun _ => 0) 2 (vp_nar .boolean 1))))]] _ _ := G
      refine lv_iconst (v := 0) hx hb dX12_image_18 (by decide) ?_
      refine lv_istore_n (lv' := [(2, .int 0), (0, .ref y), (1, .int 2)]) hx hb dX12_image_19 rfl hl (by decide) rfl (fun ls hl => ?_)
      refine z_loop (T := T) (α := Nat × (Nat → Int32)) 20 (fun (i, g) => [[(y, .inr (11, [.ref r_all, .ref r_has, .int 0, .int 0, .int 0, .int 0, .int 0, .int 0, .int 0, .int 0, .ref r_read, .int 0, .int 0, .int 0, .ref r_posts, .ref r_shut, .ref r_here, .int 0, .int 0, .int 0, .int 0, .ref r_was, .ref r_came, .ref r_seenAt, .ref r_rowWorth, .ref r_farBy, .ref r_used, .int 0, .int 0, .int 0, .int 0, .int 0, .int 0, .int 0, .int 0, .int 0, .int 0, .int 0, .int 0, .ref r_fitPost, .ref r_fitEnd, .ref r_keptPosts, .int 0]))], [(r_all, .inl (T.2 0, 3952, .inl g))], [(r_has, .inl (T.2 2, 3, .inl (upd (fun _ => 0) 2 (vp_nar .boolean 1))))]]) (fun (i, g) => [(2, .int (nI i)), (0, .ref y), (1, .int 2)]) (fun (i, g) => i ≤ 988) (fun (i, g) => 988 - i) ?_ (0, (upd (fun _ => 0) 6 (-1))) (show 0 ≤ 988 from by omega) G (lv_sub hl [0, 1, 2] rfl)
      rintro ⟨i, g⟩ hi ih H locs ls G hl
      have hi : i ≤ 988 := hi
      have G : zS T A s.heap s [[(y, .inr (11, [.ref r_all, .ref r_has, .int 0, .int 0, .int 0, .int 0, .int 0, .int 0, .int 0, .int 0, .ref r_read, .int 0, .int 0, .int 0, .ref r_posts, .ref r_shut, .ref r_here, .int 0, .int 0, .int 0, .int 0, .ref r_was, .ref r_came, .ref r_seenAt, .ref r_rowWorth, .ref r_farBy, .ref r_used, .int 0, .int 0, .int 0, .int 0, .int 0, .int 0, .int 0, .int 0, .int 0, .int 0, .int 0, .int 0, .ref r_fitPost, .ref r_fitEnd, .ref r_keptPosts, .int 0]))], [(r_all, .inl (T.2 0, 3952, .inl g))], [(r_has, .inl (T.2 2, 3, .inl (upd (fun _ => 0) 2 (vp_nar .boolean 1))))]] _ _ := G
      have hl : lv_has ls 3 [(2, .int (nI i)), (0, .ref y), (1, .int 2)] := hl
      refine lv_iload_n hx hb dX12_image_20 rfl (lv_at hl 0 rfl) ?_
      refine lv_sipush (v := 988) hx hb dX12_image_21 (by decide) ?_
      refine lv_icmp_ge (tgt := 53) hx hb dX12_image_24 (by decide) (fun c_16 => ?_) (fun c_16 => ?_)
      · have c_16n : 988 ≤ i := (nI_leI (a := 988) (b := i) (by omega) (by omega)).mp c_16
        refine lv_iconst (v := 1) hx hb dX12_image_53 (by decide) ?_
        have G := G.sub (bs' := []) [] rfl
        exact z_zret C hr hlocks G (Nat.le_of_ble_eq_true rfl) (Nat.le_of_ble_eq_true rfl) dX12_image_54 rfl ⟨rfl, (by decide)⟩
      · have c_16n : ¬ 988 ≤ i := fun q => c_16 ((nI_leI (a := 988) (b := i) (by omega) (by omega)).mpr q)
        refine lv_aload_n hx hb dX12_image_27 rfl (lv_at hl 1 rfl) ?_
        refine z_get C G clX12 0 rfl 0 (by decide) m_fl_RX12_7 rfl dX12_image_28 ?_
        refine lv_sipush (v := 988) hx hb dX12_image_31 (by decide) ?_
        refine lv_iload_n hx hb dX12_image_34 rfl (lv_at hl 2 rfl) ?_
        refine lv_iconst (v := 1) hx hb dX12_image_35 (by decide) ?_
        refine lv_iadd hx hb dX12_image_36 ?_
        refine lv_topi (fun y_17 ey_17 => ?_)
        obtain rfl : y_17 = 3 := ey_17.trans (by decide)
        refine lv_imul hx hb dX12_image_37 ?_
        refine lv_topi (fun y_18 ey_18 => ?_)
        obtain rfl : y_18 = 2964 := ey_18.trans (by decide)
        refine lv_iload_n hx hb dX12_image_38 rfl (lv_at hl 0 rfl) ?_
        refine lv_iadd hx hb dX12_image_39 ?_
        refine lv_topi (fun y_19 ey_19 => ?_)
        obtain rfl : y_19 = nI (2964 + i) := ey_19.trans (z_iaddn 2964 i rfl rfl)
        refine lv_aload_n hx hb dX12_image_40 rfl (lv_at hl 1 rfl) ?_
        refine z_get C G clX12 0 rfl 0 (by decide) m_fl_RX12_7 rfl dX12_image_41 ?_
        refine lv_iload_n hx hb dX12_image_44 rfl (lv_at hl 0 rfl) ?_
        refine z_ild C G 1 rfl (vp_in_nI (by omega) (by omega)) dX12_image_45 ?_
        refine lv_topi (fun v_20 ev_20 => ?_)
        rw [nI_clamp (by omega)] at ev_20
        subst ev_20
        refine z_ist C G 1 rfl (vp_in_nI (by omega) (by omega)) dX12_image_46 (fun H locs G => ?_)
        rw [nI_clamp (by omega)] at G
        have G : zS T A s.heap s [[(y, .inr (11, [.ref r_all, .ref r_has, .int 0, .int 0, .int 0, .int 0, .int 0, .int 0, .int 0, .int 0, .ref r_read, .int 0, .int 0, .int 0, .ref r_posts, .ref r_shut, .ref r_here, .int 0, .int 0, .int 0, .int 0, .ref r_was, .ref r_came, .ref r_seenAt, .ref r_rowWorth, .ref r_farBy, .ref r_used, .int 0, .int 0, .int 0, .int 0, .int 0, .int 0, .int 0, .int 0, .int 0, .int 0, .int 0, .int 0, .ref r_fitPost, .ref r_fitEnd, .ref r_keptPosts, .int 0]))], [(r_all, .inl (T.2 0, 3952, .inl (upd g (2964 + i) (g i))))], [(r_has, .inl (T.2 2, 3, .inl (upd (fun _ => 0) 2 (vp_nar .boolean 1))))]] _ _ := G
        refine lv_iinc (v := nI (i + 1)) (lv' := [(2, .int (nI (i + 1))), (0, .ref y), (1, .int 2)]) hx hb dX12_image_47 hl (k := 0) rfl (z_inc i 1) (by decide) rfl (fun ls hl => ?_)
        refine lv_goto (tgt := 20) hx hb dX12_image_50 (by decide) ?_
        exact ih ((i + 1), (upd g (2964 + i) (g i))) (show (i + 1) ≤ 988 from by omega) (show 988 - (i + 1) < 988 - i from by omega) _ _ ls G (lv_sub hl [0, 1, 2] rfl)
  · have h_5 : (n.toInt < (0 : Int) ∨ (2 : Int) < n.toInt) := h_5
    refine lv_if_ne (tgt := 11) hx hb dX12_image_6 (by decide) (fun q => absurd (by decide) q) (fun _ => ?_)
    refine lv_iconst (v := 0) hx hb dX12_image_9 (by decide) ?_
    have G := G.sub (bs' := []) [] rfl
    exact z_zret C hr hlocks G (Nat.le_of_ble_eq_true rfl) (Nat.le_of_ble_eq_true rfl) dX12_image_10 rfl ⟨rfl, (by unfold zImage; rw [if_neg (by omega)])⟩
set_option maxHeartbeats 4000000 in
set_option maxRecDepth 100000 in
/-- again -/
theorem c_m_again (l : Launch) (T : zTy) (y : Nat) (r_all : Nat) (r_has : Nat) (r_read : Nat) (r_posts : Nat) (r_shut : Nat) (r_here : Nat) (r_was : Nat) (r_came : Nat) (r_seenAt : Nat) (r_rowWorth : Nat) (r_farBy : Nat) (r_used : Nat) (r_fitPost : Nat) (r_fitEnd : Nat) (r_keptPosts : Nat) (n : Int32) : zMi l T yX12_again cX12_again 3 (some .boolean) 3 0 0 [.ref y, .int n] [[(y, .inr (11, [.ref r_all, .ref r_has, .int 0, .int 0, .int 0, .int 0, .int 0, .int 0, .int 0, .int 0, .ref r_read, .int 0, .int 0, .int 0, .ref r_posts, .ref r_shut, .ref r_here, .int 0, .int 0, .int 0, .int 0, .ref r_was, .ref r_came, .ref r_seenAt, .ref r_rowWorth, .ref r_farBy, .ref r_used, .int 0, .int 0, .int 0, .int 0, .int 0, .int 0, .int 0, .int 0, .int 0, .int 0, .int 0, .int 0, .ref r_fitPost, .ref r_fitEnd, .ref r_keptPosts, .int 0]))], [(r_all, .inl (T.2 0, 3952, .inl (upd (fun _ => 0) 6 (-1))))], [(r_has, .inl (T.2 2, 3, .inl (fun _ => 0)))]] (fun (r : Int32) bs => bs = [] ∧ r = 0) := by
  refine zMi_of (own := RX12) (by decide) rfl (Nat.le_of_ble_eq_true rfl) ?_
  intro p e s m args below meth c A ls C hr hlocks hnm hAe G hl
  have hx := C.1
  have hb := C.2.1
  have hl : lv_has ls 3 [(0, .ref y), (1, .int n)] := hl
  refine lv_iload_n hx hb dX12_again_0 rfl (lv_at hl 1 rfl) ?_
  refine lv_iconst (v := 0) hx hb dX12_again_1 (by decide) ?_
  refine lv_iconst (v := 2) hx hb dX12_again_2 (by decide) ?_
  refine z_Si (bc := []) (br := [[(y, .inr (11, [.ref r_all, .ref r_has, .int 0, .int 0, .int 0, .int 0, .int 0, .int 0, .int 0, .int 0, .ref r_read, .int 0, .int 0, .int 0, .ref r_posts, .ref r_shut, .ref r_here, .int 0, .int 0, .int 0, .int 0, .ref r_was, .ref r_came, .ref r_seenAt, .ref r_rowWorth, .ref r_farBy, .ref r_used, .int 0, .int 0, .int 0, .int 0, .int 0, .int 0, .int 0, .int 0, .int 0, .int 0, .int 0, .int 0, .ref r_fitPost, .ref r_fitEnd, .ref r_keptPosts, .int 0]))], [(r_all, .inl (T.2 0, 3952, .inl (upd (fun _ => 0) 6 (-1))))], [(r_has, .inl (T.2 2, 3, .inl (fun _ => 0)))]]) (As := [.int n, .int 0, .int 2]) (rest := []) C G (c_isIn l T n 0 2) (kS_RX12_111 C.2.2.2.2 (Nat.le_of_ble_eq_true rfl) (Nat.le_of_ble_eq_true rfl)) [] [0, 1, 2] rfl rfl rfl rfl hl.1 dX12_again_3 (Nat.le_of_ble_eq_true rfl) (Nat.le_of_ble_eq_true rfl) (fun r_2 b1 H locs hw G => ?_)
  obtain ⟨rfl, hc_1⟩ := hw
  have G : zS T A s.heap s [[(y, .inr (11, [.ref r_all, .ref r_has, .int 0, .int 0, .int 0, .int 0, .int 0, .int 0, .int 0, .int 0, .ref r_read, .int 0, .int 0, .int 0, .ref r_posts, .ref r_shut, .ref r_here, .int 0, .int 0, .int 0, .int 0, .ref r_was, .ref r_came, .ref r_seenAt, .ref r_rowWorth, .ref r_farBy, .ref r_used, .int 0, .int 0, .int 0, .int 0, .int 0, .int 0, .int 0, .int 0, .int 0, .int 0, .int 0, .int 0, .ref r_fitPost, .ref r_fitEnd, .ref r_keptPosts, .int 0]))], [(r_all, .inl (T.2 0, 3952, .inl (upd (fun _ => 0) 6 (-1))))], [(r_has, .inl (T.2 2, 3, .inl (fun _ => 0)))]] _ _ := G
  rcases hc_1 with ⟨rfl, h_3, h_4⟩ | ⟨rfl, h_5⟩
  · have h_3 : (0 : Int) ≤ n.toInt := h_3
    have h_4 : n.toInt ≤ (2 : Int) := h_4
    refine lv_if_eq (tgt := 18) hx hb dX12_again_6 (by decide) (fun q => absurd q (by decide)) (fun _ => ?_)
    rcases z_three (so := n) (by omega) (by omega) with rfl | rfl | rfl
    · refine lv_aload_n hx hb dX12_again_9 rfl (lv_at hl 0 rfl) ?_
      refine z_get C G clX12 0 rfl 1 (by decide) m_fl_RX12_13 rfl dX12_again_10 ?_
      refine lv_iload_n hx hb dX12_again_13 rfl (lv_at hl 1 rfl) ?_
      refine z_zld C G 2 rfl (vp_in_nI (n := 0) (by decide) (by decide)) dX12_again_14 ?_
      refine lv_topi (fun v_6 ev_6 => ?_)
      obtain rfl : v_6 = 0 := ev_6
      refine lv_if_ne (tgt := 20) hx hb dX12_again_15 (by decide) (fun q => absurd (by decide) q) (fun _ => ?_)
      refine lv_iconst (v := 0) hx hb dX12_again_18 (by decide) ?_
      have G := G.sub (bs' := []) [] rfl
      exact z_zret C hr hlocks G (Nat.le_of_ble_eq_true rfl) (Nat.le_of_ble_eq_true rfl) dX12_again_19 rfl ⟨rfl, rfl⟩
    · refine lv_aload_n hx hb dX12_again_9 rfl (lv_at hl 0 rfl) ?_
      refine z_get C G clX12 0 rfl 1 (by decide) m_fl_RX12_13 rfl dX12_again_10 ?_
      refine lv_iload_n hx hb dX12_again_13 rfl (lv_at hl 1 rfl) ?_
      refine z_zld C G 2 rfl (vp_in_nI (n := 1) (by decide) (by decide)) dX12_again_14 ?_
      refine lv_topi (fun v_7 ev_7 => ?_)
      obtain rfl : v_7 = 0 := ev_7
      refine lv_if_ne (tgt := 20) hx hb dX12_again_15 (by decide) (fun q => absurd (by decide) q) (fun _ => ?_)
      refine lv_iconst (v := 0) hx hb dX12_again_18 (by decide) ?_
      have G := G.sub (bs' := []) [] rfl
      exact z_zret C hr hlocks G (Nat.le_of_ble_eq_true rfl) (Nat.le_of_ble_eq_true rfl) dX12_again_19 rfl ⟨rfl, rfl⟩
    · refine lv_aload_n hx hb dX12_again_9 rfl (lv_at hl 0 rfl) ?_
      refine z_get C G clX12 0 rfl 1 (by decide) m_fl_RX12_13 rfl dX12_again_10 ?_
      refine lv_iload_n hx hb dX12_again_13 rfl (lv_at hl 1 rfl) ?_
      refine z_zld C G 2 rfl (vp_in_nI (n := 2) (by decide) (by decide)) dX12_again_14 ?_
      refine lv_topi (fun v_8 ev_8 => ?_)
      obtain rfl : v_8 = 0 := ev_8
      refine lv_if_ne (tgt := 20) hx hb dX12_again_15 (by decide) (fun q => absurd (by decide) q) (fun _ => ?_)
      refine lv_iconst (v := 0) hx hb dX12_again_18 (by decide) ?_
      have G := G.sub (bs' := []) [] rfl
      exact z_zret C hr hlocks G (Nat.le_of_ble_eq_true rfl) (Nat.le_of_ble_eq_true rfl) dX12_again_19 rfl ⟨rfl, rfl⟩
  · have h_5 : (n.toInt < (0 : Int) ∨ (2 : Int) < n.toInt) := h_5
    refine lv_if_eq (tgt := 18) hx hb dX12_again_6 (by decide) (fun _ => ?_) (fun q => absurd (by decide) q)
    refine lv_iconst (v := 0) hx hb dX12_again_18 (by decide) ?_
    have G := G.sub (bs' := []) [] rfl
    exact z_zret C hr hlocks G (Nat.le_of_ble_eq_true rfl) (Nat.le_of_ble_eq_true rfl) dX12_again_19 rfl ⟨rfl, rfl⟩
set_option maxHeartbeats 4000000 in
set_option maxRecDepth 100000 in
/-- byteAt: behind the end -/
theorem c_byteAt0 (l : Launch) (T : zTy) (y : Nat) (r_all : Nat) (r_has : Nat) (r_read : Nat) (r_posts : Nat) (r_shut : Nat) (r_here : Nat) (r_was : Nat) (r_came : Nat) (r_seenAt : Nat) (r_rowWorth : Nat) (r_farBy : Nat) (r_used : Nat) (r_fitPost : Nat) (r_fitEnd : Nat) (r_keptPosts : Nat) (u_where : Int32) (u_token : Int32) (u_number : Int32) (u_word : Int32) (u_wrong : Int32) (u_farCrossing : Int32) (u_z0 : Int32) (u_crossings : Int32) (u_inns : Int32) (u_steps : Int32) (u_done : Int32) (u_at : Int32) (u_gone : Int32) (u_everywhere : Int32) (u_again0 : Int32) (u_d0 : Int32) (u_never : Int32) (u_firstCame : Int32) (u_longRun : Int32) (u_moved : Int32) (u_crowd : Int32) (u_l0 : Int32) (u_fitMany : Int32) (u_fitLeast : Int32) (u_fitMost : Int32) (u_x0 : Int32) : zMi l T yX12_byteAt cX12_byteAt 2 (some .int) 1 0 0 [.ref y, .int 0] [[(y, .inr (11, [.ref r_all, .ref r_has, .int 0, .int 0, .int u_where, .int u_token, .int u_number, .int u_word, .int u_wrong, .int u_farCrossing, .ref r_read, .int u_z0, .int u_crossings, .int u_inns, .ref r_posts, .ref r_shut, .ref r_here, .int u_steps, .int u_done, .int u_at, .int u_gone, .ref r_was, .ref r_came, .ref r_seenAt, .ref r_rowWorth, .ref r_farBy, .ref r_used, .int u_everywhere, .int u_again0, .int u_d0, .int u_never, .int u_firstCame, .int u_longRun, .int u_moved, .int u_crowd, .int u_l0, .int u_fitMany, .int u_fitLeast, .int u_fitMost, .ref r_fitPost, .ref r_fitEnd, .ref r_keptPosts, .int u_x0]))]] (fun (r : Int32) bs => bs = [[(y, .inr (11, [.ref r_all, .ref r_has, .int 0, .int 0, .int u_where, .int u_token, .int u_number, .int u_word, .int u_wrong, .int u_farCrossing, .ref r_read, .int u_z0, .int u_crossings, .int u_inns, .ref r_posts, .ref r_shut, .ref r_here, .int u_steps, .int u_done, .int u_at, .int u_gone, .ref r_was, .ref r_came, .ref r_seenAt, .ref r_rowWorth, .ref r_farBy, .ref r_used, .int u_everywhere, .int u_again0, .int u_d0, .int u_never, .int u_firstCame, .int u_longRun, .int u_moved, .int u_crowd, .int u_l0, .int u_fitMany, .int u_fitLeast, .int u_fitMost, .ref r_fitPost, .ref r_fitEnd, .ref r_keptPosts, .int u_x0]))]] ∧ r = -1) := by
  refine zMi_of (own := RX12) (by decide) rfl (Nat.le_of_ble_eq_true rfl) ?_
  intro p e s m args below meth c A ls C hr hlocks hnm hAe G hl
  have hx := C.1
  have hb := C.2.1
  have hl : lv_has ls 2 [(0, .ref y), (1, .int 0)] := hl
  refine lv_iload_n hx hb dX12_byteAt_0 rfl (lv_at hl 1 rfl) ?_
  refine lv_aload_n hx hb dX12_byteAt_1 rfl (lv_at hl 0 rfl) ?_
  refine z_get C G clX12 0 rfl 2 (by decide) m_fl_RX12_56 rfl dX12_byteAt_2 ?_
  refine lv_icmp_ge (tgt := 20) hx hb dX12_byteAt_5 (by decide) (fun _ => ?_) (fun q => absurd (by decide) q)
  refine lv_iconst (v := (-1)) hx hb dX12_byteAt_20 (by decide) ?_
  exact z_iret C hr hlocks G (Nat.le_of_ble_eq_true rfl) (Nat.le_of_ble_eq_true rfl) dX12_byteAt_21 ⟨rfl, rfl⟩
set_option maxHeartbeats 4000000 in
set_option maxRecDepth 100000 in
/-- advance: the end -/
theorem c_advance0 (l : Launch) (T : zTy) (y : Nat) (r_all : Nat) (r_has : Nat) (r_read : Nat) (r_posts : Nat) (r_shut : Nat) (r_here : Nat) (r_was : Nat) (r_came : Nat) (r_seenAt : Nat) (r_rowWorth : Nat) (r_farBy : Nat) (r_used : Nat) (r_fitPost : Nat) (r_fitEnd : Nat) (r_keptPosts : Nat) (u_where : Int32) (u_token : Int32) (u_number : Int32) (u_word : Int32) (u_wrong : Int32) (u_farCrossing : Int32) (u_z0 : Int32) (u_crossings : Int32) (u_inns : Int32) (u_steps : Int32) (u_done : Int32) (u_at : Int32) (u_gone : Int32) (u_everywhere : Int32) (u_again0 : Int32) (u_d0 : Int32) (u_never : Int32) (u_firstCame : Int32) (u_longRun : Int32) (u_moved : Int32) (u_crowd : Int32) (u_l0 : Int32) (u_fitMany : Int32) (u_fitLeast : Int32) (u_fitMost : Int32) (u_x0 : Int32) : zMv l T yX12_advance cX12_advance 4 2 0 0 [.ref y] [[(y, .inr (11, [.ref r_all, .ref r_has, .int 0, .int 0, .int u_where, .int u_token, .int u_number, .int u_word, .int u_wrong, .int u_farCrossing, .ref r_read, .int u_z0, .int u_crossings, .int u_inns, .ref r_posts, .ref r_shut, .ref r_here, .int u_steps, .int u_done, .int u_at, .int u_gone, .ref r_was, .ref r_came, .ref r_seenAt, .ref r_rowWorth, .ref r_farBy, .ref r_used, .int u_everywhere, .int u_again0, .int u_d0, .int u_never, .int u_firstCame, .int u_longRun, .int u_moved, .int u_crowd, .int u_l0, .int u_fitMany, .int u_fitLeast, .int u_fitMost, .ref r_fitPost, .ref r_fitEnd, .ref r_keptPosts, .int u_x0]))]] (fun bs => bs = [[(y, .inr (11, [.ref r_all, .ref r_has, .int 0, .int 0, .int 0, .int 0, .int u_number, .int u_word, .int u_wrong, .int u_farCrossing, .ref r_read, .int u_z0, .int u_crossings, .int u_inns, .ref r_posts, .ref r_shut, .ref r_here, .int u_steps, .int u_done, .int u_at, .int u_gone, .ref r_was, .ref r_came, .ref r_seenAt, .ref r_rowWorth, .ref r_farBy, .ref r_used, .int u_everywhere, .int u_again0, .int u_d0, .int u_never, .int u_firstCame, .int u_longRun, .int u_moved, .int u_crowd, .int u_l0, .int u_fitMany, .int u_fitLeast, .int u_fitMost, .ref r_fitPost, .ref r_fitEnd, .ref r_keptPosts, .int u_x0]))]]) := by
  refine zMv_of (own := RX12) (by decide) rfl (Nat.le_of_ble_eq_true rfl) ?_
  intro p e s m args below meth c A ls C hr hlocks hnm hAe G hl
  have hx := C.1
  have hb := C.2.1
  have hl : lv_has ls 4 [(0, .ref y)] := hl
  refine lv_aload_n hx hb dX12_advance_0 rfl (lv_at hl 0 rfl) ?_
  refine lv_aload_n hx hb dX12_advance_1 rfl (lv_at hl 0 rfl) ?_
  refine z_get C G clX12 0 rfl 3 (by decide) m_fl_RX12_70 rfl dX12_advance_2 ?_
  refine z_Vi (bc := [[(y, .inr (11, [.ref r_all, .ref r_has, .int 0, .int 0, .int u_where, .int u_token, .int u_number, .int u_word, .int u_wrong, .int u_farCrossing, .ref r_read, .int u_z0, .int u_crossings, .int u_inns, .ref r_posts, .ref r_shut, .ref r_here, .int u_steps, .int u_done, .int u_at, .int u_gone, .ref r_was, .ref r_came, .ref r_seenAt, .ref r_rowWorth, .ref r_farBy, .ref r_used, .int u_everywhere, .int u_again0, .int u_d0, .int u_never, .int u_firstCame, .int u_longRun, .int u_moved, .int u_crowd, .int u_l0, .int u_fitMany, .int u_fitLeast, .int u_fitMost, .ref r_fitPost, .ref r_fitEnd, .ref r_keptPosts, .int u_x0]))]]) (br := []) (As := [.int 0]) (rest := []) C G (c_byteAt0 l T y r_all r_has r_read r_posts r_shut r_here r_was r_came r_seenAt r_rowWorth r_farBy r_used r_fitPost r_fitEnd r_keptPosts u_where u_token u_number u_word u_wrong u_farCrossing u_z0 u_crossings u_inns u_steps u_done u_at u_gone u_everywhere u_again0 u_d0 u_never u_firstCame u_longRun u_moved u_crowd u_l0 u_fitMany u_fitLeast u_fitMost u_x0) (kV_RX12_73 C.2.2.2.2 (Nat.le_of_ble_eq_true rfl) (Nat.le_of_ble_eq_true rfl)) [0] [] rfl rfl (ci := 11) (qc := (RX12, TX12, 43)) rfl rfl (List.mem_flatten.mpr ⟨_, List.mem_of_getElem? (i := 0) rfl, List.mem_cons_self⟩) rfl rfl hl.1 dX12_advance_5 (Nat.le_of_ble_eq_true rfl) (Nat.le_of_ble_eq_true rfl) (fun r_2 b1 H locs hw G => ?_)
  obtain ⟨rfl, h_1⟩ := hw
  have G : zS T A s.heap s [[(y, .inr (11, [.ref r_all, .ref r_has, .int 0, .int 0, .int u_where, .int u_token, .int u_number, .int u_word, .int u_wrong, .int u_farCrossing, .ref r_read, .int u_z0, .int u_crossings, .int u_inns, .ref r_posts, .ref r_shut, .ref r_here, .int u_steps, .int u_done, .int u_at, .int u_gone, .ref r_was, .ref r_came, .ref r_seenAt, .ref r_rowWorth, .ref r_farBy, .ref r_used, .int u_everywhere, .int u_again0, .int u_d0, .int u_never, .int u_firstCame, .int u_longRun, .int u_moved, .int u_crowd, .int u_l0, .int u_fitMany, .int u_fitLeast, .int u_fitMost, .ref r_fitPost, .ref r_fitEnd, .ref r_keptPosts, .int u_x0]))]] _ _ := G
  subst h_1
  refine lv_bipush (v := 10) hx hb dX12_advance_8 (by decide) ?_
  refine lv_icmp_eq (tgt := 26) hx hb dX12_advance_10 (by decide) (fun q => absurd q (by decide)) (fun _ => ?_)
  refine lv_aload_n hx hb dX12_advance_13 rfl (lv_at hl 0 rfl) ?_
  refine lv_aload_n hx hb dX12_advance_14 rfl (lv_at hl 0 rfl) ?_
  refine z_get C G clX12 0 rfl 3 (by decide) m_fl_RX12_70 rfl dX12_advance_15 ?_
  refine z_Vi (bc := [[(y, .inr (11, [.ref r_all, .ref r_has, .int 0, .int 0, .int u_where, .int u_token, .int u_number, .int u_word, .int u_wrong, .int u_farCrossing, .ref r_read, .int u_z0, .int u_crossings, .int u_inns, .ref r_posts, .ref r_shut, .ref r_here, .int u_steps, .int u_done, .int u_at, .int u_gone, .ref r_was, .ref r_came, .ref r_seenAt, .ref r_rowWorth, .ref r_farBy, .ref r_used, .int u_everywhere, .int u_again0, .int u_d0, .int u_never, .int u_firstCame, .int u_longRun, .int u_moved, .int u_crowd, .int u_l0, .int u_fitMany, .int u_fitLeast, .int u_fitMost, .ref r_fitPost, .ref r_fitEnd, .ref r_keptPosts, .int u_x0]))]]) (br := []) (As := [.int 0]) (rest := []) C G (c_byteAt0 l T y r_all r_has r_read r_posts r_shut r_here r_was r_came r_seenAt r_rowWorth r_farBy r_used r_fitPost r_fitEnd r_keptPosts u_where u_token u_number u_word u_wrong u_farCrossing u_z0 u_crossings u_inns u_steps u_done u_at u_gone u_everywhere u_again0 u_d0 u_never u_firstCame u_longRun u_moved u_crowd u_l0 u_fitMany u_fitLeast u_fitMost u_x0) (kV_RX12_73 C.2.2.2.2 (Nat.le_of_ble_eq_true rfl) (Nat.le_of_ble_eq_true rfl)) [0] [] rfl rfl (ci := 11) (qc := (RX12, TX12, 43)) rfl rfl (List.mem_flatten.mpr ⟨_, List.mem_of_getElem? (i := 0) rfl, List.mem_cons_self⟩) rfl rfl hl.1 dX12_advance_18 (Nat.le_of_ble_eq_true rfl) (Nat.le_of_ble_eq_true rfl) (fun r_4 b1 H locs hw G => ?_)
  obtain ⟨rfl, h_3⟩ := hw
  have G : zS T A s.heap s [[(y, .inr (11, [.ref r_all, .ref r_has, .int 0, .int 0, .int u_where, .int u_token, .int u_number, .int u_word, .int u_wrong, .int u_farCrossing, .ref r_read, .int u_z0, .int u_crossings, .int u_inns, .ref r_posts, .ref r_shut, .ref r_here, .int u_steps, .int u_done, .int u_at, .int u_gone, .ref r_was, .ref r_came, .ref r_seenAt, .ref r_rowWorth, .ref r_farBy, .ref r_used, .int u_everywhere, .int u_again0, .int u_d0, .int u_never, .int u_firstCame, .int u_longRun, .int u_moved, .int u_crowd, .int u_l0, .int u_fitMany, .int u_fitLeast, .int u_fitMost, .ref r_fitPost, .ref r_fitEnd, .ref r_keptPosts, .int u_x0]))]] _ _ := G
  subst h_3
  refine lv_bipush (v := 32) hx hb dX12_advance_21 (by decide) ?_
  refine lv_icmp_ne (tgt := 39) hx hb dX12_advance_23 (by decide) (fun _ => ?_) (fun q => absurd q (by decide))
  refine lv_aload_n hx hb dX12_advance_39 rfl (lv_at hl 0 rfl) ?_
  refine lv_aload_n hx hb dX12_advance_40 rfl (lv_at hl 0 rfl) ?_
  refine z_get C G clX12 0 rfl 3 (by decide) m_fl_RX12_70 rfl dX12_advance_41 ?_
  refine z_put C G clX12 0 rfl 4 (by decide) m_fl_RX12_77 rfl rfl rfl (Nat.le_of_ble_eq_true rfl) dX12_advance_44 (fun H locs G => ?_)
  have G : zS T A s.heap s [[(y, .inr (11, [.ref r_all, .ref r_has, .int 0, .int 0, .int 0, .int u_token, .int u_number, .int u_word, .int u_wrong, .int u_farCrossing, .ref r_read, .int u_z0, .int u_crossings, .int u_inns, .ref r_posts, .ref r_shut, .ref r_here, .int u_steps, .int u_done, .int u_at, .int u_gone, .ref r_was, .ref r_came, .ref r_seenAt, .ref r_rowWorth, .ref r_farBy, .ref r_used, .int u_everywhere, .int u_again0, .int u_d0, .int u_never, .int u_firstCame, .int u_longRun, .int u_moved, .int u_crowd, .int u_l0, .int u_fitMany, .int u_fitLeast, .int u_fitMost, .ref r_fitPost, .ref r_fitEnd, .ref r_keptPosts, .int u_x0]))]] _ _ := G
  refine lv_aload_n hx hb dX12_advance_47 rfl (lv_at hl 0 rfl) ?_
  refine lv_aload_n hx hb dX12_advance_48 rfl (lv_at hl 0 rfl) ?_
  refine z_get C G clX12 0 rfl 3 (by decide) m_fl_RX12_70 rfl dX12_advance_49 ?_
  refine z_Vi (bc := [[(y, .inr (11, [.ref r_all, .ref r_has, .int 0, .int 0, .int 0, .int u_token, .int u_number, .int u_word, .int u_wrong, .int u_farCrossing, .ref r_read, .int u_z0, .int u_crossings, .int u_inns, .ref r_posts, .ref r_shut, .ref r_here, .int u_steps, .int u_done, .int u_at, .int u_gone, .ref r_was, .ref r_came, .ref r_seenAt, .ref r_rowWorth, .ref r_farBy, .ref r_used, .int u_everywhere, .int u_again0, .int u_d0, .int u_never, .int u_firstCame, .int u_longRun, .int u_moved, .int u_crowd, .int u_l0, .int u_fitMany, .int u_fitLeast, .int u_fitMost, .ref r_fitPost, .ref r_fitEnd, .ref r_keptPosts, .int u_x0]))]]) (br := []) (As := [.int 0]) (rest := []) C G (c_byteAt0 l T y r_all r_has r_read r_posts r_shut r_here r_was r_came r_seenAt r_rowWorth r_farBy r_used r_fitPost r_fitEnd r_keptPosts 0 u_token u_number u_word u_wrong u_farCrossing u_z0 u_crossings u_inns u_steps u_done u_at u_gone u_everywhere u_again0 u_d0 u_never u_firstCame u_longRun u_moved u_crowd u_l0 u_fitMany u_fitLeast u_fitMost u_x0) (kV_RX12_73 C.2.2.2.2 (Nat.le_of_ble_eq_true rfl) (Nat.le_of_ble_eq_true rfl)) [0] [] rfl rfl (ci := 11) (qc := (RX12, TX12, 43)) rfl rfl (List.mem_flatten.mpr ⟨_, List.mem_of_getElem? (i := 0) rfl, List.mem_cons_self⟩) rfl rfl hl.1 dX12_advance_52 (Nat.le_of_ble_eq_true rfl) (Nat.le_of_ble_eq_true rfl) (fun r_6 b1 H locs hw G => ?_)
  obtain ⟨rfl, h_5⟩ := hw
  have G : zS T A s.heap s [[(y, .inr (11, [.ref r_all, .ref r_has, .int 0, .int 0, .int 0, .int u_token, .int u_number, .int u_word, .int u_wrong, .int u_farCrossing, .ref r_read, .int u_z0, .int u_crossings, .int u_inns, .ref r_posts, .ref r_shut, .ref r_here, .int u_steps, .int u_done, .int u_at, .int u_gone, .ref r_was, .ref r_came, .ref r_seenAt, .ref r_rowWorth, .ref r_farBy, .ref r_used, .int u_everywhere, .int u_again0, .int u_d0, .int u_never, .int u_firstCame, .int u_longRun, .int u_moved, .int u_crowd, .int u_l0, .int u_fitMany, .int u_fitLeast, .int u_fitMost, .ref r_fitPost, .ref r_fitEnd, .ref r_keptPosts, .int u_x0]))]] _ _ := G
  subst h_5
  refine lv_istore_n (lv' := [(1, .int (-1)), (0, .ref y)]) hx hb dX12_advance_55 rfl hl (by decide) rfl (fun ls hl => ?_)
  refine lv_iload_n hx hb dX12_advance_56 rfl (lv_at hl 0 rfl) ?_
  refine lv_if_ge (tgt := 68) hx hb dX12_advance_57 (by decide) (fun q => absurd q (by decide)) (fun _ => ?_)
  refine lv_aload_n hx hb dX12_advance_60 rfl (lv_at hl 1 rfl) ?_
  refine lv_iconst (v := 0) hx hb dX12_advance_61 (by decide) ?_
  refine z_put C G clX12 0 rfl 5 (by decide) m_fl_RX12_80 rfl rfl rfl (Nat.le_of_ble_eq_true rfl) dX12_advance_62 (fun H locs G => ?_)
  have G : zS T A s.heap s [[(y, .inr (11, [.ref r_all, .ref r_has, .int 0, .int 0, .int 0, .int 0, .int u_number, .int u_word, .int u_wrong, .int u_farCrossing, .ref r_read, .int u_z0, .int u_crossings, .int u_inns, .ref r_posts, .ref r_shut, .ref r_here, .int u_steps, .int u_done, .int u_at, .int u_gone, .ref r_was, .ref r_came, .ref r_seenAt, .ref r_rowWorth, .ref r_farBy, .ref r_used, .int u_everywhere, .int u_again0, .int u_d0, .int u_never, .int u_firstCame, .int u_longRun, .int u_moved, .int u_crowd, .int u_l0, .int u_fitMany, .int u_fitLeast, .int u_fitMost, .ref r_fitPost, .ref r_fitEnd, .ref r_keptPosts, .int u_x0]))]] _ _ := G
  refine lv_goto (tgt := 311) hx hb dX12_advance_65 (by decide) ?_
  exact z_vret C hr hlocks G (Nat.le_of_ble_eq_true rfl) (Nat.le_of_ble_eq_true rfl) dX12_advance_311 rfl
set_option maxHeartbeats 4000000 in
set_option maxRecDepth 100000 in
/-- sizeOf -/
theorem c_sizeOf_0 (l : Launch) (T : zTy) : zMi l T yX12_sizeOf cX12_sizeOf 1 (some .int) 1 0 0 [.int 0] [] (fun (r : Int32) bs => bs = [] ∧ r = 51) := by
  refine zMi_of (own := RX12) (by decide) rfl (Nat.le_of_ble_eq_true rfl) ?_
  intro p e s m args below meth c A ls C hr hlocks hnm hAe G hl
  have hx := C.1
  have hb := C.2.1
  have hl : lv_has ls 1 [(0, .int 0)] := hl
  refine lv_iload_n hx hb dX12_sizeOf_0 rfl (lv_at hl 0 rfl) ?_
  refine lv_if_ne (tgt := 9) hx hb dX12_sizeOf_1 (by decide) (fun q => absurd (by decide) q) (fun _ => ?_)
  refine lv_bipush (v := 51) hx hb dX12_sizeOf_4 (by decide) ?_
  refine lv_goto (tgt := 21) hx hb dX12_sizeOf_6 (by decide) ?_
  exact z_iret C hr hlocks G (Nat.le_of_ble_eq_true rfl) (Nat.le_of_ble_eq_true rfl) dX12_sizeOf_21 ⟨rfl, rfl⟩
set_option maxHeartbeats 4000000 in
set_option maxRecDepth 100000 in
/-- placeOf -/
theorem c_placeOf_0 (l : Launch) (T : zTy) : zMi l T yX12_placeOf cX12_placeOf 2 (some .int) 1 0 0 [.int 0, .int 0] [] (fun (r : Int32) bs => bs = [] ∧ r = 610) := by
  refine zMi_of (own := RX12) (by decide) rfl (Nat.le_of_ble_eq_true rfl) ?_
  intro p e s m args below meth c A ls C hr hlocks hnm hAe G hl
  have hx := C.1
  have hb := C.2.1
  have hl : lv_has ls 2 [(0, .int 0), (1, .int 0)] := hl
  refine lv_iload_n hx hb dX12_placeOf_0 rfl (lv_at hl 0 rfl) ?_
  refine lv_if_ne (tgt := 15) hx hb dX12_placeOf_1 (by decide) (fun q => absurd (by decide) q) (fun _ => ?_)
  refine lv_sipush (v := 610) hx hb dX12_placeOf_4 (by decide) ?_
  refine lv_bipush (v := 51) hx hb dX12_placeOf_7 (by decide) ?_
  refine lv_iload_n hx hb dX12_placeOf_9 rfl (lv_at hl 1 rfl) ?_
  refine lv_imul hx hb dX12_placeOf_10 ?_
  refine lv_topi (fun y_1 ey_1 => ?_)
  obtain rfl : y_1 = 0 := ey_1.trans (by decide)
  refine lv_iadd hx hb dX12_placeOf_11 ?_
  refine lv_topi (fun y_2 ey_2 => ?_)
  obtain rfl : y_2 = 610 := ey_2.trans (by decide)
  refine lv_goto (tgt := 39) hx hb dX12_placeOf_12 (by decide) ?_
  exact z_iret C hr hlocks G (Nat.le_of_ble_eq_true rfl) (Nat.le_of_ble_eq_true rfl) dX12_placeOf_39 ⟨rfl, rfl⟩
set_option maxHeartbeats 4000000 in
set_option maxRecDepth 100000 in
/-- sizeOf -/
theorem c_sizeOf_1 (l : Launch) (T : zTy) : zMi l T yX12_sizeOf cX12_sizeOf 1 (some .int) 1 0 0 [.int 1] [] (fun (r : Int32) bs => bs = [] ∧ r = 121) := by
  refine zMi_of (own := RX12) (by decide) rfl (Nat.le_of_ble_eq_true rfl) ?_
  intro p e s m args below meth c A ls C hr hlocks hnm hAe G hl
  have hx := C.1
  have hb := C.2.1
  have hl : lv_has ls 1 [(0, .int 1)] := hl
  refine lv_iload_n hx hb dX12_sizeOf_0 rfl (lv_at hl 0 rfl) ?_
  refine lv_if_ne (tgt := 9) hx hb dX12_sizeOf_1 (by decide) (fun _ => ?_) (fun q => absurd q (by decide))
  refine lv_iload_n hx hb dX12_sizeOf_9 rfl (lv_at hl 0 rfl) ?_
  refine lv_iconst (v := 1) hx hb dX12_sizeOf_10 (by decide) ?_
  refine lv_icmp_ne (tgt := 19) hx hb dX12_sizeOf_11 (by decide) (fun q => absurd (by decide) q) (fun _ => ?_)
  refine lv_bipush (v := 121) hx hb dX12_sizeOf_14 (by decide) ?_
  refine lv_goto (tgt := 21) hx hb dX12_sizeOf_16 (by decide) ?_
  exact z_iret C hr hlocks G (Nat.le_of_ble_eq_true rfl) (Nat.le_of_ble_eq_true rfl) dX12_sizeOf_21 ⟨rfl, rfl⟩
set_option maxHeartbeats 4000000 in
set_option maxRecDepth 100000 in
/-- placeOf -/
theorem c_placeOf_1 (l : Launch) (T : zTy) : zMi l T yX12_placeOf cX12_placeOf 2 (some .int) 1 0 0 [.int 1, .int 0] [] (fun (r : Int32) bs => bs = [] ∧ r = 712) := by
  refine zMi_of (own := RX12) (by decide) rfl (Nat.le_of_ble_eq_true rfl) ?_
  intro p e s m args below meth c A ls C hr hlocks hnm hAe G hl
  have hx := C.1
  have hb := C.2.1
  have hl : lv_has ls 2 [(0, .int 1), (1, .int 0)] := hl
  refine lv_iload_n hx hb dX12_placeOf_0 rfl (lv_at hl 0 rfl) ?_
  refine lv_if_ne (tgt := 15) hx hb dX12_placeOf_1 (by decide) (fun _ => ?_) (fun q => absurd q (by decide))
  refine lv_iload_n hx hb dX12_placeOf_15 rfl (lv_at hl 0 rfl) ?_
  refine lv_iconst (v := 1) hx hb dX12_placeOf_16 (by decide) ?_
  refine lv_icmp_ne (tgt := 31) hx hb dX12_placeOf_17 (by decide) (fun q => absurd (by decide) q) (fun _ => ?_)
  refine lv_sipush (v := 712) hx hb dX12_placeOf_20 (by decide) ?_
  refine lv_bipush (v := 121) hx hb dX12_placeOf_23 (by decide) ?_
  refine lv_iload_n hx hb dX12_placeOf_25 rfl (lv_at hl 1 rfl) ?_
  refine lv_imul hx hb dX12_placeOf_26 ?_
  refine lv_topi (fun y_1 ey_1 => ?_)
  obtain rfl : y_1 = 0 := ey_1.trans (by decide)
  refine lv_iadd hx hb dX12_placeOf_27 ?_
  refine lv_topi (fun y_2 ey_2 => ?_)
  obtain rfl : y_2 = 712 := ey_2.trans (by decide)
  refine lv_goto (tgt := 39) hx hb dX12_placeOf_28 (by decide) ?_
  exact z_iret C hr hlocks G (Nat.le_of_ble_eq_true rfl) (Nat.le_of_ble_eq_true rfl) dX12_placeOf_39 ⟨rfl, rfl⟩
set_option maxHeartbeats 4000000 in
set_option maxRecDepth 100000 in
/-- sizeOf -/
theorem c_sizeOf_2 (l : Launch) (T : zTy) : zMi l T yX12_sizeOf cX12_sizeOf 1 (some .int) 1 0 0 [.int 2] [] (fun (r : Int32) bs => bs = [] ∧ r = 17) := by
  refine zMi_of (own := RX12) (by decide) rfl (Nat.le_of_ble_eq_true rfl) ?_
  intro p e s m args below meth c A ls C hr hlocks hnm hAe G hl
  have hx := C.1
  have hb := C.2.1
  have hl : lv_has ls 1 [(0, .int 2)] := hl
  refine lv_iload_n hx hb dX12_sizeOf_0 rfl (lv_at hl 0 rfl) ?_
  refine lv_if_ne (tgt := 9) hx hb dX12_sizeOf_1 (by decide) (fun _ => ?_) (fun q => absurd q (by decide))
  refine lv_iload_n hx hb dX12_sizeOf_9 rfl (lv_at hl 0 rfl) ?_
  refine lv_iconst (v := 1) hx hb dX12_sizeOf_10 (by decide) ?_
  refine lv_icmp_ne (tgt := 19) hx hb dX12_sizeOf_11 (by decide) (fun _ => ?_) (fun q => absurd q (by decide))
  refine lv_bipush (v := 17) hx hb dX12_sizeOf_19 (by decide) ?_
  exact z_iret C hr hlocks G (Nat.le_of_ble_eq_true rfl) (Nat.le_of_ble_eq_true rfl) dX12_sizeOf_21 ⟨rfl, rfl⟩
set_option maxHeartbeats 4000000 in
set_option maxRecDepth 100000 in
/-- placeOf -/
theorem c_placeOf_2 (l : Launch) (T : zTy) : zMi l T yX12_placeOf cX12_placeOf 2 (some .int) 1 0 0 [.int 2, .int 0] [] (fun (r : Int32) bs => bs = [] ∧ r = 954) := by
  refine zMi_of (own := RX12) (by decide) rfl (Nat.le_of_ble_eq_true rfl) ?_
  intro p e s m args below meth c A ls C hr hlocks hnm hAe G hl
  have hx := C.1
  have hb := C.2.1
  have hl : lv_has ls 2 [(0, .int 2), (1, .int 0)] := hl
  refine lv_iload_n hx hb dX12_placeOf_0 rfl (lv_at hl 0 rfl) ?_
  refine lv_if_ne (tgt := 15) hx hb dX12_placeOf_1 (by decide) (fun _ => ?_) (fun q => absurd q (by decide))
  refine lv_iload_n hx hb dX12_placeOf_15 rfl (lv_at hl 0 rfl) ?_
  refine lv_iconst (v := 1) hx hb dX12_placeOf_16 (by decide) ?_
  refine lv_icmp_ne (tgt := 31) hx hb dX12_placeOf_17 (by decide) (fun _ => ?_) (fun q => absurd q (by decide))
  refine lv_sipush (v := 954) hx hb dX12_placeOf_31 (by decide) ?_
  refine lv_bipush (v := 17) hx hb dX12_placeOf_34 (by decide) ?_
  refine lv_iload_n hx hb dX12_placeOf_36 rfl (lv_at hl 1 rfl) ?_
  refine lv_imul hx hb dX12_placeOf_37 ?_
  refine lv_topi (fun y_1 ey_1 => ?_)
  obtain rfl : y_1 = 0 := ey_1.trans (by decide)
  refine lv_iadd hx hb dX12_placeOf_38 ?_
  refine lv_topi (fun y_2 ey_2 => ?_)
  obtain rfl : y_2 = 954 := ey_2.trans (by decide)
  exact z_iret C hr hlocks G (Nat.le_of_ble_eq_true rfl) (Nat.le_of_ble_eq_true rfl) dX12_placeOf_39 ⟨rfl, rfl⟩
set_option maxHeartbeats 4000000 in
set_option maxRecDepth 100000 in
/-- postsAreThere -/
theorem c_postsAreThere0 (l : Launch) (T : zTy) (y : Nat) (r_all : Nat) (r_has : Nat) (r_read : Nat) (r_posts : Nat) (r_shut : Nat) (r_here : Nat) (r_was : Nat) (r_came : Nat) (r_seenAt : Nat) (r_rowWorth : Nat) (r_farBy : Nat) (r_used : Nat) (r_fitPost : Nat) (r_fitEnd : Nat) (r_keptPosts : Nat) (u_size : Int32) (u_next : Int32) (u_where : Int32) (u_token : Int32) (u_number : Int32) (u_word : Int32) (u_wrong : Int32) (u_farCrossing : Int32) (u_z0 : Int32) (u_crossings : Int32) (u_inns : Int32) (u_steps : Int32) (u_done : Int32) (u_at : Int32) (u_gone : Int32) (u_everywhere : Int32) (u_again0 : Int32) (u_d0 : Int32) (u_never : Int32) (u_firstCame : Int32) (u_longRun : Int32) (u_moved : Int32) (u_crowd : Int32) (u_l0 : Int32) (u_fitMany : Int32) (u_fitLeast : Int32) (u_fitMost : Int32) (u_x0 : Int32) (f : Nat → Int32) (hz : ∀ j, j < 121 → f j = 0) : zMi l T yX12_postsAreThere cX12_postsAreThere 3 (some .boolean) 1 0 0 [.ref y] [[(y, .inr (11, [.ref r_all, .ref r_has, .int u_size, .int u_next, .int u_where, .int u_token, .int u_number, .int u_word, .int u_wrong, .int u_farCrossing, .ref r_read, .int u_z0, .int u_crossings, .int u_inns, .ref r_posts, .ref r_shut, .ref r_here, .int u_steps, .int u_done, .int u_at, .int u_gone, .ref r_was, .ref r_came, .ref r_seenAt, .ref r_rowWorth, .ref r_farBy, .ref r_used, .int u_everywhere, .int u_again0, .int u_d0, .int u_never, .int u_firstCame, .int u_longRun, .int u_moved, .int u_crowd, .int u_l0, .int u_fitMany, .int u_fitLeast, .int u_fitMost, .ref r_fitPost, .ref r_fitEnd, .ref r_keptPosts, .int u_x0]))], [(r_read, .inl (T.2 0, 121, .inl f))]] (fun (r : Int32) bs => bs = [[(y, .inr (11, [.ref r_all, .ref r_has, .int u_size, .int u_next, .int u_where, .int u_token, .int u_number, .int u_word, .int u_wrong, .int u_farCrossing, .ref r_read, .int u_z0, .int u_crossings, .int u_inns, .ref r_posts, .ref r_shut, .ref r_here, .int u_steps, .int u_done, .int u_at, .int u_gone, .ref r_was, .ref r_came, .ref r_seenAt, .ref r_rowWorth, .ref r_farBy, .ref r_used, .int u_everywhere, .int u_again0, .int u_d0, .int u_never, .int u_firstCame, .int u_longRun, .int u_moved, .int u_crowd, .int u_l0, .int u_fitMany, .int u_fitLeast, .int u_fitMost, .ref r_fitPost, .ref r_fitEnd, .ref r_keptPosts, .int u_x0]))], [(r_read, .inl (T.2 0, 121, .inl f))]] ∧ r = 1) := by
  refine zMi_of (own := RX12) (by decide) rfl (Nat.le_of_ble_eq_true rfl) ?_
  intro p e s m args below meth c A ls C hr hlocks hnm hAe G hl
  have hx := C.1
  have hb := C.2.1
  have hl : lv_has ls 3 [(0, .ref y)] := hl
  refine lv_iconst (v := 1) hx hb dX12_postsAreThere_0 (by decide) ?_
  refine lv_istore_n (lv' := [(1, .int 1), (0, .ref y)]) hx hb dX12_postsAreThere_1 rfl hl (by decide) rfl (fun ls hl => ?_)
  refine lv_iconst (v := 0) hx hb dX12_postsAreThere_2 (by decide) ?_
  refine lv_istore_n (lv' := [(2, .int 0), (1, .int 1), (0, .ref y)]) hx hb dX12_postsAreThere_3 rfl hl (by decide) rfl (fun ls hl => ?_)
  refine z_loop (T := T) (α := Nat) 4 (fun i => [[(y, .inr (11, [.ref r_all, .ref r_has, .int u_size, .int u_next, .int u_where, .int u_token, .int u_number, .int u_word, .int u_wrong, .int u_farCrossing, .ref r_read, .int u_z0, .int u_crossings, .int u_inns, .ref r_posts, .ref r_shut, .ref r_here, .int u_steps, .int u_done, .int u_at, .int u_gone, .ref r_was, .ref r_came, .ref r_seenAt, .ref r_rowWorth, .ref r_farBy, .ref r_used, .int u_everywhere, .int u_again0, .int u_d0, .int u_never, .int u_firstCame, .int u_longRun, .int u_moved, .int u_crowd, .int u_l0, .int u_fitMany, .int u_fitLeast, .int u_fitMost, .ref r_fitPost, .ref r_fitEnd, .ref r_keptPosts, .int u_x0]))], [(r_read, .inl (T.2 0, 121, .inl f))]]) (fun i => [(2, .int (nI i)), (1, .int 1), (0, .ref y)]) (fun i => i ≤ 7) (fun i => 7 - i) ?_ 0 (show 0 ≤ 7 from by omega) G (lv_sub hl [0, 1, 2] rfl)
  rintro i hi ih H locs ls G hl
  have hi : i ≤ 7 := hi
  have G : zS T A s.heap s [[(y, .inr (11, [.ref r_all, .ref r_has, .int u_size, .int u_next, .int u_where, .int u_token, .int u_number, .int u_word, .int u_wrong, .int u_farCrossing, .ref r_read, .int u_z0, .int u_crossings, .int u_inns, .ref r_posts, .ref r_shut, .ref r_here, .int u_steps, .int u_done, .int u_at, .int u_gone, .ref r_was, .ref r_came, .ref r_seenAt, .ref r_rowWorth, .ref r_farBy, .ref r_used, .int u_everywhere, .int u_again0, .int u_d0, .int u_never, .int u_firstCame, .int u_longRun, .int u_moved, .int u_crowd, .int u_l0, .int u_fitMany, .int u_fitLeast, .int u_fitMost, .ref r_fitPost, .ref r_fitEnd, .ref r_keptPosts, .int u_x0]))], [(r_read, .inl (T.2 0, 121, .inl f))]] _ _ := G
  have hl : lv_has ls 3 [(2, .int (nI i)), (1, .int 1), (0, .ref y)] := hl
  refine lv_iload_n hx hb dX12_postsAreThere_4 rfl (lv_at hl 0 rfl) ?_
  refine lv_bipush (v := 7) hx hb dX12_postsAreThere_5 (by decide) ?_
  refine lv_icmp_ge (tgt := 58) hx hb dX12_postsAreThere_7 (by decide) (fun c_1 => ?_) (fun c_1 => ?_)
  · have c_1n : 7 ≤ i := (nI_leI (a := 7) (b := i) (by omega) (by omega)).mp c_1
    refine lv_iload_n hx hb dX12_postsAreThere_58 rfl (lv_at hl 1 rfl) ?_
    exact z_zret C hr hlocks G (Nat.le_of_ble_eq_true rfl) (Nat.le_of_ble_eq_true rfl) dX12_postsAreThere_59 rfl ⟨rfl, rfl⟩
  · have c_1n : ¬ 7 ≤ i := fun q => c_1 ((nI_leI (a := 7) (b := i) (by omega) (by omega)).mpr q)
    refine lv_iload_n hx hb dX12_postsAreThere_10 rfl (lv_at hl 1 rfl) ?_
    refine lv_if_eq (tgt := 50) hx hb dX12_postsAreThere_11 (by decide) (fun q => absurd q (by decide)) (fun _ => ?_)
    refine lv_aload_n hx hb dX12_postsAreThere_14 rfl (lv_at hl 2 rfl) ?_
    refine z_get C G clX12 0 rfl 10 (by decide) m_fl_RX12_17 rfl dX12_postsAreThere_15 ?_
    refine lv_bipush (v := 9) hx hb dX12_postsAreThere_18 (by decide) ?_
    refine lv_iload_n hx hb dX12_postsAreThere_20 rfl (lv_at hl 0 rfl) ?_
    refine lv_iadd hx hb dX12_postsAreThere_21 ?_
    refine lv_topi (fun y_2 ey_2 => ?_)
    obtain rfl : y_2 = nI (9 + i) := ey_2.trans (z_iaddn 9 i rfl rfl)
    refine z_ild C G 1 rfl (vp_in_nI (by omega) (by omega)) dX12_postsAreThere_22 ?_
    refine lv_topi (fun v_3 ev_3 => ?_)
    rw [nI_clamp (by omega)] at ev_3
    subst ev_3
    refine lv_if_eq (tgt := 46) hx hb dX12_postsAreThere_23 (by decide) (fun _ => ?_) (fun q => absurd (hz _ (by omega)) q)
    refine lv_iconst (v := 1) hx hb dX12_postsAreThere_46 (by decide) ?_
    refine lv_goto (tgt := 51) hx hb dX12_postsAreThere_47 (by decide) ?_
    refine lv_istore_n (lv' := [(1, .int 1), (2, .int (nI i)), (0, .ref y)]) hx hb dX12_postsAreThere_51 rfl hl (by decide) rfl (fun ls hl => ?_)
    refine lv_iinc (v := nI (i + 1)) (lv' := [(2, .int (nI (i + 1))), (1, .int 1), (0, .ref y)]) hx hb dX12_postsAreThere_52 hl (k := 1) rfl (z_inc i 1) (by decide) rfl (fun ls hl => ?_)
    refine lv_goto (tgt := 4) hx hb dX12_postsAreThere_55 (by decide) ?_
    exact ih (i + 1) (show (i + 1) ≤ 7 from by omega) (show 7 - (i + 1) < 7 - i from by omega) _ _ ls G (lv_sub hl [0, 1, 2] rfl)
set_option maxHeartbeats 4000000 in
set_option maxRecDepth 100000 in
/-- text: on a new object -/
theorem c_m_text (l : Launch) (T : zTy) (y : Nat) (r_all : Nat) (r_has : Nat) (r_read : Nat) (r_posts : Nat) (r_shut : Nat) (r_here : Nat) (r_was : Nat) (r_came : Nat) (r_seenAt : Nat) (r_rowWorth : Nat) (r_farBy : Nat) (r_used : Nat) (r_fitPost : Nat) (r_fitEnd : Nat) (r_keptPosts : Nat) (so : Int32) (at_ : Int32) : zMi l T yX12_text cX12_text 5 (some .int) 4 0 0 [.ref y, .int so, .int at_] [[(y, .inr (11, [.ref r_all, .ref r_has, .int 0, .int 0, .int 0, .int 0, .int 0, .int 0, .int 0, .int 0, .ref r_read, .int 0, .int 0, .int 0, .ref r_posts, .ref r_shut, .ref r_here, .int 0, .int 0, .int 0, .int 0, .ref r_was, .ref r_came, .ref r_seenAt, .ref r_rowWorth, .ref r_farBy, .ref r_used, .int 0, .int 0, .int 0, .int 0, .int 0, .int 0, .int 0, .int 0, .int 0, .int 0, .int 0, .int 0, .ref r_fitPost, .ref r_fitEnd, .ref r_keptPosts, .int 0]))], [(r_all, .inl (T.2 0, 3952, .inl (upd (fun _ => 0) 6 (-1))))], [(r_read, .inl (T.2 0, 121, .inl (fun _ => 0)))]] (fun (r : Int32) bs => bs = [] ∧ r = zRes so at_) := by
  refine zMi_of (own := RX12) (by decide) rfl (Nat.le_of_ble_eq_true rfl) ?_
  intro p e s m args below meth c A ls C hr hlocks hnm hAe G hl
  have hx := C.1
  have hb := C.2.1
  have hl : lv_has ls 5 [(0, .ref y), (1, .int so), (2, .int at_)] := hl
  refine lv_aload_n hx hb dX12_text_0 rfl (lv_at hl 0 rfl) ?_
  refine lv_aload_n hx hb dX12_text_1 rfl (lv_at hl 0 rfl) ?_
  refine z_get C G clX12 0 rfl 0 (by decide) m_fl_RX12_7 rfl dX12_text_2 ?_
  refine lv_iconst (v := 4) hx hb dX12_text_5 (by decide) ?_
  refine z_ild C G 1 rfl (vp_in_nI (n := 4) (by decide) (by decide)) dX12_text_6 ?_
  refine lv_topi (fun v_1 ev_1 => ?_)
  obtain rfl : v_1 = 0 := ev_1
  refine z_put C G clX12 0 rfl 2 (by decide) m_fl_RX12_56 rfl rfl rfl (Nat.le_of_ble_eq_true rfl) dX12_text_7 (fun H locs G => ?_)
  have G : zS T A s.heap s [[(y, .inr (11, [.ref r_all, .ref r_has, .int 0, .int 0, .int 0, .int 0, .int 0, .int 0, .int 0, .int 0, .ref r_read, .int 0, .int 0, .int 0, .ref r_posts, .ref r_shut, .ref r_here, .int 0, .int 0, .int 0, .int 0, .ref r_was, .ref r_came, .ref r_seenAt, .ref r_rowWorth, .ref r_farBy, .ref r_used, .int 0, .int 0, .int 0, .int 0, .int 0, .int 0, .int 0, .int 0, .int 0, .int 0, .int 0, .int 0, .ref r_fitPost, .ref r_fitEnd, .ref r_keptPosts, .int 0]))], [(r_all, .inl (T.2 0, 3952, .inl (upd (fun _ => 0) 6 (-1))))], [(r_read, .inl (T.2 0, 121, .inl (fun _ => 0)))]] _ _ := G
  refine lv_aload_n hx hb dX12_text_10 rfl (lv_at hl 0 rfl) ?_
  refine z_get C G clX12 0 rfl 0 (by decide) m_fl_RX12_7 rfl dX12_text_11 ?_
  refine lv_iconst (v := 4) hx hb dX12_text_14 (by decide) ?_
  refine lv_iconst (v := 0) hx hb dX12_text_15 (by decide) ?_
  refine z_ist C G 1 rfl (vp_in_nI (n := 4) (by decide) (by decide)) dX12_text_16 (fun H locs G => ?_)
  have G : zS T A s.heap s [[(y, .inr (11, [.ref r_all, .ref r_has, .int 0, .int 0, .int 0, .int 0, .int 0, .int 0, .int 0, .int 0, .ref r_read, .int 0, .int 0, .int 0, .ref r_posts, .ref r_shut, .ref r_here, .int 0, .int 0, .int 0, .int 0, .ref r_was, .ref r_came, .ref r_seenAt, .ref r_rowWorth, .ref r_farBy, .ref r_used, .int 0, .int 0, .int 0, .int 0, .int 0, .int 0, .int 0, .int 0, .int 0, .int 0, .int 0, .int 0, .ref r_fitPost, .ref r_fitEnd, .ref r_keptPosts, .int 0]))], [(r_all, .inl (T.2 0, 3952, .inl (upd (upd (fun _ => 0) 6 (-1)) 4 0)))], [(r_read, .inl (T.2 0, 121, .inl (fun _ => 0)))]] _ _ := G
  refine lv_aload_n hx hb dX12_text_17 rfl (lv_at hl 0 rfl) ?_
  refine z_get C G clX12 0 rfl 0 (by decide) m_fl_RX12_7 rfl dX12_text_18 ?_
  refine lv_iconst (v := 5) hx hb dX12_text_21 (by decide) ?_
  refine lv_iconst (v := 0) hx hb dX12_text_22 (by decide) ?_
  refine z_ist C G 1 rfl (vp_in_nI (n := 5) (by decide) (by decide)) dX12_text_23 (fun H locs G => ?_)
  have G : zS T A s.heap s [[(y, .inr (11, [.ref r_all, .ref r_has, .int 0, .int 0, .int 0, .int 0, .int 0, .int 0, .int 0, .int 0, .ref r_read, .int 0, .int 0, .int 0, .ref r_posts, .ref r_shut, .ref r_here, .int 0, .int 0, .int 0, .int 0, .ref r_was, .ref r_came, .ref r_seenAt, .ref r_rowWorth, .ref r_farBy, .ref r_used, .int 0, .int 0, .int 0, .int 0, .int 0, .int 0, .int 0, .int 0, .int 0, .int 0, .int 0, .int 0, .ref r_fitPost, .ref r_fitEnd, .ref r_keptPosts, .int 0]))], [(r_all, .inl (T.2 0, 3952, .inl (upd (upd (upd (fun _ => 0) 6 (-1)) 4 0) 5 0)))], [(r_read, .inl (T.2 0, 121, .inl (fun _ => 0)))]] _ _ := G
  refine lv_aload_n hx hb dX12_text_24 rfl (lv_at hl 0 rfl) ?_
  refine z_get C G clX12 0 rfl 0 (by decide) m_fl_RX12_7 rfl dX12_text_25 ?_
  refine lv_bipush (v := 6) hx hb dX12_text_28 (by decide) ?_
  refine lv_iconst (v := (-1)) hx hb dX12_text_30 (by decide) ?_
  refine z_ist C G 1 rfl (vp_in_nI (n := 6) (by decide) (by decide)) dX12_text_31 (fun H locs G => ?_)
  have G : zS T A s.heap s [[(y, .inr (11, [.ref r_all, .ref r_has, .int 0, .int 0, .int 0, .int 0, .int 0, .int 0, .int 0, .int 0, .ref r_read, .int 0, .int 0, .int 0, .ref r_posts, .ref r_shut, .ref r_here, .int 0, .int 0, .int 0, .int 0, .ref r_was, .ref r_came, .ref r_seenAt, .ref r_rowWorth, .ref r_farBy, .ref r_used, .int 0, .int 0, .int 0, .int 0, .int 0, .int 0, .int 0, .int 0, .int 0, .int 0, .int 0, .int 0, .ref r_fitPost, .ref r_fitEnd, .ref r_keptPosts, .int 0]))], [(r_all, .inl (T.2 0, 3952, .inl (upd (upd (upd (upd (fun _ => 0) 6 (-1)) 4 0) 5 0) 6 (-1))))], [(r_read, .inl (T.2 0, 121, .inl (fun _ => 0)))]] _ _ := G
  refine lv_iload_n hx hb dX12_text_32 rfl (lv_at hl 1 rfl) ?_
  refine lv_iconst (v := 0) hx hb dX12_text_33 (by decide) ?_
  refine lv_iconst (v := 2) hx hb dX12_text_34 (by decide) ?_
  refine z_Si (bc := []) (br := [[(y, .inr (11, [.ref r_all, .ref r_has, .int 0, .int 0, .int 0, .int 0, .int 0, .int 0, .int 0, .int 0, .ref r_read, .int 0, .int 0, .int 0, .ref r_posts, .ref r_shut, .ref r_here, .int 0, .int 0, .int 0, .int 0, .ref r_was, .ref r_came, .ref r_seenAt, .ref r_rowWorth, .ref r_farBy, .ref r_used, .int 0, .int 0, .int 0, .int 0, .int 0, .int 0, .int 0, .int 0, .int 0, .int 0, .int 0, .int 0, .ref r_fitPost, .ref r_fitEnd, .ref r_keptPosts, .int 0]))], [(r_all, .inl (T.2 0, 3952, .inl (upd (upd (upd (upd (fun _ => 0) 6 (-1)) 4 0) 5 0) 6 (-1))))], [(r_read, .inl (T.2 0, 121, .inl (fun _ => 0)))]]) (As := [.int so, .int 0, .int 2]) (rest := []) C G (c_isIn l T so 0 2) (kS_RX12_111 C.2.2.2.2 (Nat.le_of_ble_eq_true rfl) (Nat.le_of_ble_eq_true rfl)) [] [0, 1, 2] rfl rfl rfl rfl hl.1 dX12_text_35 (Nat.le_of_ble_eq_true rfl) (Nat.le_of_ble_eq_true rfl) (fun r_3 b1 H locs hw G => ?_)
  obtain ⟨rfl, hc_2⟩ := hw
  have G : zS T A s.heap s [[(y, .inr (11, [.ref r_all, .ref r_has, .int 0, .int 0, .int 0, .int 0, .int 0, .int 0, .int 0, .int 0, .ref r_read, .int 0, .int 0, .int 0, .ref r_posts, .ref r_shut, .ref r_here, .int 0, .int 0, .int 0, .int 0, .ref r_was, .ref r_came, .ref r_seenAt, .ref r_rowWorth, .ref r_farBy, .ref r_used, .int 0, .int 0, .int 0, .int 0, .int 0, .int 0, .int 0, .int 0, .int 0, .int 0, .int 0, .int 0, .ref r_fitPost, .ref r_fitEnd, .ref r_keptPosts, .int 0]))], [(r_all, .inl (T.2 0, 3952, .inl (upd (upd (upd (upd (fun _ => 0) 6 (-1)) 4 0) 5 0) 6 (-1))))], [(r_read, .inl (T.2 0, 121, .inl (fun _ => 0)))]] _ _ := G
  rcases hc_2 with ⟨rfl, h_4, h_5⟩ | ⟨rfl, h_6⟩
  · have h_4 : (0 : Int) ≤ so.toInt := h_4
    have h_5 : so.toInt ≤ (2 : Int) := h_5
    refine lv_if_eq (tgt := 68) hx hb dX12_text_38 (by decide) (fun q => absurd q (by decide)) (fun _ => ?_)
    rcases z_three (so := so) (by omega) (by omega) with rfl | rfl | rfl
    · refine lv_iload_n hx hb dX12_text_41 rfl (lv_at hl 2 rfl) ?_
      refine lv_iconst (v := (-1)) hx hb dX12_text_42 (by decide) ?_
      refine lv_icmp_ne (tgt := 59) hx hb dX12_text_43 (by decide) (fun c_7 => ?_) (fun c_7 => ?_)
      · have c_7n : ¬ at_.toInt = (-1 : Int) := fun q => c_7 ((fa_eq _ _).mpr q)
        refine lv_aload_n hx hb dX12_text_59 rfl (lv_at hl 0 rfl) ?_
        refine lv_iload_n hx hb dX12_text_60 rfl (lv_at hl 1 rfl) ?_
        refine lv_iload_n hx hb dX12_text_61 rfl (lv_at hl 2 rfl) ?_
        refine z_Vi (bc := [[(y, .inr (11, [.ref r_all, .ref r_has, .int 0, .int 0, .int 0, .int 0, .int 0, .int 0, .int 0, .int 0, .ref r_read, .int 0, .int 0, .int 0, .ref r_posts, .ref r_shut, .ref r_here, .int 0, .int 0, .int 0, .int 0, .ref r_was, .ref r_came, .ref r_seenAt, .ref r_rowWorth, .ref r_farBy, .ref r_used, .int 0, .int 0, .int 0, .int 0, .int 0, .int 0, .int 0, .int 0, .int 0, .int 0, .int 0, .int 0, .ref r_fitPost, .ref r_fitEnd, .ref r_keptPosts, .int 0]))], [(r_all, .inl (T.2 0, 3952, .inl (upd (upd (upd (upd (fun _ => 0) 6 (-1)) 4 0) 5 0) 6 (-1))))]]) (br := [[(r_read, .inl (T.2 0, 121, .inl (fun _ => 0)))]]) (As := [.int 0, .int at_]) (rest := []) C G (c_isOf0 l T y r_all r_has r_read r_posts r_shut r_here r_was r_came r_seenAt r_rowWorth r_farBy r_used r_fitPost r_fitEnd r_keptPosts 0 0 0 0 0 0 0 0 0 0 0 0 0 0 0 0 0 0 0 0 0 0 0 0 0 0 0 0 (upd (upd (upd (upd (fun _ => 0) 6 (-1)) 4 0) 5 0) 6 (-1)) 0 at_ (by first | assumption | omega | rfl) (by first | assumption | omega | rfl)) (kV_RX12_143 C.2.2.2.2 (Nat.le_of_ble_eq_true rfl) (Nat.le_of_ble_eq_true rfl)) [0, 1] [2] rfl rfl (ci := 11) (qc := (RX12, TX12, 43)) rfl rfl (List.mem_flatten.mpr ⟨_, List.mem_of_getElem? (i := 0) rfl, List.mem_cons_self⟩) rfl rfl hl.1 dX12_text_62 (Nat.le_of_ble_eq_true rfl) (Nat.le_of_ble_eq_true rfl) (fun r_9 b1 H locs hw G => ?_)
        obtain ⟨rfl, h_8⟩ := hw
        have G : zS T A s.heap s [[(r_read, .inl (T.2 0, 121, .inl (fun _ => 0)))], [(y, .inr (11, [.ref r_all, .ref r_has, .int 0, .int 0, .int 0, .int 0, .int 0, .int 0, .int 0, .int 0, .ref r_read, .int 0, .int 0, .int 0, .ref r_posts, .ref r_shut, .ref r_here, .int 0, .int 0, .int 0, .int 0, .ref r_was, .ref r_came, .ref r_seenAt, .ref r_rowWorth, .ref r_farBy, .ref r_used, .int 0, .int 0, .int 0, .int 0, .int 0, .int 0, .int 0, .int 0, .int 0, .int 0, .int 0, .int 0, .ref r_fitPost, .ref r_fitEnd, .ref r_keptPosts, .int 0]))], [(r_all, .inl (T.2 0, 3952, .inl (upd (upd (upd (upd (fun _ => 0) 6 (-1)) 4 0) 5 0) 6 (-1))))]] _ _ := G
        subst h_8
        refine lv_if_ne (tgt := 71) hx hb dX12_text_65 (by decide) (fun q => absurd (by decide) q) (fun _ => ?_)
        refine lv_bipush (v := (-2)) hx hb dX12_text_68 (by decide) ?_
        have G := G.sub (bs' := []) [] rfl
        exact z_iret C hr hlocks G (Nat.le_of_ble_eq_true rfl) (Nat.le_of_ble_eq_true rfl) dX12_text_70 ⟨rfl, (by unfold zRes; rw [if_neg (by first | omega | (intro q; exact absurd q.2.2 (by omega)))])⟩
      · have c_7n : at_.toInt = (-1 : Int) := (fa_eq _ _).mp c_7
        refine lv_aload_n hx hb dX12_text_46 rfl (lv_at hl 0 rfl) ?_
        refine z_get C G clX12 0 rfl 0 (by decide) m_fl_RX12_7 rfl dX12_text_47 ?_
        refine lv_iload_n hx hb dX12_text_50 rfl (lv_at hl 1 rfl) ?_
        refine z_ild C G 1 rfl (vp_in_nI (n := 0) (by decide) (by decide)) dX12_text_51 ?_
        refine lv_topi (fun v_10 ev_10 => ?_)
        obtain rfl : v_10 = 0 := ev_10
        refine lv_iconst (v := 2) hx hb dX12_text_52 (by decide) ?_
        refine lv_icmp_lt (tgt := 71) hx hb dX12_text_53 (by decide) (fun _ => ?_) (fun q => absurd (by decide) q)
        refine lv_aload_n hx hb dX12_text_71 rfl (lv_at hl 0 rfl) ?_
        refine lv_iconst (v := 0) hx hb dX12_text_72 (by decide) ?_
        refine z_put C G clX12 0 rfl 3 (by decide) m_fl_RX12_70 rfl rfl rfl (Nat.le_of_ble_eq_true rfl) dX12_text_73 (fun H locs G => ?_)
        have G : zS T A s.heap s [[(y, .inr (11, [.ref r_all, .ref r_has, .int 0, .int 0, .int 0, .int 0, .int 0, .int 0, .int 0, .int 0, .ref r_read, .int 0, .int 0, .int 0, .ref r_posts, .ref r_shut, .ref r_here, .int 0, .int 0, .int 0, .int 0, .ref r_was, .ref r_came, .ref r_seenAt, .ref r_rowWorth, .ref r_farBy, .ref r_used, .int 0, .int 0, .int 0, .int 0, .int 0, .int 0, .int 0, .int 0, .int 0, .int 0, .int 0, .int 0, .ref r_fitPost, .ref r_fitEnd, .ref r_keptPosts, .int 0]))], [(r_all, .inl (T.2 0, 3952, .inl (upd (upd (upd (upd (fun _ => 0) 6 (-1)) 4 0) 5 0) 6 (-1))))], [(r_read, .inl (T.2 0, 121, .inl (fun _ => 0)))]] _ _ := G
        refine lv_aload_n hx hb dX12_text_76 rfl (lv_at hl 0 rfl) ?_
        refine lv_iconst (v := 0) hx hb dX12_text_77 (by decide) ?_
        refine z_put C G clX12 0 rfl 8 (by decide) m_fl_RX12_104 rfl rfl rfl (Nat.le_of_ble_eq_true rfl) dX12_text_78 (fun H locs G => ?_)
        have G : zS T A s.heap s [[(y, .inr (11, [.ref r_all, .ref r_has, .int 0, .int 0, .int 0, .int 0, .int 0, .int 0, .int 0, .int 0, .ref r_read, .int 0, .int 0, .int 0, .ref r_posts, .ref r_shut, .ref r_here, .int 0, .int 0, .int 0, .int 0, .ref r_was, .ref r_came, .ref r_seenAt, .ref r_rowWorth, .ref r_farBy, .ref r_used, .int 0, .int 0, .int 0, .int 0, .int 0, .int 0, .int 0, .int 0, .int 0, .int 0, .int 0, .int 0, .ref r_fitPost, .ref r_fitEnd, .ref r_keptPosts, .int 0]))], [(r_all, .inl (T.2 0, 3952, .inl (upd (upd (upd (upd (fun _ => 0) 6 (-1)) 4 0) 5 0) 6 (-1))))], [(r_read, .inl (T.2 0, 121, .inl (fun _ => 0)))]] _ _ := G
        refine lv_aload_n hx hb dX12_text_81 rfl (lv_at hl 0 rfl) ?_
        refine lv_iconst (v := (-1)) hx hb dX12_text_82 (by decide) ?_
        refine z_put C G clX12 0 rfl 9 (by decide) m_fl_RX12_126 rfl rfl rfl (Nat.le_of_ble_eq_true rfl) dX12_text_83 (fun H locs G => ?_)
        have G : zS T A s.heap s [[(y, .inr (11, [.ref r_all, .ref r_has, .int 0, .int 0, .int 0, .int 0, .int 0, .int 0, .int 0, .int (-1), .ref r_read, .int 0, .int 0, .int 0, .ref r_posts, .ref r_shut, .ref r_here, .int 0, .int 0, .int 0, .int 0, .ref r_was, .ref r_came, .ref r_seenAt, .ref r_rowWorth, .ref r_farBy, .ref r_used, .int 0, .int 0, .int 0, .int 0, .int 0, .int 0, .int 0, .int 0, .int 0, .int 0, .int 0, .int 0, .ref r_fitPost, .ref r_fitEnd, .ref r_keptPosts, .int 0]))], [(r_all, .inl (T.2 0, 3952, .inl (upd (upd (upd (upd (fun _ => 0) 6 (-1)) 4 0) 5 0) 6 (-1))))], [(r_read, .inl (T.2 0, 121, .inl (fun _ => 0)))]] _ _ := G
        refine lv_iconst (v := 0) hx hb dX12_text_86 (by decide) ?_
        refine lv_istore_n (lv' := [(3, .int 0), (0, .ref y), (1, .int 0), (2, .int at_)]) hx hb dX12_text_87 rfl hl (by decide) rfl (fun ls hl => ?_)
        refine z_loop (T := T) (α := Nat × (Nat → Int32)) 88 (fun (i, g) => [[(y, .inr (11, [.ref r_all, .ref r_has, .int 0, .int 0, .int 0, .int 0, .int 0, .int 0, .int 0, .int (-1), .ref r_read, .int 0, .int 0, .int 0, .ref r_posts, .ref r_shut, .ref r_here, .int 0, .int 0, .int 0, .int 0, .ref r_was, .ref r_came, .ref r_seenAt, .ref r_rowWorth, .ref r_farBy, .ref r_used, .int 0, .int 0, .int 0, .int 0, .int 0, .int 0, .int 0, .int 0, .int 0, .int 0, .int 0, .int 0, .ref r_fitPost, .ref r_fitEnd, .ref r_keptPosts, .int 0]))], [(r_all, .inl (T.2 0, 3952, .inl (upd (upd (upd (upd (fun _ => 0) 6 (-1)) 4 0) 5 0) 6 (-1))))], [(r_read, .inl (T.2 0, 121, .inl g))]]) (fun (i, g) => [(3, .int (nI i)), (0, .ref y), (1, .int 0), (2, .int at_)]) (fun (i, g) => i ≤ 121 ∧ (∀ j, j < i → g j = 0)) (fun (i, g) => 121 - i) ?_ (0, (fun _ => 0)) (show 0 ≤ 121 ∧ (∀ j, j < 0 → (fun _ => 0) j = 0) from ⟨by omega, fun j hj => absurd hj (by omega)⟩) G (lv_sub hl [0, 1, 2, 3] rfl)
        rintro ⟨i, g⟩ ⟨hi, hz⟩ ih H locs ls G hl
        have hi : i ≤ 121 := hi
        have hz : (∀ j, j < i → g j = 0) := hz
        have G : zS T A s.heap s [[(y, .inr (11, [.ref r_all, .ref r_has, .int 0, .int 0, .int 0, .int 0, .int 0, .int 0, .int 0, .int (-1), .ref r_read, .int 0, .int 0, .int 0, .ref r_posts, .ref r_shut, .ref r_here, .int 0, .int 0, .int 0, .int 0, .ref r_was, .ref r_came, .ref r_seenAt, .ref r_rowWorth, .ref r_farBy, .ref r_used, .int 0, .int 0, .int 0, .int 0, .int 0, .int 0, .int 0, .int 0, .int 0, .int 0, .int 0, .int 0, .ref r_fitPost, .ref r_fitEnd, .ref r_keptPosts, .int 0]))], [(r_all, .inl (T.2 0, 3952, .inl (upd (upd (upd (upd (fun _ => 0) 6 (-1)) 4 0) 5 0) 6 (-1))))], [(r_read, .inl (T.2 0, 121, .inl g))]] _ _ := G
        have hl : lv_has ls 5 [(3, .int (nI i)), (0, .ref y), (1, .int 0), (2, .int at_)] := hl
        refine lv_iload_n hx hb dX12_text_88 rfl (lv_at hl 0 rfl) ?_
        refine lv_bipush (v := 121) hx hb dX12_text_89 (by decide) ?_
        refine lv_icmp_ge (tgt := 107) hx hb dX12_text_91 (by decide) (fun c_11 => ?_) (fun c_11 => ?_)
        · have c_11n : 121 ≤ i := (nI_leI (a := 121) (b := i) (by omega) (by omega)).mp c_11
          refine lv_aload_n hx hb dX12_text_107 rfl (lv_at hl 1 rfl) ?_
          refine z_Vv (bc := [[(y, .inr (11, [.ref r_all, .ref r_has, .int 0, .int 0, .int 0, .int 0, .int 0, .int 0, .int 0, .int (-1), .ref r_read, .int 0, .int 0, .int 0, .ref r_posts, .ref r_shut, .ref r_here, .int 0, .int 0, .int 0, .int 0, .ref r_was, .ref r_came, .ref r_seenAt, .ref r_rowWorth, .ref r_farBy, .ref r_used, .int 0, .int 0, .int 0, .int 0, .int 0, .int 0, .int 0, .int 0, .int 0, .int 0, .int 0, .int 0, .ref r_fitPost, .ref r_fitEnd, .ref r_keptPosts, .int 0]))]]) (br := [[(r_all, .inl (T.2 0, 3952, .inl (upd (upd (upd (upd (fun _ => 0) 6 (-1)) 4 0) 5 0) 6 (-1))))], [(r_read, .inl (T.2 0, 121, .inl g))]]) (As := []) (rest := []) C G (c_advance0 l T y r_all r_has r_read r_posts r_shut r_here r_was r_came r_seenAt r_rowWorth r_farBy r_used r_fitPost r_fitEnd r_keptPosts 0 0 0 0 0 (-1) 0 0 0 0 0 0 0 0 0 0 0 0 0 0 0 0 0 0 0 0) (kV_RX12_119 C.2.2.2.2 (Nat.le_of_ble_eq_true rfl) (Nat.le_of_ble_eq_true rfl)) [0] [1, 2] rfl rfl (ci := 11) (qc := (RX12, TX12, 43)) rfl rfl (List.mem_flatten.mpr ⟨_, List.mem_of_getElem? (i := 0) rfl, List.mem_cons_self⟩) rfl rfl hl.1 dX12_text_108 (Nat.le_of_ble_eq_true rfl) (Nat.le_of_ble_eq_true rfl) (fun b1 H locs hw G => ?_)
          obtain rfl := hw
          have G : zS T A s.heap s [[(r_all, .inl (T.2 0, 3952, .inl (upd (upd (upd (upd (fun _ => 0) 6 (-1)) 4 0) 5 0) 6 (-1))))], [(r_read, .inl (T.2 0, 121, .inl g))], [(y, .inr (11, [.ref r_all, .ref r_has, .int 0, .int 0, .int 0, .int 0, .int 0, .int 0, .int 0, .int (-1), .ref r_read, .int 0, .int 0, .int 0, .ref r_posts, .ref r_shut, .ref r_here, .int 0, .int 0, .int 0, .int 0, .ref r_was, .ref r_came, .ref r_seenAt, .ref r_rowWorth, .ref r_farBy, .ref r_used, .int 0, .int 0, .int 0, .int 0, .int 0, .int 0, .int 0, .int 0, .int 0, .int 0, .int 0, .int 0, .ref r_fitPost, .ref r_fitEnd, .ref r_keptPosts, .int 0]))]] _ _ := G
          refine lv_aload_n hx hb dX12_text_111 rfl (lv_at hl 1 rfl) ?_
          refine z_get C G clX12 2 rfl 8 (by decide) m_fl_RX12_104 rfl dX12_text_112 ?_
          refine lv_if_ne (tgt := 173) hx hb dX12_text_115 (by decide) (fun q => absurd (by decide) q) (fun _ => ?_)
          refine lv_aload_n hx hb dX12_text_118 rfl (lv_at hl 1 rfl) ?_
          refine z_get C G clX12 2 rfl 5 (by decide) m_fl_RX12_80 rfl dX12_text_119 ?_
          refine lv_if_eq (tgt := 173) hx hb dX12_text_122 (by decide) (fun _ => ?_) (fun q => absurd (by decide) q)
          refine lv_iload_n hx hb dX12_text_173 rfl (lv_at hl 2 rfl) ?_
          refine lv_if_ne (tgt := 208) hx hb dX12_text_174 (by decide) (fun q => absurd (by decide) q) (fun _ => ?_)
          refine lv_aload_n hx hb dX12_text_177 rfl (lv_at hl 1 rfl) ?_
          refine z_get C G clX12 2 rfl 0 (by decide) m_fl_RX12_7 rfl dX12_text_178 ?_
          refine lv_iconst (v := 5) hx hb dX12_text_181 (by decide) ?_
          refine z_ild C G 0 rfl (vp_in_nI (n := 5) (by decide) (by decide)) dX12_text_182 ?_
          refine lv_topi (fun v_13 ev_13 => ?_)
          obtain rfl : v_13 = 0 := ev_13
          refine lv_if_ne (tgt := 208) hx hb dX12_text_183 (by decide) (fun q => absurd (by decide) q) (fun _ => ?_)
          refine lv_aload_n hx hb dX12_text_186 rfl (lv_at hl 1 rfl) ?_
          refine z_get C G clX12 2 rfl 9 (by decide) m_fl_RX12_126 rfl dX12_text_187 ?_
          refine lv_aload_n hx hb dX12_text_190 rfl (lv_at hl 1 rfl) ?_
          refine z_get C G clX12 2 rfl 10 (by decide) m_fl_RX12_17 rfl dX12_text_191 ?_
          refine lv_iconst (v := 0) hx hb dX12_text_194 (by decide) ?_
          refine z_ild C G 1 rfl (vp_in_nI (n := 0) (by decide) (by decide)) dX12_text_195 ?_
          refine lv_topi (fun v_14 ev_14 => ?_)
          rw [show ((0 : Int32).toNatClampNeg) = 0 from rfl] at ev_14
          subst ev_14
          rw [hz 0 (by omega)]
          refine lv_icmp_lt (tgt := 208) hx hb dX12_text_196 (by decide) (fun _ => ?_) (fun q => absurd (by decide) q)
          refine lv_iload_n hx hb dX12_text_208 rfl (lv_at hl 2 rfl) ?_
          refine lv_if_ne (tgt := 237) hx hb dX12_text_209 (by decide) (fun q => absurd (by decide) q) (fun _ => ?_)
          refine lv_aload_n hx hb dX12_text_212 rfl (lv_at hl 1 rfl) ?_
          refine z_get C G clX12 2 rfl 0 (by decide) m_fl_RX12_7 rfl dX12_text_213 ?_
          refine lv_iconst (v := 5) hx hb dX12_text_216 (by decide) ?_
          refine z_ild C G 0 rfl (vp_in_nI (n := 5) (by decide) (by decide)) dX12_text_217 ?_
          refine lv_topi (fun v_15 ev_15 => ?_)
          obtain rfl : v_15 = 0 := ev_15
          refine lv_if_ne (tgt := 237) hx hb dX12_text_218 (by decide) (fun q => absurd (by decide) q) (fun _ => ?_)
          refine lv_aload_n hx hb dX12_text_221 rfl (lv_at hl 1 rfl) ?_
          refine z_Vi (bc := [[(y, .inr (11, [.ref r_all, .ref r_has, .int 0, .int 0, .int 0, .int 0, .int 0, .int 0, .int 0, .int (-1), .ref r_read, .int 0, .int 0, .int 0, .ref r_posts, .ref r_shut, .ref r_here, .int 0, .int 0, .int 0, .int 0, .ref r_was, .ref r_came, .ref r_seenAt, .ref r_rowWorth, .ref r_farBy, .ref r_used, .int 0, .int 0, .int 0, .int 0, .int 0, .int 0, .int 0, .int 0, .int 0, .int 0, .int 0, .int 0, .ref r_fitPost, .ref r_fitEnd, .ref r_keptPosts, .int 0]))], [(r_read, .inl (T.2 0, 121, .inl g))]]) (br := [[(r_all, .inl (T.2 0, 3952, .inl (upd (upd (upd (upd (fun _ => 0) 6 (-1)) 4 0) 5 0) 6 (-1))))]]) (As := []) (rest := []) C G (c_postsAreThere0 l T y r_all r_has r_read r_posts r_shut r_here r_was r_came r_seenAt r_rowWorth r_farBy r_used r_fitPost r_fitEnd r_keptPosts 0 0 0 0 0 0 0 (-1) 0 0 0 0 0 0 0 0 0 0 0 0 0 0 0 0 0 0 0 0 g (fun j hj => hz j (by omega))) (kV_RX12_156 C.2.2.2.2 (Nat.le_of_ble_eq_true rfl) (Nat.le_of_ble_eq_true rfl)) [2, 1] [0] rfl rfl (ci := 11) (qc := (RX12, TX12, 43)) rfl rfl (List.mem_flatten.mpr ⟨_, List.mem_of_getElem? (i := 0) rfl, List.mem_cons_self⟩) rfl rfl hl.1 dX12_text_222 (Nat.le_of_ble_eq_true rfl) (Nat.le_of_ble_eq_true rfl) (fun r_17 b1 H locs hw G => ?_)
          obtain ⟨rfl, h_16⟩ := hw
          have G : zS T A s.heap s [[(r_all, .inl (T.2 0, 3952, .inl (upd (upd (upd (upd (fun _ => 0) 6 (-1)) 4 0) 5 0) 6 (-1))))], [(y, .inr (11, [.ref r_all, .ref r_has, .int 0, .int 0, .int 0, .int 0, .int 0, .int 0, .int 0, .int (-1), .ref r_read, .int 0, .int 0, .int 0, .ref r_posts, .ref r_shut, .ref r_here, .int 0, .int 0, .int 0, .int 0, .ref r_was, .ref r_came, .ref r_seenAt, .ref r_rowWorth, .ref r_farBy, .ref r_used, .int 0, .int 0, .int 0, .int 0, .int 0, .int 0, .int 0, .int 0, .int 0, .int 0, .int 0, .int 0, .ref r_fitPost, .ref r_fitEnd, .ref r_keptPosts, .int 0]))], [(r_read, .inl (T.2 0, 121, .inl g))]] _ _ := G
          subst h_16
          refine lv_if_ne (tgt := 237) hx hb dX12_text_225 (by decide) (fun _ => ?_) (fun q => absurd q (by decide))
          refine lv_aload_n hx hb dX12_text_237 rfl (lv_at hl 1 rfl) ?_
          refine z_get C G clX12 1 rfl 0 (by decide) m_fl_RX12_7 rfl dX12_text_238 ?_
          refine lv_iconst (v := 5) hx hb dX12_text_241 (by decide) ?_
          refine z_ild C G 0 rfl (vp_in_nI (n := 5) (by decide) (by decide)) dX12_text_242 ?_
          refine lv_topi (fun v_18 ev_18 => ?_)
          obtain rfl : v_18 = 0 := ev_18
          refine lv_if_eq (tgt := 248) hx hb dX12_text_243 (by decide) (fun _ => ?_) (fun q => absurd (by decide) q)
          refine lv_iload_n hx hb dX12_text_248 rfl (lv_at hl 3 rfl) ?_
          refine lv_iconst (v := (-1)) hx hb dX12_text_249 (by decide) ?_
          refine lv_icmp_ne (tgt := 262) hx hb dX12_text_250 (by decide) (fun q => absurd ((fa_eq at_ ((-1) : Int32)).mpr (by show at_.toInt = (-1 : Int); omega)) q) (fun _ => ?_)
          refine lv_aload_n hx hb dX12_text_253 rfl (lv_at hl 1 rfl) ?_
          refine z_get C G clX12 1 rfl 0 (by decide) m_fl_RX12_7 rfl dX12_text_254 ?_
          refine lv_iload_n hx hb dX12_text_257 rfl (lv_at hl 2 rfl) ?_
          refine z_ild C G 0 rfl (vp_in_nI (n := 0) (by decide) (by decide)) dX12_text_258 ?_
          refine lv_topi (fun v_19 ev_19 => ?_)
          obtain rfl : v_19 = 0 := ev_19
          refine lv_goto (tgt := 263) hx hb dX12_text_259 (by decide) ?_
          refine lv_istore_n (lv' := [(3, .int 0), (0, .ref y), (1, .int 0), (2, .int at_)]) hx hb dX12_text_263 rfl hl (by decide) rfl (fun ls hl => ?_)
          refine lv_iload_n hx hb dX12_text_264 rfl (lv_at hl 3 rfl) ?_
          refine lv_iconst (v := (-1)) hx hb dX12_text_265 (by decide) ?_
          refine lv_icmp_ne (tgt := 279) hx hb dX12_text_266 (by decide) (fun q => absurd ((fa_eq at_ ((-1) : Int32)).mpr (by show at_.toInt = (-1 : Int); omega)) q) (fun _ => ?_)
          refine lv_aload_n hx hb dX12_text_269 rfl (lv_at hl 1 rfl) ?_
          refine z_get C G clX12 1 rfl 0 (by decide) m_fl_RX12_7 rfl dX12_text_270 ?_
          refine lv_iload_n hx hb dX12_text_273 rfl (lv_at hl 2 rfl) ?_
          refine lv_dup2_11 hx hb dX12_text_274 rfl rfl ?_
          refine z_ild C G 0 rfl (vp_in_nI (n := 0) (by decide) (by decide)) dX12_text_275 ?_
          refine lv_topi (fun v_20 ev_20 => ?_)
          obtain rfl : v_20 = 0 := ev_20
          refine lv_iconst (v := 1) hx hb dX12_text_276 (by decide) ?_
          refine lv_iadd hx hb dX12_text_277 ?_
          refine lv_topi (fun y_21 ey_21 => ?_)
          obtain rfl : y_21 = 1 := ey_21.trans (by decide)
          refine z_ist C G 0 rfl (vp_in_nI (n := 0) (by decide) (by decide)) dX12_text_278 (fun H locs G => ?_)
          have G : zS T A s.heap s [[(r_all, .inl (T.2 0, 3952, .inl (upd (upd (upd (upd (upd (fun _ => 0) 6 (-1)) 4 0) 5 0) 6 (-1)) 0 1)))], [(y, .inr (11, [.ref r_all, .ref r_has, .int 0, .int 0, .int 0, .int 0, .int 0, .int 0, .int 0, .int (-1), .ref r_read, .int 0, .int 0, .int 0, .ref r_posts, .ref r_shut, .ref r_here, .int 0, .int 0, .int 0, .int 0, .ref r_was, .ref r_came, .ref r_seenAt, .ref r_rowWorth, .ref r_farBy, .ref r_used, .int 0, .int 0, .int 0, .int 0, .int 0, .int 0, .int 0, .int 0, .int 0, .int 0, .int 0, .int 0, .ref r_fitPost, .ref r_fitEnd, .ref r_keptPosts, .int 0]))], [(r_read, .inl (T.2 0, 121, .inl g))]] _ _ := G
          refine lv_iconst (v := 0) hx hb dX12_text_279 (by decide) ?_
          refine lv_istore (lv' := [(4, .int 0), (3, .int 0), (0, .ref y), (1, .int 0), (2, .int at_)]) hx hb dX12_text_280 hl (by decide) rfl (fun ls hl => ?_)
          refine z_loop (T := T) (α := Nat × (Nat → Int32)) 282 (fun (j, k) => [[(r_all, .inl (T.2 0, 3952, .inl k))], [(y, .inr (11, [.ref r_all, .ref r_has, .int 0, .int 0, .int 0, .int 0, .int 0, .int 0, .int 0, .int (-1), .ref r_read, .int 0, .int 0, .int 0, .ref r_posts, .ref r_shut, .ref r_here, .int 0, .int 0, .int 0, .int 0, .ref r_was, .ref r_came, .ref r_seenAt, .ref r_rowWorth, .ref r_farBy, .ref r_used, .int 0, .int 0, .int 0, .int 0, .int 0, .int 0, .int 0, .int 0, .int 0, .int 0, .int 0, .int 0, .ref r_fitPost, .ref r_fitEnd, .ref r_keptPosts, .int 0]))], [(r_read, .inl (T.2 0, 121, .inl g))]]) (fun (j, k) => [(4, .int (nI j)), (3, .int 0), (0, .ref y), (1, .int 0), (2, .int at_)]) (fun (j, k) => j ≤ 51) (fun (j, k) => 51 - j) ?_ (0, (upd (upd (upd (upd (upd (fun _ => 0) 6 (-1)) 4 0) 5 0) 6 (-1)) 0 1)) (show 0 ≤ 51 from by omega) G (lv_sub hl [0, 1, 2, 3, 4] rfl)
          rintro ⟨j, k⟩ hj ih H locs ls G hl
          have hj : j ≤ 51 := hj
          have G : zS T A s.heap s [[(r_all, .inl (T.2 0, 3952, .inl k))], [(y, .inr (11, [.ref r_all, .ref r_has, .int 0, .int 0, .int 0, .int 0, .int 0, .int 0, .int 0, .int (-1), .ref r_read, .int 0, .int 0, .int 0, .ref r_posts, .ref r_shut, .ref r_here, .int 0, .int 0, .int 0, .int 0, .ref r_was, .ref r_came, .ref r_seenAt, .ref r_rowWorth, .ref r_farBy, .ref r_used, .int 0, .int 0, .int 0, .int 0, .int 0, .int 0, .int 0, .int 0, .int 0, .int 0, .int 0, .int 0, .ref r_fitPost, .ref r_fitEnd, .ref r_keptPosts, .int 0]))], [(r_read, .inl (T.2 0, 121, .inl g))]] _ _ := G
          have hl : lv_has ls 5 [(4, .int (nI j)), (3, .int 0), (0, .ref y), (1, .int 0), (2, .int at_)] := hl
          refine lv_iload hx hb dX12_text_282 (lv_at hl 0 rfl) ?_
          refine lv_iload_n hx hb dX12_text_284 rfl (lv_at hl 3 rfl) ?_
          refine z_Si (bc := []) (br := [[(r_all, .inl (T.2 0, 3952, .inl k))], [(y, .inr (11, [.ref r_all, .ref r_has, .int 0, .int 0, .int 0, .int 0, .int 0, .int 0, .int 0, .int (-1), .ref r_read, .int 0, .int 0, .int 0, .ref r_posts, .ref r_shut, .ref r_here, .int 0, .int 0, .int 0, .int 0, .ref r_was, .ref r_came, .ref r_seenAt, .ref r_rowWorth, .ref r_farBy, .ref r_used, .int 0, .int 0, .int 0, .int 0, .int 0, .int 0, .int 0, .int 0, .int 0, .int 0, .int 0, .int 0, .ref r_fitPost, .ref r_fitEnd, .ref r_keptPosts, .int 0]))], [(r_read, .inl (T.2 0, 121, .inl g))]]) (As := [.int 0]) (rest := [.int (nI j)]) C G (c_sizeOf_0 l T) (kS_RX12_160 C.2.2.2.2 (Nat.le_of_ble_eq_true rfl) (Nat.le_of_ble_eq_true rfl)) [] [0, 1, 2] rfl rfl rfl rfl hl.1 dX12_text_285 (Nat.le_of_ble_eq_true rfl) (Nat.le_of_ble_eq_true rfl) (fun r_23 b1 H locs hw G => ?_)
          obtain ⟨rfl, h_22⟩ := hw
          have G : zS T A s.heap s [[(r_all, .inl (T.2 0, 3952, .inl k))], [(y, .inr (11, [.ref r_all, .ref r_has, .int 0, .int 0, .int 0, .int 0, .int 0, .int 0, .int 0, .int (-1), .ref r_read, .int 0, .int 0, .int 0, .ref r_posts, .ref r_shut, .ref r_here, .int 0, .int 0, .int 0, .int 0, .ref r_was, .ref r_came, .ref r_seenAt, .ref r_rowWorth, .ref r_farBy, .ref r_used, .int 0, .int 0, .int 0, .int 0, .int 0, .int 0, .int 0, .int 0, .int 0, .int 0, .int 0, .int 0, .ref r_fitPost, .ref r_fitEnd, .ref r_keptPosts, .int 0]))], [(r_read, .inl (T.2 0, 121, .inl g))]] _ _ := G
          subst h_22
          refine lv_icmp_ge (tgt := 317) hx hb dX12_text_288 (by decide) (fun c_24 => ?_) (fun c_24 => ?_)
          · have c_24n : 51 ≤ j := (nI_leI (a := 51) (b := j) (by omega) (by omega)).mp c_24
            refine lv_iload_n hx hb dX12_text_317 rfl (lv_at hl 1 rfl) ?_
            have G := G.sub (bs' := []) [] rfl
            exact z_iret C hr hlocks G (Nat.le_of_ble_eq_true rfl) (Nat.le_of_ble_eq_true rfl) dX12_text_318 ⟨rfl, (by unfold zRes; rw [if_pos ⟨by decide, by decide, by omega⟩])⟩
          · have c_24n : ¬ 51 ≤ j := fun q => c_24 ((nI_leI (a := 51) (b := j) (by omega) (by omega)).mpr q)
            refine lv_aload_n hx hb dX12_text_291 rfl (lv_at hl 2 rfl) ?_
            refine z_get C G clX12 1 rfl 0 (by decide) m_fl_RX12_7 rfl dX12_text_292 ?_
            refine lv_iload_n hx hb dX12_text_295 rfl (lv_at hl 3 rfl) ?_
            refine lv_iload_n hx hb dX12_text_296 rfl (lv_at hl 1 rfl) ?_
            refine z_Si (bc := []) (br := [[(r_all, .inl (T.2 0, 3952, .inl k))], [(y, .inr (11, [.ref r_all, .ref r_has, .int 0, .int 0, .int 0, .int 0, .int 0, .int 0, .int 0, .int (-1), .ref r_read, .int 0, .int 0, .int 0, .ref r_posts, .ref r_shut, .ref r_here, .int 0, .int 0, .int 0, .int 0, .ref r_was, .ref r_came, .ref r_seenAt, .ref r_rowWorth, .ref r_farBy, .ref r_used, .int 0, .int 0, .int 0, .int 0, .int 0, .int 0, .int 0, .int 0, .int 0, .int 0, .int 0, .int 0, .ref r_fitPost, .ref r_fitEnd, .ref r_keptPosts, .int 0]))], [(r_read, .inl (T.2 0, 121, .inl g))]]) (As := [.int 0, .int 0]) (rest := [.ref r_all]) C G (c_placeOf_0 l T) (kS_RX12_163 C.2.2.2.2 (Nat.le_of_ble_eq_true rfl) (Nat.le_of_ble_eq_true rfl)) [] [0, 1, 2] rfl rfl rfl rfl hl.1 dX12_text_297 (Nat.le_of_ble_eq_true rfl) (Nat.le_of_ble_eq_true rfl) (fun r_26 b1 H locs hw G => ?_)
            obtain ⟨rfl, h_25⟩ := hw
            have G : zS T A s.heap s [[(r_all, .inl (T.2 0, 3952, .inl k))], [(y, .inr (11, [.ref r_all, .ref r_has, .int 0, .int 0, .int 0, .int 0, .int 0, .int 0, .int 0, .int (-1), .ref r_read, .int 0, .int 0, .int 0, .ref r_posts, .ref r_shut, .ref r_here, .int 0, .int 0, .int 0, .int 0, .ref r_was, .ref r_came, .ref r_seenAt, .ref r_rowWorth, .ref r_farBy, .ref r_used, .int 0, .int 0, .int 0, .int 0, .int 0, .int 0, .int 0, .int 0, .int 0, .int 0, .int 0, .int 0, .ref r_fitPost, .ref r_fitEnd, .ref r_keptPosts, .int 0]))], [(r_read, .inl (T.2 0, 121, .inl g))]] _ _ := G
            subst h_25
            refine lv_iload hx hb dX12_text_300 (lv_at hl 0 rfl) ?_
            refine lv_iadd hx hb dX12_text_302 ?_
            refine lv_topi (fun y_27 ey_27 => ?_)
            obtain rfl : y_27 = nI (610 + j) := ey_27.trans (z_iaddn 610 j rfl rfl)
            refine lv_aload_n hx hb dX12_text_303 rfl (lv_at hl 2 rfl) ?_
            refine z_get C G clX12 1 rfl 10 (by decide) m_fl_RX12_17 rfl dX12_text_304 ?_
            refine lv_iload hx hb dX12_text_307 (lv_at hl 0 rfl) ?_
            refine z_ild C G 2 rfl (vp_in_nI (by omega) (by omega)) dX12_text_309 ?_
            refine lv_topi (fun v_28 ev_28 => ?_)
            rw [nI_clamp (by omega)] at ev_28
            subst ev_28
            refine z_ist C G 0 rfl (vp_in_nI (by omega) (by omega)) dX12_text_310 (fun H locs G => ?_)
            rw [nI_clamp (by omega)] at G
            have G : zS T A s.heap s [[(r_all, .inl (T.2 0, 3952, .inl (upd k (610 + j) (g j))))], [(y, .inr (11, [.ref r_all, .ref r_has, .int 0, .int 0, .int 0, .int 0, .int 0, .int 0, .int 0, .int (-1), .ref r_read, .int 0, .int 0, .int 0, .ref r_posts, .ref r_shut, .ref r_here, .int 0, .int 0, .int 0, .int 0, .ref r_was, .ref r_came, .ref r_seenAt, .ref r_rowWorth, .ref r_farBy, .ref r_used, .int 0, .int 0, .int 0, .int 0, .int 0, .int 0, .int 0, .int 0, .int 0, .int 0, .int 0, .int 0, .ref r_fitPost, .ref r_fitEnd, .ref r_keptPosts, .int 0]))], [(r_read, .inl (T.2 0, 121, .inl g))]] _ _ := G
            refine lv_iinc (v := nI (j + 1)) (lv' := [(4, .int (nI (j + 1))), (3, .int 0), (0, .ref y), (1, .int 0), (2, .int at_)]) hx hb dX12_text_311 hl (k := 0) rfl (z_inc j 1) (by decide) rfl (fun ls hl => ?_)
            refine lv_goto (tgt := 282) hx hb dX12_text_314 (by decide) ?_
            exact ih ((j + 1), (upd k (610 + j) (g j))) (show (j + 1) ≤ 51 from by omega) (show 51 - (j + 1) < 51 - j from by omega) _ _ ls G (lv_sub hl [0, 1, 2, 3, 4] rfl)
        · have c_11n : ¬ 121 ≤ i := fun q => c_11 ((nI_leI (a := 121) (b := i) (by omega) (by omega)).mpr q)
          refine lv_aload_n hx hb dX12_text_94 rfl (lv_at hl 1 rfl) ?_
          refine z_get C G clX12 0 rfl 10 (by decide) m_fl_RX12_17 rfl dX12_text_95 ?_
          refine lv_iload_n hx hb dX12_text_98 rfl (lv_at hl 0 rfl) ?_
          refine lv_iconst (v := 0) hx hb dX12_text_99 (by decide) ?_
          refine z_ist C G 2 rfl (vp_in_nI (by omega) (by omega)) dX12_text_100 (fun H locs G => ?_)
          rw [nI_clamp (by omega)] at G
          have G : zS T A s.heap s [[(y, .inr (11, [.ref r_all, .ref r_has, .int 0, .int 0, .int 0, .int 0, .int 0, .int 0, .int 0, .int (-1), .ref r_read, .int 0, .int 0, .int 0, .ref r_posts, .ref r_shut, .ref r_here, .int 0, .int 0, .int 0, .int 0, .ref r_was, .ref r_came, .ref r_seenAt, .ref r_rowWorth, .ref r_farBy, .ref r_used, .int 0, .int 0, .int 0, .int 0, .int 0, .int 0, .int 0, .int 0, .int 0, .int 0, .int 0, .int 0, .ref r_fitPost, .ref r_fitEnd, .ref r_keptPosts, .int 0]))], [(r_all, .inl (T.2 0, 3952, .inl (upd (upd (upd (upd (fun _ => 0) 6 (-1)) 4 0) 5 0) 6 (-1))))], [(r_read, .inl (T.2 0, 121, .inl (upd g i 0)))]] _ _ := G
          refine lv_iinc (v := nI (i + 1)) (lv' := [(3, .int (nI (i + 1))), (0, .ref y), (1, .int 0), (2, .int at_)]) hx hb dX12_text_101 hl (k := 0) rfl (z_inc i 1) (by decide) rfl (fun ls hl => ?_)
          refine lv_goto (tgt := 88) hx hb dX12_text_104 (by decide) ?_
          exact ih ((i + 1), (upd g i 0)) (show (i + 1) ≤ 121 ∧ (∀ j, j < (i + 1) → (upd g i 0) j = 0) from ⟨by omega, z_upd0 hz⟩) (show 121 - (i + 1) < 121 - i from by omega) _ _ ls G (lv_sub hl [0, 1, 2, 3] rfl)
    · refine lv_iload_n hx hb dX12_text_41 rfl (lv_at hl 2 rfl) ?_
      refine lv_iconst (v := (-1)) hx hb dX12_text_42 (by decide) ?_
      refine lv_icmp_ne (tgt := 59) hx hb dX12_text_43 (by decide) (fun c_29 => ?_) (fun c_29 => ?_)
      · have c_29n : ¬ at_.toInt = (-1 : Int) := fun q => c_29 ((fa_eq _ _).mpr q)
        refine lv_aload_n hx hb dX12_text_59 rfl (lv_at hl 0 rfl) ?_
        refine lv_iload_n hx hb dX12_text_60 rfl (lv_at hl 1 rfl) ?_
        refine lv_iload_n hx hb dX12_text_61 rfl (lv_at hl 2 rfl) ?_
        refine z_Vi (bc := [[(y, .inr (11, [.ref r_all, .ref r_has, .int 0, .int 0, .int 0, .int 0, .int 0, .int 0, .int 0, .int 0, .ref r_read, .int 0, .int 0, .int 0, .ref r_posts, .ref r_shut, .ref r_here, .int 0, .int 0, .int 0, .int 0, .ref r_was, .ref r_came, .ref r_seenAt, .ref r_rowWorth, .ref r_farBy, .ref r_used, .int 0, .int 0, .int 0, .int 0, .int 0, .int 0, .int 0, .int 0, .int 0, .int 0, .int 0, .int 0, .ref r_fitPost, .ref r_fitEnd, .ref r_keptPosts, .int 0]))], [(r_all, .inl (T.2 0, 3952, .inl (upd (upd (upd (upd (fun _ => 0) 6 (-1)) 4 0) 5 0) 6 (-1))))]]) (br := [[(r_read, .inl (T.2 0, 121, .inl (fun _ => 0)))]]) (As := [.int 1, .int at_]) (rest := []) C G (c_isOf0 l T y r_all r_has r_read r_posts r_shut r_here r_was r_came r_seenAt r_rowWorth r_farBy r_used r_fitPost r_fitEnd r_keptPosts 0 0 0 0 0 0 0 0 0 0 0 0 0 0 0 0 0 0 0 0 0 0 0 0 0 0 0 0 (upd (upd (upd (upd (fun _ => 0) 6 (-1)) 4 0) 5 0) 6 (-1)) 1 at_ (by first | assumption | omega | rfl) (by first | assumption | omega | rfl)) (kV_RX12_143 C.2.2.2.2 (Nat.le_of_ble_eq_true rfl) (Nat.le_of_ble_eq_true rfl)) [0, 1] [2] rfl rfl (ci := 11) (qc := (RX12, TX12, 43)) rfl rfl (List.mem_flatten.mpr ⟨_, List.mem_of_getElem? (i := 0) rfl, List.mem_cons_self⟩) rfl rfl hl.1 dX12_text_62 (Nat.le_of_ble_eq_true rfl) (Nat.le_of_ble_eq_true rfl) (fun r_31 b1 H locs hw G => ?_)
        obtain ⟨rfl, h_30⟩ := hw
        have G : zS T A s.heap s [[(r_read, .inl (T.2 0, 121, .inl (fun _ => 0)))], [(y, .inr (11, [.ref r_all, .ref r_has, .int 0, .int 0, .int 0, .int 0, .int 0, .int 0, .int 0, .int 0, .ref r_read, .int 0, .int 0, .int 0, .ref r_posts, .ref r_shut, .ref r_here, .int 0, .int 0, .int 0, .int 0, .ref r_was, .ref r_came, .ref r_seenAt, .ref r_rowWorth, .ref r_farBy, .ref r_used, .int 0, .int 0, .int 0, .int 0, .int 0, .int 0, .int 0, .int 0, .int 0, .int 0, .int 0, .int 0, .ref r_fitPost, .ref r_fitEnd, .ref r_keptPosts, .int 0]))], [(r_all, .inl (T.2 0, 3952, .inl (upd (upd (upd (upd (fun _ => 0) 6 (-1)) 4 0) 5 0) 6 (-1))))]] _ _ := G
        subst h_30
        refine lv_if_ne (tgt := 71) hx hb dX12_text_65 (by decide) (fun q => absurd (by decide) q) (fun _ => ?_)
        refine lv_bipush (v := (-2)) hx hb dX12_text_68 (by decide) ?_
        have G := G.sub (bs' := []) [] rfl
        exact z_iret C hr hlocks G (Nat.le_of_ble_eq_true rfl) (Nat.le_of_ble_eq_true rfl) dX12_text_70 ⟨rfl, (by unfold zRes; rw [if_neg (by first | omega | (intro q; exact absurd q.2.2 (by omega)))])⟩
      · have c_29n : at_.toInt = (-1 : Int) := (fa_eq _ _).mp c_29
        refine lv_aload_n hx hb dX12_text_46 rfl (lv_at hl 0 rfl) ?_
        refine z_get C G clX12 0 rfl 0 (by decide) m_fl_RX12_7 rfl dX12_text_47 ?_
        refine lv_iload_n hx hb dX12_text_50 rfl (lv_at hl 1 rfl) ?_
        refine z_ild C G 1 rfl (vp_in_nI (n := 1) (by decide) (by decide)) dX12_text_51 ?_
        refine lv_topi (fun v_32 ev_32 => ?_)
        obtain rfl : v_32 = 0 := ev_32
        refine lv_iconst (v := 2) hx hb dX12_text_52 (by decide) ?_
        refine lv_icmp_lt (tgt := 71) hx hb dX12_text_53 (by decide) (fun _ => ?_) (fun q => absurd (by decide) q)
        refine lv_aload_n hx hb dX12_text_71 rfl (lv_at hl 0 rfl) ?_
        refine lv_iconst (v := 0) hx hb dX12_text_72 (by decide) ?_
        refine z_put C G clX12 0 rfl 3 (by decide) m_fl_RX12_70 rfl rfl rfl (Nat.le_of_ble_eq_true rfl) dX12_text_73 (fun H locs G => ?_)
        have G : zS T A s.heap s [[(y, .inr (11, [.ref r_all, .ref r_has, .int 0, .int 0, .int 0, .int 0, .int 0, .int 0, .int 0, .int 0, .ref r_read, .int 0, .int 0, .int 0, .ref r_posts, .ref r_shut, .ref r_here, .int 0, .int 0, .int 0, .int 0, .ref r_was, .ref r_came, .ref r_seenAt, .ref r_rowWorth, .ref r_farBy, .ref r_used, .int 0, .int 0, .int 0, .int 0, .int 0, .int 0, .int 0, .int 0, .int 0, .int 0, .int 0, .int 0, .ref r_fitPost, .ref r_fitEnd, .ref r_keptPosts, .int 0]))], [(r_all, .inl (T.2 0, 3952, .inl (upd (upd (upd (upd (fun _ => 0) 6 (-1)) 4 0) 5 0) 6 (-1))))], [(r_read, .inl (T.2 0, 121, .inl (fun _ => 0)))]] _ _ := G
        refine lv_aload_n hx hb dX12_text_76 rfl (lv_at hl 0 rfl) ?_
        refine lv_iconst (v := 0) hx hb dX12_text_77 (by decide) ?_
        refine z_put C G clX12 0 rfl 8 (by decide) m_fl_RX12_104 rfl rfl rfl (Nat.le_of_ble_eq_true rfl) dX12_text_78 (fun H locs G => ?_)
        have G : zS T A s.heap s [[(y, .inr (11, [.ref r_all, .ref r_has, .int 0, .int 0, .int 0, .int 0, .int 0, .int 0, .int 0, .int 0, .ref r_read, .int 0, .int 0, .int 0, .ref r_posts, .ref r_shut, .ref r_here, .int 0, .int 0, .int 0, .int 0, .ref r_was, .ref r_came, .ref r_seenAt, .ref r_rowWorth, .ref r_farBy, .ref r_used, .int 0, .int 0, .int 0, .int 0, .int 0, .int 0, .int 0, .int 0, .int 0, .int 0, .int 0, .int 0, .ref r_fitPost, .ref r_fitEnd, .ref r_keptPosts, .int 0]))], [(r_all, .inl (T.2 0, 3952, .inl (upd (upd (upd (upd (fun _ => 0) 6 (-1)) 4 0) 5 0) 6 (-1))))], [(r_read, .inl (T.2 0, 121, .inl (fun _ => 0)))]] _ _ := G
        refine lv_aload_n hx hb dX12_text_81 rfl (lv_at hl 0 rfl) ?_
        refine lv_iconst (v := (-1)) hx hb dX12_text_82 (by decide) ?_
        refine z_put C G clX12 0 rfl 9 (by decide) m_fl_RX12_126 rfl rfl rfl (Nat.le_of_ble_eq_true rfl) dX12_text_83 (fun H locs G => ?_)
        have G : zS T A s.heap s [[(y, .inr (11, [.ref r_all, .ref r_has, .int 0, .int 0, .int 0, .int 0, .int 0, .int 0, .int 0, .int (-1), .ref r_read, .int 0, .int 0, .int 0, .ref r_posts, .ref r_shut, .ref r_here, .int 0, .int 0, .int 0, .int 0, .ref r_was, .ref r_came, .ref r_seenAt, .ref r_rowWorth, .ref r_farBy, .ref r_used, .int 0, .int 0, .int 0, .int 0, .int 0, .int 0, .int 0, .int 0, .int 0, .int 0, .int 0, .int 0, .ref r_fitPost, .ref r_fitEnd, .ref r_keptPosts, .int 0]))], [(r_all, .inl (T.2 0, 3952, .inl (upd (upd (upd (upd (fun _ => 0) 6 (-1)) 4 0) 5 0) 6 (-1))))], [(r_read, .inl (T.2 0, 121, .inl (fun _ => 0)))]] _ _ := G
        refine lv_iconst (v := 0) hx hb dX12_text_86 (by decide) ?_
        refine lv_istore_n (lv' := [(3, .int 0), (0, .ref y), (1, .int 1), (2, .int at_)]) hx hb dX12_text_87 rfl hl (by decide) rfl (fun ls hl => ?_)
        refine z_loop (T := T) (α := Nat × (Nat → Int32)) 88 (fun (i, g) => [[(y, .inr (11, [.ref r_all, .ref r_has, .int 0, .int 0, .int 0, .int 0, .int 0, .int 0, .int 0, .int (-1), .ref r_read, .int 0, .int 0, .int 0, .ref r_posts, .ref r_shut, .ref r_here, .int 0, .int 0, .int 0, .int 0, .ref r_was, .ref r_came, .ref r_seenAt, .ref r_rowWorth, .ref r_farBy, .ref r_used, .int 0, .int 0, .int 0, .int 0, .int 0, .int 0, .int 0, .int 0, .int 0, .int 0, .int 0, .int 0, .ref r_fitPost, .ref r_fitEnd, .ref r_keptPosts, .int 0]))], [(r_all, .inl (T.2 0, 3952, .inl (upd (upd (upd (upd (fun _ => 0) 6 (-1)) 4 0) 5 0) 6 (-1))))], [(r_read, .inl (T.2 0, 121, .inl g))]]) (fun (i, g) => [(3, .int (nI i)), (0, .ref y), (1, .int 1), (2, .int at_)]) (fun (i, g) => i ≤ 121 ∧ (∀ j, j < i → g j = 0)) (fun (i, g) => 121 - i) ?_ (0, (fun _ => 0)) (show 0 ≤ 121 ∧ (∀ j, j < 0 → (fun _ => 0) j = 0) from ⟨by omega, fun j hj => absurd hj (by omega)⟩) G (lv_sub hl [0, 1, 2, 3] rfl)
        rintro ⟨i, g⟩ ⟨hi, hz⟩ ih H locs ls G hl
        have hi : i ≤ 121 := hi
        have hz : (∀ j, j < i → g j = 0) := hz
        have G : zS T A s.heap s [[(y, .inr (11, [.ref r_all, .ref r_has, .int 0, .int 0, .int 0, .int 0, .int 0, .int 0, .int 0, .int (-1), .ref r_read, .int 0, .int 0, .int 0, .ref r_posts, .ref r_shut, .ref r_here, .int 0, .int 0, .int 0, .int 0, .ref r_was, .ref r_came, .ref r_seenAt, .ref r_rowWorth, .ref r_farBy, .ref r_used, .int 0, .int 0, .int 0, .int 0, .int 0, .int 0, .int 0, .int 0, .int 0, .int 0, .int 0, .int 0, .ref r_fitPost, .ref r_fitEnd, .ref r_keptPosts, .int 0]))], [(r_all, .inl (T.2 0, 3952, .inl (upd (upd (upd (upd (fun _ => 0) 6 (-1)) 4 0) 5 0) 6 (-1))))], [(r_read, .inl (T.2 0, 121, .inl g))]] _ _ := G
        have hl : lv_has ls 5 [(3, .int (nI i)), (0, .ref y), (1, .int 1), (2, .int at_)] := hl
        refine lv_iload_n hx hb dX12_text_88 rfl (lv_at hl 0 rfl) ?_
        refine lv_bipush (v := 121) hx hb dX12_text_89 (by decide) ?_
        refine lv_icmp_ge (tgt := 107) hx hb dX12_text_91 (by decide) (fun c_33 => ?_) (fun c_33 => ?_)
        · have c_33n : 121 ≤ i := (nI_leI (a := 121) (b := i) (by omega) (by omega)).mp c_33
          refine lv_aload_n hx hb dX12_text_107 rfl (lv_at hl 1 rfl) ?_
          refine z_Vv (bc := [[(y, .inr (11, [.ref r_all, .ref r_has, .int 0, .int 0, .int 0, .int 0, .int 0, .int 0, .int 0, .int (-1), .ref r_read, .int 0, .int 0, .int 0, .ref r_posts, .ref r_shut, .ref r_here, .int 0, .int 0, .int 0, .int 0, .ref r_was, .ref r_came, .ref r_seenAt, .ref r_rowWorth, .ref r_farBy, .ref r_used, .int 0, .int 0, .int 0, .int 0, .int 0, .int 0, .int 0, .int 0, .int 0, .int 0, .int 0, .int 0, .ref r_fitPost, .ref r_fitEnd, .ref r_keptPosts, .int 0]))]]) (br := [[(r_all, .inl (T.2 0, 3952, .inl (upd (upd (upd (upd (fun _ => 0) 6 (-1)) 4 0) 5 0) 6 (-1))))], [(r_read, .inl (T.2 0, 121, .inl g))]]) (As := []) (rest := []) C G (c_advance0 l T y r_all r_has r_read r_posts r_shut r_here r_was r_came r_seenAt r_rowWorth r_farBy r_used r_fitPost r_fitEnd r_keptPosts 0 0 0 0 0 (-1) 0 0 0 0 0 0 0 0 0 0 0 0 0 0 0 0 0 0 0 0) (kV_RX12_119 C.2.2.2.2 (Nat.le_of_ble_eq_true rfl) (Nat.le_of_ble_eq_true rfl)) [0] [1, 2] rfl rfl (ci := 11) (qc := (RX12, TX12, 43)) rfl rfl (List.mem_flatten.mpr ⟨_, List.mem_of_getElem? (i := 0) rfl, List.mem_cons_self⟩) rfl rfl hl.1 dX12_text_108 (Nat.le_of_ble_eq_true rfl) (Nat.le_of_ble_eq_true rfl) (fun b1 H locs hw G => ?_)
          obtain rfl := hw
          have G : zS T A s.heap s [[(r_all, .inl (T.2 0, 3952, .inl (upd (upd (upd (upd (fun _ => 0) 6 (-1)) 4 0) 5 0) 6 (-1))))], [(r_read, .inl (T.2 0, 121, .inl g))], [(y, .inr (11, [.ref r_all, .ref r_has, .int 0, .int 0, .int 0, .int 0, .int 0, .int 0, .int 0, .int (-1), .ref r_read, .int 0, .int 0, .int 0, .ref r_posts, .ref r_shut, .ref r_here, .int 0, .int 0, .int 0, .int 0, .ref r_was, .ref r_came, .ref r_seenAt, .ref r_rowWorth, .ref r_farBy, .ref r_used, .int 0, .int 0, .int 0, .int 0, .int 0, .int 0, .int 0, .int 0, .int 0, .int 0, .int 0, .int 0, .ref r_fitPost, .ref r_fitEnd, .ref r_keptPosts, .int 0]))]] _ _ := G
          refine lv_aload_n hx hb dX12_text_111 rfl (lv_at hl 1 rfl) ?_
          refine z_get C G clX12 2 rfl 8 (by decide) m_fl_RX12_104 rfl dX12_text_112 ?_
          refine lv_if_ne (tgt := 173) hx hb dX12_text_115 (by decide) (fun q => absurd (by decide) q) (fun _ => ?_)
          refine lv_aload_n hx hb dX12_text_118 rfl (lv_at hl 1 rfl) ?_
          refine z_get C G clX12 2 rfl 5 (by decide) m_fl_RX12_80 rfl dX12_text_119 ?_
          refine lv_if_eq (tgt := 173) hx hb dX12_text_122 (by decide) (fun _ => ?_) (fun q => absurd (by decide) q)
          refine lv_iload_n hx hb dX12_text_173 rfl (lv_at hl 2 rfl) ?_
          refine lv_if_ne (tgt := 208) hx hb dX12_text_174 (by decide) (fun _ => ?_) (fun q => absurd q (by decide))
          refine lv_iload_n hx hb dX12_text_208 rfl (lv_at hl 2 rfl) ?_
          refine lv_if_ne (tgt := 237) hx hb dX12_text_209 (by decide) (fun _ => ?_) (fun q => absurd q (by decide))
          refine lv_aload_n hx hb dX12_text_237 rfl (lv_at hl 1 rfl) ?_
          refine z_get C G clX12 2 rfl 0 (by decide) m_fl_RX12_7 rfl dX12_text_238 ?_
          refine lv_iconst (v := 5) hx hb dX12_text_241 (by decide) ?_
          refine z_ild C G 0 rfl (vp_in_nI (n := 5) (by decide) (by decide)) dX12_text_242 ?_
          refine lv_topi (fun v_35 ev_35 => ?_)
          obtain rfl : v_35 = 0 := ev_35
          refine lv_if_eq (tgt := 248) hx hb dX12_text_243 (by decide) (fun _ => ?_) (fun q => absurd (by decide) q)
          refine lv_iload_n hx hb dX12_text_248 rfl (lv_at hl 3 rfl) ?_
          refine lv_iconst (v := (-1)) hx hb dX12_text_249 (by decide) ?_
          refine lv_icmp_ne (tgt := 262) hx hb dX12_text_250 (by decide) (fun q => absurd ((fa_eq at_ ((-1) : Int32)).mpr (by show at_.toInt = (-1 : Int); omega)) q) (fun _ => ?_)
          refine lv_aload_n hx hb dX12_text_253 rfl (lv_at hl 1 rfl) ?_
          refine z_get C G clX12 2 rfl 0 (by decide) m_fl_RX12_7 rfl dX12_text_254 ?_
          refine lv_iload_n hx hb dX12_text_257 rfl (lv_at hl 2 rfl) ?_
          refine z_ild C G 0 rfl (vp_in_nI (n := 1) (by decide) (by decide)) dX12_text_258 ?_
          refine lv_topi (fun v_36 ev_36 => ?_)
          obtain rfl : v_36 = 0 := ev_36
          refine lv_goto (tgt := 263) hx hb dX12_text_259 (by decide) ?_
          refine lv_istore_n (lv' := [(3, .int 0), (0, .ref y), (1, .int 1), (2, .int at_)]) hx hb dX12_text_263 rfl hl (by decide) rfl (fun ls hl => ?_)
          refine lv_iload_n hx hb dX12_text_264 rfl (lv_at hl 3 rfl) ?_
          refine lv_iconst (v := (-1)) hx hb dX12_text_265 (by decide) ?_
          refine lv_icmp_ne (tgt := 279) hx hb dX12_text_266 (by decide) (fun q => absurd ((fa_eq at_ ((-1) : Int32)).mpr (by show at_.toInt = (-1 : Int); omega)) q) (fun _ => ?_)
          refine lv_aload_n hx hb dX12_text_269 rfl (lv_at hl 1 rfl) ?_
          refine z_get C G clX12 2 rfl 0 (by decide) m_fl_RX12_7 rfl dX12_text_270 ?_
          refine lv_iload_n hx hb dX12_text_273 rfl (lv_at hl 2 rfl) ?_
          refine lv_dup2_11 hx hb dX12_text_274 rfl rfl ?_
          refine z_ild C G 0 rfl (vp_in_nI (n := 1) (by decide) (by decide)) dX12_text_275 ?_
          refine lv_topi (fun v_37 ev_37 => ?_)
          obtain rfl : v_37 = 0 := ev_37
          refine lv_iconst (v := 1) hx hb dX12_text_276 (by decide) ?_
          refine lv_iadd hx hb dX12_text_277 ?_
          refine lv_topi (fun y_38 ey_38 => ?_)
          obtain rfl : y_38 = 1 := ey_38.trans (by decide)
          refine z_ist C G 0 rfl (vp_in_nI (n := 1) (by decide) (by decide)) dX12_text_278 (fun H locs G => ?_)
          have G : zS T A s.heap s [[(r_all, .inl (T.2 0, 3952, .inl (upd (upd (upd (upd (upd (fun _ => 0) 6 (-1)) 4 0) 5 0) 6 (-1)) 1 1)))], [(r_read, .inl (T.2 0, 121, .inl g))], [(y, .inr (11, [.ref r_all, .ref r_has, .int 0, .int 0, .int 0, .int 0, .int 0, .int 0, .int 0, .int (-1), .ref r_read, .int 0, .int 0, .int 0, .ref r_posts, .ref r_shut, .ref r_here, .int 0, .int 0, .int 0, .int 0, .ref r_was, .ref r_came, .ref r_seenAt, .ref r_rowWorth, .ref r_farBy, .ref r_used, .int 0, .int 0, .int 0, .int 0, .int 0, .int 0, .int 0, .int 0, .int 0, .int 0, .int 0, .int 0, .ref r_fitPost, .ref r_fitEnd, .ref r_keptPosts, .int 0]))]] _ _ := G
          refine lv_iconst (v := 0) hx hb dX12_text_279 (by decide) ?_
          refine lv_istore (lv' := [(4, .int 0), (3, .int 0), (0, .ref y), (1, .int 1), (2, .int at_)]) hx hb dX12_text_280 hl (by decide) rfl (fun ls hl => ?_)
          refine z_loop (T := T) (α := Nat × (Nat → Int32)) 282 (fun (j, k) => [[(r_all, .inl (T.2 0, 3952, .inl k))], [(r_read, .inl (T.2 0, 121, .inl g))], [(y, .inr (11, [.ref r_all, .ref r_has, .int 0, .int 0, .int 0, .int 0, .int 0, .int 0, .int 0, .int (-1), .ref r_read, .int 0, .int 0, .int 0, .ref r_posts, .ref r_shut, .ref r_here, .int 0, .int 0, .int 0, .int 0, .ref r_was, .ref r_came, .ref r_seenAt, .ref r_rowWorth, .ref r_farBy, .ref r_used, .int 0, .int 0, .int 0, .int 0, .int 0, .int 0, .int 0, .int 0, .int 0, .int 0, .int 0, .int 0, .ref r_fitPost, .ref r_fitEnd, .ref r_keptPosts, .int 0]))]]) (fun (j, k) => [(4, .int (nI j)), (3, .int 0), (0, .ref y), (1, .int 1), (2, .int at_)]) (fun (j, k) => j ≤ 121) (fun (j, k) => 121 - j) ?_ (0, (upd (upd (upd (upd (upd (fun _ => 0) 6 (-1)) 4 0) 5 0) 6 (-1)) 1 1)) (show 0 ≤ 121 from by omega) G (lv_sub hl [0, 1, 2, 3, 4] rfl)
          rintro ⟨j, k⟩ hj ih H locs ls G hl
          have hj : j ≤ 121 := hj
          have G : zS T A s.heap s [[(r_all, .inl (T.2 0, 3952, .inl k))], [(r_read, .inl (T.2 0, 121, .inl g))], [(y, .inr (11, [.ref r_all, .ref r_has, .int 0, .int 0, .int 0, .int 0, .int 0, .int 0, .int 0, .int (-1), .ref r_read, .int 0, .int 0, .int 0, .ref r_posts, .ref r_shut, .ref r_here, .int 0, .int 0, .int 0, .int 0, .ref r_was, .ref r_came, .ref r_seenAt, .ref r_rowWorth, .ref r_farBy, .ref r_used, .int 0, .int 0, .int 0, .int 0, .int 0, .int 0, .int 0, .int 0, .int 0, .int 0, .int 0, .int 0, .ref r_fitPost, .ref r_fitEnd, .ref r_keptPosts, .int 0]))]] _ _ := G
          have hl : lv_has ls 5 [(4, .int (nI j)), (3, .int 0), (0, .ref y), (1, .int 1), (2, .int at_)] := hl
          refine lv_iload hx hb dX12_text_282 (lv_at hl 0 rfl) ?_
          refine lv_iload_n hx hb dX12_text_284 rfl (lv_at hl 3 rfl) ?_
          refine z_Si (bc := []) (br := [[(r_all, .inl (T.2 0, 3952, .inl k))], [(r_read, .inl (T.2 0, 121, .inl g))], [(y, .inr (11, [.ref r_all, .ref r_has, .int 0, .int 0, .int 0, .int 0, .int 0, .int 0, .int 0, .int (-1), .ref r_read, .int 0, .int 0, .int 0, .ref r_posts, .ref r_shut, .ref r_here, .int 0, .int 0, .int 0, .int 0, .ref r_was, .ref r_came, .ref r_seenAt, .ref r_rowWorth, .ref r_farBy, .ref r_used, .int 0, .int 0, .int 0, .int 0, .int 0, .int 0, .int 0, .int 0, .int 0, .int 0, .int 0, .int 0, .ref r_fitPost, .ref r_fitEnd, .ref r_keptPosts, .int 0]))]]) (As := [.int 1]) (rest := [.int (nI j)]) C G (c_sizeOf_1 l T) (kS_RX12_160 C.2.2.2.2 (Nat.le_of_ble_eq_true rfl) (Nat.le_of_ble_eq_true rfl)) [] [0, 1, 2] rfl rfl rfl rfl hl.1 dX12_text_285 (Nat.le_of_ble_eq_true rfl) (Nat.le_of_ble_eq_true rfl) (fun r_40 b1 H locs hw G => ?_)
          obtain ⟨rfl, h_39⟩ := hw
          have G : zS T A s.heap s [[(r_all, .inl (T.2 0, 3952, .inl k))], [(r_read, .inl (T.2 0, 121, .inl g))], [(y, .inr (11, [.ref r_all, .ref r_has, .int 0, .int 0, .int 0, .int 0, .int 0, .int 0, .int 0, .int (-1), .ref r_read, .int 0, .int 0, .int 0, .ref r_posts, .ref r_shut, .ref r_here, .int 0, .int 0, .int 0, .int 0, .ref r_was, .ref r_came, .ref r_seenAt, .ref r_rowWorth, .ref r_farBy, .ref r_used, .int 0, .int 0, .int 0, .int 0, .int 0, .int 0, .int 0, .int 0, .int 0, .int 0, .int 0, .int 0, .ref r_fitPost, .ref r_fitEnd, .ref r_keptPosts, .int 0]))]] _ _ := G
          subst h_39
          refine lv_icmp_ge (tgt := 317) hx hb dX12_text_288 (by decide) (fun c_41 => ?_) (fun c_41 => ?_)
          · have c_41n : 121 ≤ j := (nI_leI (a := 121) (b := j) (by omega) (by omega)).mp c_41
            refine lv_iload_n hx hb dX12_text_317 rfl (lv_at hl 1 rfl) ?_
            have G := G.sub (bs' := []) [] rfl
            exact z_iret C hr hlocks G (Nat.le_of_ble_eq_true rfl) (Nat.le_of_ble_eq_true rfl) dX12_text_318 ⟨rfl, (by unfold zRes; rw [if_pos ⟨by decide, by decide, by omega⟩])⟩
          · have c_41n : ¬ 121 ≤ j := fun q => c_41 ((nI_leI (a := 121) (b := j) (by omega) (by omega)).mpr q)
            refine lv_aload_n hx hb dX12_text_291 rfl (lv_at hl 2 rfl) ?_
            refine z_get C G clX12 2 rfl 0 (by decide) m_fl_RX12_7 rfl dX12_text_292 ?_
            refine lv_iload_n hx hb dX12_text_295 rfl (lv_at hl 3 rfl) ?_
            refine lv_iload_n hx hb dX12_text_296 rfl (lv_at hl 1 rfl) ?_
            refine z_Si (bc := []) (br := [[(r_all, .inl (T.2 0, 3952, .inl k))], [(r_read, .inl (T.2 0, 121, .inl g))], [(y, .inr (11, [.ref r_all, .ref r_has, .int 0, .int 0, .int 0, .int 0, .int 0, .int 0, .int 0, .int (-1), .ref r_read, .int 0, .int 0, .int 0, .ref r_posts, .ref r_shut, .ref r_here, .int 0, .int 0, .int 0, .int 0, .ref r_was, .ref r_came, .ref r_seenAt, .ref r_rowWorth, .ref r_farBy, .ref r_used, .int 0, .int 0, .int 0, .int 0, .int 0, .int 0, .int 0, .int 0, .int 0, .int 0, .int 0, .int 0, .ref r_fitPost, .ref r_fitEnd, .ref r_keptPosts, .int 0]))]]) (As := [.int 1, .int 0]) (rest := [.ref r_all]) C G (c_placeOf_1 l T) (kS_RX12_163 C.2.2.2.2 (Nat.le_of_ble_eq_true rfl) (Nat.le_of_ble_eq_true rfl)) [] [0, 1, 2] rfl rfl rfl rfl hl.1 dX12_text_297 (Nat.le_of_ble_eq_true rfl) (Nat.le_of_ble_eq_true rfl) (fun r_43 b1 H locs hw G => ?_)
            obtain ⟨rfl, h_42⟩ := hw
            have G : zS T A s.heap s [[(r_all, .inl (T.2 0, 3952, .inl k))], [(r_read, .inl (T.2 0, 121, .inl g))], [(y, .inr (11, [.ref r_all, .ref r_has, .int 0, .int 0, .int 0, .int 0, .int 0, .int 0, .int 0, .int (-1), .ref r_read, .int 0, .int 0, .int 0, .ref r_posts, .ref r_shut, .ref r_here, .int 0, .int 0, .int 0, .int 0, .ref r_was, .ref r_came, .ref r_seenAt, .ref r_rowWorth, .ref r_farBy, .ref r_used, .int 0, .int 0, .int 0, .int 0, .int 0, .int 0, .int 0, .int 0, .int 0, .int 0, .int 0, .int 0, .ref r_fitPost, .ref r_fitEnd, .ref r_keptPosts, .int 0]))]] _ _ := G
            subst h_42
            refine lv_iload hx hb dX12_text_300 (lv_at hl 0 rfl) ?_
            refine lv_iadd hx hb dX12_text_302 ?_
            refine lv_topi (fun y_44 ey_44 => ?_)
            obtain rfl : y_44 = nI (712 + j) := ey_44.trans (z_iaddn 712 j rfl rfl)
            refine lv_aload_n hx hb dX12_text_303 rfl (lv_at hl 2 rfl) ?_
            refine z_get C G clX12 2 rfl 10 (by decide) m_fl_RX12_17 rfl dX12_text_304 ?_
            refine lv_iload hx hb dX12_text_307 (lv_at hl 0 rfl) ?_
            refine z_ild C G 1 rfl (vp_in_nI (by omega) (by omega)) dX12_text_309 ?_
            refine lv_topi (fun v_45 ev_45 => ?_)
            rw [nI_clamp (by omega)] at ev_45
            subst ev_45
            refine z_ist C G 0 rfl (vp_in_nI (by omega) (by omega)) dX12_text_310 (fun H locs G => ?_)
            rw [nI_clamp (by omega)] at G
            have G : zS T A s.heap s [[(r_all, .inl (T.2 0, 3952, .inl (upd k (712 + j) (g j))))], [(r_read, .inl (T.2 0, 121, .inl g))], [(y, .inr (11, [.ref r_all, .ref r_has, .int 0, .int 0, .int 0, .int 0, .int 0, .int 0, .int 0, .int (-1), .ref r_read, .int 0, .int 0, .int 0, .ref r_posts, .ref r_shut, .ref r_here, .int 0, .int 0, .int 0, .int 0, .ref r_was, .ref r_came, .ref r_seenAt, .ref r_rowWorth, .ref r_farBy, .ref r_used, .int 0, .int 0, .int 0, .int 0, .int 0, .int 0, .int 0, .int 0, .int 0, .int 0, .int 0, .int 0, .ref r_fitPost, .ref r_fitEnd, .ref r_keptPosts, .int 0]))]] _ _ := G
            refine lv_iinc (v := nI (j + 1)) (lv' := [(4, .int (nI (j + 1))), (3, .int 0), (0, .ref y), (1, .int 1), (2, .int at_)]) hx hb dX12_text_311 hl (k := 0) rfl (z_inc j 1) (by decide) rfl (fun ls hl => ?_)
            refine lv_goto (tgt := 282) hx hb dX12_text_314 (by decide) ?_
            exact ih ((j + 1), (upd k (712 + j) (g j))) (show (j + 1) ≤ 121 from by omega) (show 121 - (j + 1) < 121 - j from by omega) _ _ ls G (lv_sub hl [0, 1, 2, 3, 4] rfl)
        · have c_33n : ¬ 121 ≤ i := fun q => c_33 ((nI_leI (a := 121) (b := i) (by omega) (by omega)).mpr q)
          refine lv_aload_n hx hb dX12_text_94 rfl (lv_at hl 1 rfl) ?_
          refine z_get C G clX12 0 rfl 10 (by decide) m_fl_RX12_17 rfl dX12_text_95 ?_
          refine lv_iload_n hx hb dX12_text_98 rfl (lv_at hl 0 rfl) ?_
          refine lv_iconst (v := 0) hx hb dX12_text_99 (by decide) ?_
          refine z_ist C G 2 rfl (vp_in_nI (by omega) (by omega)) dX12_text_100 (fun H locs G => ?_)
          rw [nI_clamp (by omega)] at G
          have G : zS T A s.heap s [[(y, .inr (11, [.ref r_all, .ref r_has, .int 0, .int 0, .int 0, .int 0, .int 0, .int 0, .int 0, .int (-1), .ref r_read, .int 0, .int 0, .int 0, .ref r_posts, .ref r_shut, .ref r_here, .int 0, .int 0, .int 0, .int 0, .ref r_was, .ref r_came, .ref r_seenAt, .ref r_rowWorth, .ref r_farBy, .ref r_used, .int 0, .int 0, .int 0, .int 0, .int 0, .int 0, .int 0, .int 0, .int 0, .int 0, .int 0, .int 0, .ref r_fitPost, .ref r_fitEnd, .ref r_keptPosts, .int 0]))], [(r_all, .inl (T.2 0, 3952, .inl (upd (upd (upd (upd (fun _ => 0) 6 (-1)) 4 0) 5 0) 6 (-1))))], [(r_read, .inl (T.2 0, 121, .inl (upd g i 0)))]] _ _ := G
          refine lv_iinc (v := nI (i + 1)) (lv' := [(3, .int (nI (i + 1))), (0, .ref y), (1, .int 1), (2, .int at_)]) hx hb dX12_text_101 hl (k := 0) rfl (z_inc i 1) (by decide) rfl (fun ls hl => ?_)
          refine lv_goto (tgt := 88) hx hb dX12_text_104 (by decide) ?_
          exact ih ((i + 1), (upd g i 0)) (show (i + 1) ≤ 121 ∧ (∀ j, j < (i + 1) → (upd g i 0) j = 0) from ⟨by omega, z_upd0 hz⟩) (show 121 - (i + 1) < 121 - i from by omega) _ _ ls G (lv_sub hl [0, 1, 2, 3] rfl)
    · refine lv_iload_n hx hb dX12_text_41 rfl (lv_at hl 2 rfl) ?_
      refine lv_iconst (v := (-1)) hx hb dX12_text_42 (by decide) ?_
      refine lv_icmp_ne (tgt := 59) hx hb dX12_text_43 (by decide) (fun c_46 => ?_) (fun c_46 => ?_)
      · have c_46n : ¬ at_.toInt = (-1 : Int) := fun q => c_46 ((fa_eq _ _).mpr q)
        refine lv_aload_n hx hb dX12_text_59 rfl (lv_at hl 0 rfl) ?_
        refine lv_iload_n hx hb dX12_text_60 rfl (lv_at hl 1 rfl) ?_
        refine lv_iload_n hx hb dX12_text_61 rfl (lv_at hl 2 rfl) ?_
        refine z_Vi (bc := [[(y, .inr (11, [.ref r_all, .ref r_has, .int 0, .int 0, .int 0, .int 0, .int 0, .int 0, .int 0, .int 0, .ref r_read, .int 0, .int 0, .int 0, .ref r_posts, .ref r_shut, .ref r_here, .int 0, .int 0, .int 0, .int 0, .ref r_was, .ref r_came, .ref r_seenAt, .ref r_rowWorth, .ref r_farBy, .ref r_used, .int 0, .int 0, .int 0, .int 0, .int 0, .int 0, .int 0, .int 0, .int 0, .int 0, .int 0, .int 0, .ref r_fitPost, .ref r_fitEnd, .ref r_keptPosts, .int 0]))], [(r_all, .inl (T.2 0, 3952, .inl (upd (upd (upd (upd (fun _ => 0) 6 (-1)) 4 0) 5 0) 6 (-1))))]]) (br := [[(r_read, .inl (T.2 0, 121, .inl (fun _ => 0)))]]) (As := [.int 2, .int at_]) (rest := []) C G (c_isOf0 l T y r_all r_has r_read r_posts r_shut r_here r_was r_came r_seenAt r_rowWorth r_farBy r_used r_fitPost r_fitEnd r_keptPosts 0 0 0 0 0 0 0 0 0 0 0 0 0 0 0 0 0 0 0 0 0 0 0 0 0 0 0 0 (upd (upd (upd (upd (fun _ => 0) 6 (-1)) 4 0) 5 0) 6 (-1)) 2 at_ (by first | assumption | omega | rfl) (by first | assumption | omega | rfl)) (kV_RX12_143 C.2.2.2.2 (Nat.le_of_ble_eq_true rfl) (Nat.le_of_ble_eq_true rfl)) [0, 1] [2] rfl rfl (ci := 11) (qc := (RX12, TX12, 43)) rfl rfl (List.mem_flatten.mpr ⟨_, List.mem_of_getElem? (i := 0) rfl, List.mem_cons_self⟩) rfl rfl hl.1 dX12_text_62 (Nat.le_of_ble_eq_true rfl) (Nat.le_of_ble_eq_true rfl) (fun r_48 b1 H locs hw G => ?_)
        obtain ⟨rfl, h_47⟩ := hw
        have G : zS T A s.heap s [[(r_read, .inl (T.2 0, 121, .inl (fun _ => 0)))], [(y, .inr (11, [.ref r_all, .ref r_has, .int 0, .int 0, .int 0, .int 0, .int 0, .int 0, .int 0, .int 0, .ref r_read, .int 0, .int 0, .int 0, .ref r_posts, .ref r_shut, .ref r_here, .int 0, .int 0, .int 0, .int 0, .ref r_was, .ref r_came, .ref r_seenAt, .ref r_rowWorth, .ref r_farBy, .ref r_used, .int 0, .int 0, .int 0, .int 0, .int 0, .int 0, .int 0, .int 0, .int 0, .int 0, .int 0, .int 0, .ref r_fitPost, .ref r_fitEnd, .ref r_keptPosts, .int 0]))], [(r_all, .inl (T.2 0, 3952, .inl (upd (upd (upd (upd (fun _ => 0) 6 (-1)) 4 0) 5 0) 6 (-1))))]] _ _ := G
        subst h_47
        refine lv_if_ne (tgt := 71) hx hb dX12_text_65 (by decide) (fun q => absurd (by decide) q) (fun _ => ?_)
        refine lv_bipush (v := (-2)) hx hb dX12_text_68 (by decide) ?_
        have G := G.sub (bs' := []) [] rfl
        exact z_iret C hr hlocks G (Nat.le_of_ble_eq_true rfl) (Nat.le_of_ble_eq_true rfl) dX12_text_70 ⟨rfl, (by unfold zRes; rw [if_neg (by first | omega | (intro q; exact absurd q.2.2 (by omega)))])⟩
      · have c_46n : at_.toInt = (-1 : Int) := (fa_eq _ _).mp c_46
        refine lv_aload_n hx hb dX12_text_46 rfl (lv_at hl 0 rfl) ?_
        refine z_get C G clX12 0 rfl 0 (by decide) m_fl_RX12_7 rfl dX12_text_47 ?_
        refine lv_iload_n hx hb dX12_text_50 rfl (lv_at hl 1 rfl) ?_
        refine z_ild C G 1 rfl (vp_in_nI (n := 2) (by decide) (by decide)) dX12_text_51 ?_
        refine lv_topi (fun v_49 ev_49 => ?_)
        obtain rfl : v_49 = 0 := ev_49
        refine lv_iconst (v := 2) hx hb dX12_text_52 (by decide) ?_
        refine lv_icmp_lt (tgt := 71) hx hb dX12_text_53 (by decide) (fun _ => ?_) (fun q => absurd (by decide) q)
        refine lv_aload_n hx hb dX12_text_71 rfl (lv_at hl 0 rfl) ?_
        refine lv_iconst (v := 0) hx hb dX12_text_72 (by decide) ?_
        refine z_put C G clX12 0 rfl 3 (by decide) m_fl_RX12_70 rfl rfl rfl (Nat.le_of_ble_eq_true rfl) dX12_text_73 (fun H locs G => ?_)
        have G : zS T A s.heap s [[(y, .inr (11, [.ref r_all, .ref r_has, .int 0, .int 0, .int 0, .int 0, .int 0, .int 0, .int 0, .int 0, .ref r_read, .int 0, .int 0, .int 0, .ref r_posts, .ref r_shut, .ref r_here, .int 0, .int 0, .int 0, .int 0, .ref r_was, .ref r_came, .ref r_seenAt, .ref r_rowWorth, .ref r_farBy, .ref r_used, .int 0, .int 0, .int 0, .int 0, .int 0, .int 0, .int 0, .int 0, .int 0, .int 0, .int 0, .int 0, .ref r_fitPost, .ref r_fitEnd, .ref r_keptPosts, .int 0]))], [(r_all, .inl (T.2 0, 3952, .inl (upd (upd (upd (upd (fun _ => 0) 6 (-1)) 4 0) 5 0) 6 (-1))))], [(r_read, .inl (T.2 0, 121, .inl (fun _ => 0)))]] _ _ := G
        refine lv_aload_n hx hb dX12_text_76 rfl (lv_at hl 0 rfl) ?_
        refine lv_iconst (v := 0) hx hb dX12_text_77 (by decide) ?_
        refine z_put C G clX12 0 rfl 8 (by decide) m_fl_RX12_104 rfl rfl rfl (Nat.le_of_ble_eq_true rfl) dX12_text_78 (fun H locs G => ?_)
        have G : zS T A s.heap s [[(y, .inr (11, [.ref r_all, .ref r_has, .int 0, .int 0, .int 0, .int 0, .int 0, .int 0, .int 0, .int 0, .ref r_read, .int 0, .int 0, .int 0, .ref r_posts, .ref r_shut, .ref r_here, .int 0, .int 0, .int 0, .int 0, .ref r_was, .ref r_came, .ref r_seenAt, .ref r_rowWorth, .ref r_farBy, .ref r_used, .int 0, .int 0, .int 0, .int 0, .int 0, .int 0, .int 0, .int 0, .int 0, .int 0, .int 0, .int 0, .ref r_fitPost, .ref r_fitEnd, .ref r_keptPosts, .int 0]))], [(r_all, .inl (T.2 0, 3952, .inl (upd (upd (upd (upd (fun _ => 0) 6 (-1)) 4 0) 5 0) 6 (-1))))], [(r_read, .inl (T.2 0, 121, .inl (fun _ => 0)))]] _ _ := G
        refine lv_aload_n hx hb dX12_text_81 rfl (lv_at hl 0 rfl) ?_
        refine lv_iconst (v := (-1)) hx hb dX12_text_82 (by decide) ?_
        refine z_put C G clX12 0 rfl 9 (by decide) m_fl_RX12_126 rfl rfl rfl (Nat.le_of_ble_eq_true rfl) dX12_text_83 (fun H locs G => ?_)
        have G : zS T A s.heap s [[(y, .inr (11, [.ref r_all, .ref r_has, .int 0, .int 0, .int 0, .int 0, .int 0, .int 0, .int 0, .int (-1), .ref r_read, .int 0, .int 0, .int 0, .ref r_posts, .ref r_shut, .ref r_here, .int 0, .int 0, .int 0, .int 0, .ref r_was, .ref r_came, .ref r_seenAt, .ref r_rowWorth, .ref r_farBy, .ref r_used, .int 0, .int 0, .int 0, .int 0, .int 0, .int 0, .int 0, .int 0, .int 0, .int 0, .int 0, .int 0, .ref r_fitPost, .ref r_fitEnd, .ref r_keptPosts, .int 0]))], [(r_all, .inl (T.2 0, 3952, .inl (upd (upd (upd (upd (fun _ => 0) 6 (-1)) 4 0) 5 0) 6 (-1))))], [(r_read, .inl (T.2 0, 121, .inl (fun _ => 0)))]] _ _ := G
        refine lv_iconst (v := 0) hx hb dX12_text_86 (by decide) ?_
        refine lv_istore_n (lv' := [(3, .int 0), (0, .ref y), (1, .int 2), (2, .int at_)]) hx hb dX12_text_87 rfl hl (by decide) rfl (fun ls hl => ?_)
        refine z_loop (T := T) (α := Nat × (Nat → Int32)) 88 (fun (i, g) => [[(y, .inr (11, [.ref r_all, .ref r_has, .int 0, .int 0, .int 0, .int 0, .int 0, .int 0, .int 0, .int (-1), .ref r_read, .int 0, .int 0, .int 0, .ref r_posts, .ref r_shut, .ref r_here, .int 0, .int 0, .int 0, .int 0, .ref r_was, .ref r_came, .ref r_seenAt, .ref r_rowWorth, .ref r_farBy, .ref r_used, .int 0, .int 0, .int 0, .int 0, .int 0, .int 0, .int 0, .int 0, .int 0, .int 0, .int 0, .int 0, .ref r_fitPost, .ref r_fitEnd, .ref r_keptPosts, .int 0]))], [(r_all, .inl (T.2 0, 3952, .inl (upd (upd (upd (upd (fun _ => 0) 6 (-1)) 4 0) 5 0) 6 (-1))))], [(r_read, .inl (T.2 0, 121, .inl g))]]) (fun (i, g) => [(3, .int (nI i)), (0, .ref y), (1, .int 2), (2, .int at_)]) (fun (i, g) => i ≤ 121 ∧ (∀ j, j < i → g j = 0)) (fun (i, g) => 121 - i) ?_ (0, (fun _ => 0)) (show 0 ≤ 121 ∧ (∀ j, j < 0 → (fun _ => 0) j = 0) from ⟨by omega, fun j hj => absurd hj (by omega)⟩) G (lv_sub hl [0, 1, 2, 3] rfl)
        rintro ⟨i, g⟩ ⟨hi, hz⟩ ih H locs ls G hl
        have hi : i ≤ 121 := hi
        have hz : (∀ j, j < i → g j = 0) := hz
        have G : zS T A s.heap s [[(y, .inr (11, [.ref r_all, .ref r_has, .int 0, .int 0, .int 0, .int 0, .int 0, .int 0, .int 0, .int (-1), .ref r_read, .int 0, .int 0, .int 0, .ref r_posts, .ref r_shut, .ref r_here, .int 0, .int 0, .int 0, .int 0, .ref r_was, .ref r_came, .ref r_seenAt, .ref r_rowWorth, .ref r_farBy, .ref r_used, .int 0, .int 0, .int 0, .int 0, .int 0, .int 0, .int 0, .int 0, .int 0, .int 0, .int 0, .int 0, .ref r_fitPost, .ref r_fitEnd, .ref r_keptPosts, .int 0]))], [(r_all, .inl (T.2 0, 3952, .inl (upd (upd (upd (upd (fun _ => 0) 6 (-1)) 4 0) 5 0) 6 (-1))))], [(r_read, .inl (T.2 0, 121, .inl g))]] _ _ := G
        have hl : lv_has ls 5 [(3, .int (nI i)), (0, .ref y), (1, .int 2), (2, .int at_)] := hl
        refine lv_iload_n hx hb dX12_text_88 rfl (lv_at hl 0 rfl) ?_
        refine lv_bipush (v := 121) hx hb dX12_text_89 (by decide) ?_
        refine lv_icmp_ge (tgt := 107) hx hb dX12_text_91 (by decide) (fun c_50 => ?_) (fun c_50 => ?_)
        · have c_50n : 121 ≤ i := (nI_leI (a := 121) (b := i) (by omega) (by omega)).mp c_50
          refine lv_aload_n hx hb dX12_text_107 rfl (lv_at hl 1 rfl) ?_
          refine z_Vv (bc := [[(y, .inr (11, [.ref r_all, .ref r_has, .int 0, .int 0, .int 0, .int 0, .int 0, .int 0, .int 0, .int (-1), .ref r_read, .int 0, .int 0, .int 0, .ref r_posts, .ref r_shut, .ref r_here, .int 0, .int 0, .int 0, .int 0, .ref r_was, .ref r_came, .ref r_seenAt, .ref r_rowWorth, .ref r_farBy, .ref r_used, .int 0, .int 0, .int 0, .int 0, .int 0, .int 0, .int 0, .int 0, .int 0, .int 0, .int 0, .int 0, .ref r_fitPost, .ref r_fitEnd, .ref r_keptPosts, .int 0]))]]) (br := [[(r_all, .inl (T.2 0, 3952, .inl (upd (upd (upd (upd (fun _ => 0) 6 (-1)) 4 0) 5 0) 6 (-1))))], [(r_read, .inl (T.2 0, 121, .inl g))]]) (As := []) (rest := []) C G (c_advance0 l T y r_all r_has r_read r_posts r_shut r_here r_was r_came r_seenAt r_rowWorth r_farBy r_used r_fitPost r_fitEnd r_keptPosts 0 0 0 0 0 (-1) 0 0 0 0 0 0 0 0 0 0 0 0 0 0 0 0 0 0 0 0) (kV_RX12_119 C.2.2.2.2 (Nat.le_of_ble_eq_true rfl) (Nat.le_of_ble_eq_true rfl)) [0] [1, 2] rfl rfl (ci := 11) (qc := (RX12, TX12, 43)) rfl rfl (List.mem_flatten.mpr ⟨_, List.mem_of_getElem? (i := 0) rfl, List.mem_cons_self⟩) rfl rfl hl.1 dX12_text_108 (Nat.le_of_ble_eq_true rfl) (Nat.le_of_ble_eq_true rfl) (fun b1 H locs hw G => ?_)
          obtain rfl := hw
          have G : zS T A s.heap s [[(r_all, .inl (T.2 0, 3952, .inl (upd (upd (upd (upd (fun _ => 0) 6 (-1)) 4 0) 5 0) 6 (-1))))], [(r_read, .inl (T.2 0, 121, .inl g))], [(y, .inr (11, [.ref r_all, .ref r_has, .int 0, .int 0, .int 0, .int 0, .int 0, .int 0, .int 0, .int (-1), .ref r_read, .int 0, .int 0, .int 0, .ref r_posts, .ref r_shut, .ref r_here, .int 0, .int 0, .int 0, .int 0, .ref r_was, .ref r_came, .ref r_seenAt, .ref r_rowWorth, .ref r_farBy, .ref r_used, .int 0, .int 0, .int 0, .int 0, .int 0, .int 0, .int 0, .int 0, .int 0, .int 0, .int 0, .int 0, .ref r_fitPost, .ref r_fitEnd, .ref r_keptPosts, .int 0]))]] _ _ := G
          refine lv_aload_n hx hb dX12_text_111 rfl (lv_at hl 1 rfl) ?_
          refine z_get C G clX12 2 rfl 8 (by decide) m_fl_RX12_104 rfl dX12_text_112 ?_
          refine lv_if_ne (tgt := 173) hx hb dX12_text_115 (by decide) (fun q => absurd (by decide) q) (fun _ => ?_)
          refine lv_aload_n hx hb dX12_text_118 rfl (lv_at hl 1 rfl) ?_
          refine z_get C G clX12 2 rfl 5 (by decide) m_fl_RX12_80 rfl dX12_text_119 ?_
          refine lv_if_eq (tgt := 173) hx hb dX12_text_122 (by decide) (fun _ => ?_) (fun q => absurd (by decide) q)
          refine lv_iload_n hx hb dX12_text_173 rfl (lv_at hl 2 rfl) ?_
          refine lv_if_ne (tgt := 208) hx hb dX12_text_174 (by decide) (fun _ => ?_) (fun q => absurd q (by decide))
          refine lv_iload_n hx hb dX12_text_208 rfl (lv_at hl 2 rfl) ?_
          refine lv_if_ne (tgt := 237) hx hb dX12_text_209 (by decide) (fun _ => ?_) (fun q => absurd q (by decide))
          refine lv_aload_n hx hb dX12_text_237 rfl (lv_at hl 1 rfl) ?_
          refine z_get C G clX12 2 rfl 0 (by decide) m_fl_RX12_7 rfl dX12_text_238 ?_
          refine lv_iconst (v := 5) hx hb dX12_text_241 (by decide) ?_
          refine z_ild C G 0 rfl (vp_in_nI (n := 5) (by decide) (by decide)) dX12_text_242 ?_
          refine lv_topi (fun v_52 ev_52 => ?_)
          obtain rfl : v_52 = 0 := ev_52
          refine lv_if_eq (tgt := 248) hx hb dX12_text_243 (by decide) (fun _ => ?_) (fun q => absurd (by decide) q)
          refine lv_iload_n hx hb dX12_text_248 rfl (lv_at hl 3 rfl) ?_
          refine lv_iconst (v := (-1)) hx hb dX12_text_249 (by decide) ?_
          refine lv_icmp_ne (tgt := 262) hx hb dX12_text_250 (by decide) (fun q => absurd ((fa_eq at_ ((-1) : Int32)).mpr (by show at_.toInt = (-1 : Int); omega)) q) (fun _ => ?_)
          refine lv_aload_n hx hb dX12_text_253 rfl (lv_at hl 1 rfl) ?_
          refine z_get C G clX12 2 rfl 0 (by decide) m_fl_RX12_7 rfl dX12_text_254 ?_
          refine lv_iload_n hx hb dX12_text_257 rfl (lv_at hl 2 rfl) ?_
          refine z_ild C G 0 rfl (vp_in_nI (n := 2) (by decide) (by decide)) dX12_text_258 ?_
          refine lv_topi (fun v_53 ev_53 => ?_)
          obtain rfl : v_53 = 0 := ev_53
          refine lv_goto (tgt := 263) hx hb dX12_text_259 (by decide) ?_
          refine lv_istore_n (lv' := [(3, .int 0), (0, .ref y), (1, .int 2), (2, .int at_)]) hx hb dX12_text_263 rfl hl (by decide) rfl (fun ls hl => ?_)
          refine lv_iload_n hx hb dX12_text_264 rfl (lv_at hl 3 rfl) ?_
          refine lv_iconst (v := (-1)) hx hb dX12_text_265 (by decide) ?_
          refine lv_icmp_ne (tgt := 279) hx hb dX12_text_266 (by decide) (fun q => absurd ((fa_eq at_ ((-1) : Int32)).mpr (by show at_.toInt = (-1 : Int); omega)) q) (fun _ => ?_)
          refine lv_aload_n hx hb dX12_text_269 rfl (lv_at hl 1 rfl) ?_
          refine z_get C G clX12 2 rfl 0 (by decide) m_fl_RX12_7 rfl dX12_text_270 ?_
          refine lv_iload_n hx hb dX12_text_273 rfl (lv_at hl 2 rfl) ?_
          refine lv_dup2_11 hx hb dX12_text_274 rfl rfl ?_
          refine z_ild C G 0 rfl (vp_in_nI (n := 2) (by decide) (by decide)) dX12_text_275 ?_
          refine lv_topi (fun v_54 ev_54 => ?_)
          obtain rfl : v_54 = 0 := ev_54
          refine lv_iconst (v := 1) hx hb dX12_text_276 (by decide) ?_
          refine lv_iadd hx hb dX12_text_277 ?_
          refine lv_topi (fun y_55 ey_55 => ?_)
          obtain rfl : y_55 = 1 := ey_55.trans (by decide)
          refine z_ist C G 0 rfl (vp_in_nI (n := 2) (by decide) (by decide)) dX12_text_278 (fun H locs G => ?_)
          have G : zS T A s.heap s [[(r_all, .inl (T.2 0, 3952, .inl (upd (upd (upd (upd (upd (fun _ => 0) 6 (-1)) 4 0) 5 0) 6 (-1)) 2 1)))], [(r_read, .inl (T.2 0, 121, .inl g))], [(y, .inr (11, [.ref r_all, .ref r_has, .int 0, .int 0, .int 0, .int 0, .int 0, .int 0, .int 0, .int (-1), .ref r_read, .int 0, .int 0, .int 0, .ref r_posts, .ref r_shut, .ref r_here, .int 0, .int 0, .int 0, .int 0, .ref r_was, .ref r_came, .ref r_seenAt, .ref r_rowWorth, .ref r_farBy, .ref r_used, .int 0, .int 0, .int 0, .int 0, .int 0, .int 0, .int 0, .int 0, .int 0, .int 0, .int 0, .int 0, .ref r_fitPost, .ref r_fitEnd, .ref r_keptPosts, .int 0]))]] _ _ := G
          refine lv_iconst (v := 0) hx hb dX12_text_279 (by decide) ?_
          refine lv_istore (lv' := [(4, .int 0), (3, .int 0), (0, .ref y), (1, .int 2), (2, .int at_)]) hx hb dX12_text_280 hl (by decide) rfl (fun ls hl => ?_)
          refine z_loop (T := T) (α := Nat × (Nat → Int32)) 282 (fun (j, k) => [[(r_all, .inl (T.2 0, 3952, .inl k))], [(r_read, .inl (T.2 0, 121, .inl g))], [(y, .inr (11, [.ref r_all, .ref r_has, .int 0, .int 0, .int 0, .int 0, .int 0, .int 0, .int 0, .int (-1), .ref r_read, .int 0, .int 0, .int 0, .ref r_posts, .ref r_shut, .ref r_here, .int 0, .int 0, .int 0, .int 0, .ref r_was, .ref r_came, .ref r_seenAt, .ref r_rowWorth, .ref r_farBy, .ref r_used, .int 0, .int 0, .int 0, .int 0, .int 0, .int 0, .int 0, .int 0, .int 0, .int 0, .int 0, .int 0, .ref r_fitPost, .ref r_fitEnd, .ref r_keptPosts, .int 0]))]]) (fun (j, k) => [(4, .int (nI j)), (3, .int 0), (0, .ref y), (1, .int 2), (2, .int at_)]) (fun (j, k) => j ≤ 17) (fun (j, k) => 17 - j) ?_ (0, (upd (upd (upd (upd (upd (fun _ => 0) 6 (-1)) 4 0) 5 0) 6 (-1)) 2 1)) (show 0 ≤ 17 from by omega) G (lv_sub hl [0, 1, 2, 3, 4] rfl)
          rintro ⟨j, k⟩ hj ih H locs ls G hl
          have hj : j ≤ 17 := hj
          have G : zS T A s.heap s [[(r_all, .inl (T.2 0, 3952, .inl k))], [(r_read, .inl (T.2 0, 121, .inl g))], [(y, .inr (11, [.ref r_all, .ref r_has, .int 0, .int 0, .int 0, .int 0, .int 0, .int 0, .int 0, .int (-1), .ref r_read, .int 0, .int 0, .int 0, .ref r_posts, .ref r_shut, .ref r_here, .int 0, .int 0, .int 0, .int 0, .ref r_was, .ref r_came, .ref r_seenAt, .ref r_rowWorth, .ref r_farBy, .ref r_used, .int 0, .int 0, .int 0, .int 0, .int 0, .int 0, .int 0, .int 0, .int 0, .int 0, .int 0, .int 0, .ref r_fitPost, .ref r_fitEnd, .ref r_keptPosts, .int 0]))]] _ _ := G
          have hl : lv_has ls 5 [(4, .int (nI j)), (3, .int 0), (0, .ref y), (1, .int 2), (2, .int at_)] := hl
          refine lv_iload hx hb dX12_text_282 (lv_at hl 0 rfl) ?_
          refine lv_iload_n hx hb dX12_text_284 rfl (lv_at hl 3 rfl) ?_
          refine z_Si (bc := []) (br := [[(r_all, .inl (T.2 0, 3952, .inl k))], [(r_read, .inl (T.2 0, 121, .inl g))], [(y, .inr (11, [.ref r_all, .ref r_has, .int 0, .int 0, .int 0, .int 0, .int 0, .int 0, .int 0, .int (-1), .ref r_read, .int 0, .int 0, .int 0, .ref r_posts, .ref r_shut, .ref r_here, .int 0, .int 0, .int 0, .int 0, .ref r_was, .ref r_came, .ref r_seenAt, .ref r_rowWorth, .ref r_farBy, .ref r_used, .int 0, .int 0, .int 0, .int 0, .int 0, .int 0, .int 0, .int 0, .int 0, .int 0, .int 0, .int 0, .ref r_fitPost, .ref r_fitEnd, .ref r_keptPosts, .int 0]))]]) (As := [.int 2]) (rest := [.int (nI j)]) C G (c_sizeOf_2 l T) (kS_RX12_160 C.2.2.2.2 (Nat.le_of_ble_eq_true rfl) (Nat.le_of_ble_eq_true rfl)) [] [0, 1, 2] rfl rfl rfl rfl hl.1 dX12_text_285 (Nat.le_of_ble_eq_true rfl) (Nat.le_of_ble_eq_true rfl) (fun r_57 b1 H locs hw G => ?_)
          obtain ⟨rfl, h_56⟩ := hw
          have G : zS T A s.heap s [[(r_all, .inl (T.2 0, 3952, .inl k))], [(r_read, .inl (T.2 0, 121, .inl g))], [(y, .inr (11, [.ref r_all, .ref r_has, .int 0, .int 0, .int 0, .int 0, .int 0, .int 0, .int 0, .int (-1), .ref r_read, .int 0, .int 0, .int 0, .ref r_posts, .ref r_shut, .ref r_here, .int 0, .int 0, .int 0, .int 0, .ref r_was, .ref r_came, .ref r_seenAt, .ref r_rowWorth, .ref r_farBy, .ref r_used, .int 0, .int 0, .int 0, .int 0, .int 0, .int 0, .int 0, .int 0, .int 0, .int 0, .int 0, .int 0, .ref r_fitPost, .ref r_fitEnd, .ref r_keptPosts, .int 0]))]] _ _ := G
          subst h_56
          refine lv_icmp_ge (tgt := 317) hx hb dX12_text_288 (by decide) (fun c_58 => ?_) (fun c_58 => ?_)
          · have c_58n : 17 ≤ j := (nI_leI (a := 17) (b := j) (by omega) (by omega)).mp c_58
            refine lv_iload_n hx hb dX12_text_317 rfl (lv_at hl 1 rfl) ?_
            have G := G.sub (bs' := []) [] rfl
            exact z_iret C hr hlocks G (Nat.le_of_ble_eq_true rfl) (Nat.le_of_ble_eq_true rfl) dX12_text_318 ⟨rfl, (by unfold zRes; rw [if_pos ⟨by decide, by decide, by omega⟩])⟩
          · have c_58n : ¬ 17 ≤ j := fun q => c_58 ((nI_leI (a := 17) (b := j) (by omega) (by omega)).mpr q)
            refine lv_aload_n hx hb dX12_text_291 rfl (lv_at hl 2 rfl) ?_
            refine z_get C G clX12 2 rfl 0 (by decide) m_fl_RX12_7 rfl dX12_text_292 ?_
            refine lv_iload_n hx hb dX12_text_295 rfl (lv_at hl 3 rfl) ?_
            refine lv_iload_n hx hb dX12_text_296 rfl (lv_at hl 1 rfl) ?_
            refine z_Si (bc := []) (br := [[(r_all, .inl (T.2 0, 3952, .inl k))], [(r_read, .inl (T.2 0, 121, .inl g))], [(y, .inr (11, [.ref r_all, .ref r_has, .int 0, .int 0, .int 0, .int 0, .int 0, .int 0, .int 0, .int (-1), .ref r_read, .int 0, .int 0, .int 0, .ref r_posts, .ref r_shut, .ref r_here, .int 0, .int 0, .int 0, .int 0, .ref r_was, .ref r_came, .ref r_seenAt, .ref r_rowWorth, .ref r_farBy, .ref r_used, .int 0, .int 0, .int 0, .int 0, .int 0, .int 0, .int 0, .int 0, .int 0, .int 0, .int 0, .int 0, .ref r_fitPost, .ref r_fitEnd, .ref r_keptPosts, .int 0]))]]) (As := [.int 2, .int 0]) (rest := [.ref r_all]) C G (c_placeOf_2 l T) (kS_RX12_163 C.2.2.2.2 (Nat.le_of_ble_eq_true rfl) (Nat.le_of_ble_eq_true rfl)) [] [0, 1, 2] rfl rfl rfl rfl hl.1 dX12_text_297 (Nat.le_of_ble_eq_true rfl) (Nat.le_of_ble_eq_true rfl) (fun r_60 b1 H locs hw G => ?_)
            obtain ⟨rfl, h_59⟩ := hw
            have G : zS T A s.heap s [[(r_all, .inl (T.2 0, 3952, .inl k))], [(r_read, .inl (T.2 0, 121, .inl g))], [(y, .inr (11, [.ref r_all, .ref r_has, .int 0, .int 0, .int 0, .int 0, .int 0, .int 0, .int 0, .int (-1), .ref r_read, .int 0, .int 0, .int 0, .ref r_posts, .ref r_shut, .ref r_here, .int 0, .int 0, .int 0, .int 0, .ref r_was, .ref r_came, .ref r_seenAt, .ref r_rowWorth, .ref r_farBy, .ref r_used, .int 0, .int 0, .int 0, .int 0, .int 0, .int 0, .int 0, .int 0, .int 0, .int 0, .int 0, .int 0, .ref r_fitPost, .ref r_fitEnd, .ref r_keptPosts, .int 0]))]] _ _ := G
            subst h_59
            refine lv_iload hx hb dX12_text_300 (lv_at hl 0 rfl) ?_
            refine lv_iadd hx hb dX12_text_302 ?_
            refine lv_topi (fun y_61 ey_61 => ?_)
            obtain rfl : y_61 = nI (954 + j) := ey_61.trans (z_iaddn 954 j rfl rfl)
            refine lv_aload_n hx hb dX12_text_303 rfl (lv_at hl 2 rfl) ?_
            refine z_get C G clX12 2 rfl 10 (by decide) m_fl_RX12_17 rfl dX12_text_304 ?_
            refine lv_iload hx hb dX12_text_307 (lv_at hl 0 rfl) ?_
            refine z_ild C G 1 rfl (vp_in_nI (by omega) (by omega)) dX12_text_309 ?_
            refine lv_topi (fun v_62 ev_62 => ?_)
            rw [nI_clamp (by omega)] at ev_62
            subst ev_62
            refine z_ist C G 0 rfl (vp_in_nI (by omega) (by omega)) dX12_text_310 (fun H locs G => ?_)
            rw [nI_clamp (by omega)] at G
            have G : zS T A s.heap s [[(r_all, .inl (T.2 0, 3952, .inl (upd k (954 + j) (g j))))], [(r_read, .inl (T.2 0, 121, .inl g))], [(y, .inr (11, [.ref r_all, .ref r_has, .int 0, .int 0, .int 0, .int 0, .int 0, .int 0, .int 0, .int (-1), .ref r_read, .int 0, .int 0, .int 0, .ref r_posts, .ref r_shut, .ref r_here, .int 0, .int 0, .int 0, .int 0, .ref r_was, .ref r_came, .ref r_seenAt, .ref r_rowWorth, .ref r_farBy, .ref r_used, .int 0, .int 0, .int 0, .int 0, .int 0, .int 0, .int 0, .int 0, .int 0, .int 0, .int 0, .int 0, .ref r_fitPost, .ref r_fitEnd, .ref r_keptPosts, .int 0]))]] _ _ := G
            refine lv_iinc (v := nI (j + 1)) (lv' := [(4, .int (nI (j + 1))), (3, .int 0), (0, .ref y), (1, .int 2), (2, .int at_)]) hx hb dX12_text_311 hl (k := 0) rfl (z_inc j 1) (by decide) rfl (fun ls hl => ?_)
            refine lv_goto (tgt := 282) hx hb dX12_text_314 (by decide) ?_
            exact ih ((j + 1), (upd k (954 + j) (g j))) (show (j + 1) ≤ 17 from by omega) (show 17 - (j + 1) < 17 - j from by omega) _ _ ls G (lv_sub hl [0, 1, 2, 3, 4] rfl)
        · have c_50n : ¬ 121 ≤ i := fun q => c_50 ((nI_leI (a := 121) (b := i) (by omega) (by omega)).mpr q)
          refine lv_aload_n hx hb dX12_text_94 rfl (lv_at hl 1 rfl) ?_
          refine z_get C G clX12 0 rfl 10 (by decide) m_fl_RX12_17 rfl dX12_text_95 ?_
          refine lv_iload_n hx hb dX12_text_98 rfl (lv_at hl 0 rfl) ?_
          refine lv_iconst (v := 0) hx hb dX12_text_99 (by decide) ?_
          refine z_ist C G 2 rfl (vp_in_nI (by omega) (by omega)) dX12_text_100 (fun H locs G => ?_)
          rw [nI_clamp (by omega)] at G
          have G : zS T A s.heap s [[(y, .inr (11, [.ref r_all, .ref r_has, .int 0, .int 0, .int 0, .int 0, .int 0, .int 0, .int 0, .int (-1), .ref r_read, .int 0, .int 0, .int 0, .ref r_posts, .ref r_shut, .ref r_here, .int 0, .int 0, .int 0, .int 0, .ref r_was, .ref r_came, .ref r_seenAt, .ref r_rowWorth, .ref r_farBy, .ref r_used, .int 0, .int 0, .int 0, .int 0, .int 0, .int 0, .int 0, .int 0, .int 0, .int 0, .int 0, .int 0, .ref r_fitPost, .ref r_fitEnd, .ref r_keptPosts, .int 0]))], [(r_all, .inl (T.2 0, 3952, .inl (upd (upd (upd (upd (fun _ => 0) 6 (-1)) 4 0) 5 0) 6 (-1))))], [(r_read, .inl (T.2 0, 121, .inl (upd g i 0)))]] _ _ := G
          refine lv_iinc (v := nI (i + 1)) (lv' := [(3, .int (nI (i + 1))), (0, .ref y), (1, .int 2), (2, .int at_)]) hx hb dX12_text_101 hl (k := 0) rfl (z_inc i 1) (by decide) rfl (fun ls hl => ?_)
          refine lv_goto (tgt := 88) hx hb dX12_text_104 (by decide) ?_
          exact ih ((i + 1), (upd g i 0)) (show (i + 1) ≤ 121 ∧ (∀ j, j < (i + 1) → (upd g i 0) j = 0) from ⟨by omega, z_upd0 hz⟩) (show 121 - (i + 1) < 121 - i from by omega) _ _ ls G (lv_sub hl [0, 1, 2, 3] rfl)
  · have h_6 : (so.toInt < (0 : Int) ∨ (2 : Int) < so.toInt) := h_6
    refine lv_if_eq (tgt := 68) hx hb dX12_text_38 (by decide) (fun _ => ?_) (fun q => absurd (by decide) q)
    refine lv_bipush (v := (-2)) hx hb dX12_text_68 (by decide) ?_
    have G := G.sub (bs' := []) [] rfl
    exact z_iret C hr hlocks G (Nat.le_of_ble_eq_true rfl) (Nat.le_of_ble_eq_true rfl) dX12_text_70 ⟨rfl, (by unfold zRes; rw [if_neg (by first | omega | (intro q; exact absurd q.2.2 (by omega)))])⟩
set_option maxHeartbeats 4000000 in
set_option maxRecDepth 100000 in
/-- land: on a new object -/
theorem c_m_land (l : Launch) (T : zTy) (y : Nat) (r_all : Nat) (r_has : Nat) (r_read : Nat) (r_posts : Nat) (r_shut : Nat) (r_here : Nat) (r_was : Nat) (r_came : Nat) (r_seenAt : Nat) (r_rowWorth : Nat) (r_farBy : Nat) (r_used : Nat) (r_fitPost : Nat) (r_fitEnd : Nat) (r_keptPosts : Nat) (p1 : Int32) (p2 : Int32) : zMi l T yX12_land cX12_land 4 (some .int) 5 0 0 [.ref y, .int p1, .int p2] [[(y, .inr (11, [.ref r_all, .ref r_has, .int 0, .int 0, .int 0, .int 0, .int 0, .int 0, .int 0, .int 0, .ref r_read, .int 0, .int 0, .int 0, .ref r_posts, .ref r_shut, .ref r_here, .int 0, .int 0, .int 0, .int 0, .ref r_was, .ref r_came, .ref r_seenAt, .ref r_rowWorth, .ref r_farBy, .ref r_used, .int 0, .int 0, .int 0, .int 0, .int 0, .int 0, .int 0, .int 0, .int 0, .int 0, .int 0, .int 0, .ref r_fitPost, .ref r_fitEnd, .ref r_keptPosts, .int 0]))], [(r_all, .inl (T.2 0, 3952, .inl (upd (fun _ => 0) 6 (-1))))]] (fun (r : Int32) bs => bs = [] ∧ r = (-1)) := by
  refine zMi_of (own := RX12) (by decide) rfl (Nat.le_of_ble_eq_true rfl) ?_
  intro p e s m args below meth c A ls C hr hlocks hnm hAe G hl
  have hx := C.1
  have hb := C.2.1
  have hl : lv_has ls 4 [(0, .ref y), (1, .int p1), (2, .int p2)] := hl
  refine lv_aload_n hx hb dX12_land_0 rfl (lv_at hl 0 rfl) ?_
  refine lv_iload_n hx hb dX12_land_1 rfl (lv_at hl 1 rfl) ?_
  refine z_Vi (bc := [[(y, .inr (11, [.ref r_all, .ref r_has, .int 0, .int 0, .int 0, .int 0, .int 0, .int 0, .int 0, .int 0, .ref r_read, .int 0, .int 0, .int 0, .ref r_posts, .ref r_shut, .ref r_here, .int 0, .int 0, .int 0, .int 0, .ref r_was, .ref r_came, .ref r_seenAt, .ref r_rowWorth, .ref r_farBy, .ref r_used, .int 0, .int 0, .int 0, .int 0, .int 0, .int 0, .int 0, .int 0, .int 0, .int 0, .int 0, .int 0, .ref r_fitPost, .ref r_fitEnd, .ref r_keptPosts, .int 0]))], [(r_all, .inl (T.2 0, 3952, .inl (upd (fun _ => 0) 6 (-1))))]]) (br := []) (As := [.int p1]) (rest := []) C G (c_isLand0 l T y r_all r_has r_read r_posts r_shut r_here r_was r_came r_seenAt r_rowWorth r_farBy r_used r_fitPost r_fitEnd r_keptPosts 0 0 0 0 0 0 0 0 0 0 0 0 0 0 0 0 0 0 0 0 0 0 0 0 0 0 0 0 (upd (fun _ => 0) 6 (-1)) p1 (by first | assumption | omega | rfl)) (kV_RX12_184 C.2.2.2.2 (Nat.le_of_ble_eq_true rfl) (Nat.le_of_ble_eq_true rfl)) [0, 1] [] rfl rfl (ci := 11) (qc := (RX12, TX12, 43)) rfl rfl (List.mem_flatten.mpr ⟨_, List.mem_of_getElem? (i := 0) rfl, List.mem_cons_self⟩) rfl rfl hl.1 dX12_land_2 (Nat.le_of_ble_eq_true rfl) (Nat.le_of_ble_eq_true rfl) (fun r_2 b1 H locs hw G => ?_)
  obtain ⟨rfl, h_1⟩ := hw
  have G : zS T A s.heap s [[(y, .inr (11, [.ref r_all, .ref r_has, .int 0, .int 0, .int 0, .int 0, .int 0, .int 0, .int 0, .int 0, .ref r_read, .int 0, .int 0, .int 0, .ref r_posts, .ref r_shut, .ref r_here, .int 0, .int 0, .int 0, .int 0, .ref r_was, .ref r_came, .ref r_seenAt, .ref r_rowWorth, .ref r_farBy, .ref r_used, .int 0, .int 0, .int 0, .int 0, .int 0, .int 0, .int 0, .int 0, .int 0, .int 0, .int 0, .int 0, .ref r_fitPost, .ref r_fitEnd, .ref r_keptPosts, .int 0]))], [(r_all, .inl (T.2 0, 3952, .inl (upd (fun _ => 0) 6 (-1))))]] _ _ := G
  subst h_1
  refine lv_if_eq (tgt := 12) hx hb dX12_land_5 (by decide) (fun _ => ?_) (fun q => absurd (by decide) q)
  refine lv_iconst (v := (-1)) hx hb dX12_land_12 (by decide) ?_
  have G := G.sub (bs' := []) [] rfl
  exact z_iret C hr hlocks G (Nat.le_of_ble_eq_true rfl) (Nat.le_of_ble_eq_true rfl) dX12_land_13 ⟨rfl, rfl⟩
set_option maxHeartbeats 4000000 in
set_option maxRecDepth 100000 in
/-- deed: on a new object -/
theorem c_m_deed (l : Launch) (T : zTy) (y : Nat) (r_all : Nat) (r_has : Nat) (r_read : Nat) (r_posts : Nat) (r_shut : Nat) (r_here : Nat) (r_was : Nat) (r_came : Nat) (r_seenAt : Nat) (r_rowWorth : Nat) (r_farBy : Nat) (r_used : Nat) (r_fitPost : Nat) (r_fitEnd : Nat) (r_keptPosts : Nat) (p1 : Int32) (p2 : Int32) (p3 : Int32) : zMi l T yX12_deed cX12_deed 4 (some .int) 5 0 0 [.ref y, .int p1, .int p2, .int p3] [[(y, .inr (11, [.ref r_all, .ref r_has, .int 0, .int 0, .int 0, .int 0, .int 0, .int 0, .int 0, .int 0, .ref r_read, .int 0, .int 0, .int 0, .ref r_posts, .ref r_shut, .ref r_here, .int 0, .int 0, .int 0, .int 0, .ref r_was, .ref r_came, .ref r_seenAt, .ref r_rowWorth, .ref r_farBy, .ref r_used, .int 0, .int 0, .int 0, .int 0, .int 0, .int 0, .int 0, .int 0, .int 0, .int 0, .int 0, .int 0, .ref r_fitPost, .ref r_fitEnd, .ref r_keptPosts, .int 0]))], [(r_all, .inl (T.2 0, 3952, .inl (upd (fun _ => 0) 6 (-1))))]] (fun (r : Int32) bs => bs = [] ∧ r = (-2)) := by
  refine zMi_of (own := RX12) (by decide) rfl (Nat.le_of_ble_eq_true rfl) ?_
  intro p e s m args below meth c A ls C hr hlocks hnm hAe G hl
  have hx := C.1
  have hb := C.2.1
  have hl : lv_has ls 4 [(0, .ref y), (1, .int p1), (2, .int p2), (3, .int p3)] := hl
  refine lv_aload_n hx hb dX12_deed_0 rfl (lv_at hl 0 rfl) ?_
  refine lv_iload_n hx hb dX12_deed_1 rfl (lv_at hl 1 rfl) ?_
  refine z_Vi (bc := [[(y, .inr (11, [.ref r_all, .ref r_has, .int 0, .int 0, .int 0, .int 0, .int 0, .int 0, .int 0, .int 0, .ref r_read, .int 0, .int 0, .int 0, .ref r_posts, .ref r_shut, .ref r_here, .int 0, .int 0, .int 0, .int 0, .ref r_was, .ref r_came, .ref r_seenAt, .ref r_rowWorth, .ref r_farBy, .ref r_used, .int 0, .int 0, .int 0, .int 0, .int 0, .int 0, .int 0, .int 0, .int 0, .int 0, .int 0, .int 0, .ref r_fitPost, .ref r_fitEnd, .ref r_keptPosts, .int 0]))], [(r_all, .inl (T.2 0, 3952, .inl (upd (fun _ => 0) 6 (-1))))]]) (br := []) (As := [.int p1]) (rest := []) C G (c_isDay0 l T y r_all r_has r_read r_posts r_shut r_here r_was r_came r_seenAt r_rowWorth r_farBy r_used r_fitPost r_fitEnd r_keptPosts 0 0 0 0 0 0 0 0 0 0 0 0 0 0 0 0 0 0 0 0 0 0 0 0 0 0 0 0 (upd (fun _ => 0) 6 (-1)) p1 (by first | assumption | omega | rfl)) (kV_RX12_305 C.2.2.2.2 (Nat.le_of_ble_eq_true rfl) (Nat.le_of_ble_eq_true rfl)) [0, 1] [] rfl rfl (ci := 11) (qc := (RX12, TX12, 43)) rfl rfl (List.mem_flatten.mpr ⟨_, List.mem_of_getElem? (i := 0) rfl, List.mem_cons_self⟩) rfl rfl hl.1 dX12_deed_2 (Nat.le_of_ble_eq_true rfl) (Nat.le_of_ble_eq_true rfl) (fun r_2 b1 H locs hw G => ?_)
  obtain ⟨rfl, h_1⟩ := hw
  have G : zS T A s.heap s [[(y, .inr (11, [.ref r_all, .ref r_has, .int 0, .int 0, .int 0, .int 0, .int 0, .int 0, .int 0, .int 0, .ref r_read, .int 0, .int 0, .int 0, .ref r_posts, .ref r_shut, .ref r_here, .int 0, .int 0, .int 0, .int 0, .ref r_was, .ref r_came, .ref r_seenAt, .ref r_rowWorth, .ref r_farBy, .ref r_used, .int 0, .int 0, .int 0, .int 0, .int 0, .int 0, .int 0, .int 0, .int 0, .int 0, .int 0, .int 0, .ref r_fitPost, .ref r_fitEnd, .ref r_keptPosts, .int 0]))], [(r_all, .inl (T.2 0, 3952, .inl (upd (fun _ => 0) 6 (-1))))]] _ _ := G
  subst h_1
  refine lv_if_ne (tgt := 11) hx hb dX12_deed_5 (by decide) (fun q => absurd (by decide) q) (fun _ => ?_)
  refine lv_bipush (v := (-2)) hx hb dX12_deed_8 (by decide) ?_
  have G := G.sub (bs' := []) [] rfl
  exact z_iret C hr hlocks G (Nat.le_of_ble_eq_true rfl) (Nat.le_of_ble_eq_true rfl) dX12_deed_10 ⟨rfl, rfl⟩
set_option maxHeartbeats 4000000 in
set_option maxRecDepth 100000 in
/-- stop: on a new object -/
theorem c_m_stop (l : Launch) (T : zTy) (y : Nat) (r_all : Nat) (r_has : Nat) (r_read : Nat) (r_posts : Nat) (r_shut : Nat) (r_here : Nat) (r_was : Nat) (r_came : Nat) (r_seenAt : Nat) (r_rowWorth : Nat) (r_farBy : Nat) (r_used : Nat) (r_fitPost : Nat) (r_fitEnd : Nat) (r_keptPosts : Nat) (p1 : Int32) (p2 : Int32) : zMi l T yX12_stop cX12_stop 3 (some .int) 5 0 0 [.ref y, .int p1, .int p2] [[(y, .inr (11, [.ref r_all, .ref r_has, .int 0, .int 0, .int 0, .int 0, .int 0, .int 0, .int 0, .int 0, .ref r_read, .int 0, .int 0, .int 0, .ref r_posts, .ref r_shut, .ref r_here, .int 0, .int 0, .int 0, .int 0, .ref r_was, .ref r_came, .ref r_seenAt, .ref r_rowWorth, .ref r_farBy, .ref r_used, .int 0, .int 0, .int 0, .int 0, .int 0, .int 0, .int 0, .int 0, .int 0, .int 0, .int 0, .int 0, .ref r_fitPost, .ref r_fitEnd, .ref r_keptPosts, .int 0]))], [(r_all, .inl (T.2 0, 3952, .inl (upd (fun _ => 0) 6 (-1))))]] (fun (r : Int32) bs => bs = [] ∧ r = (-1)) := by
  refine zMi_of (own := RX12) (by decide) rfl (Nat.le_of_ble_eq_true rfl) ?_
  intro p e s m args below meth c A ls C hr hlocks hnm hAe G hl
  have hx := C.1
  have hb := C.2.1
  have hl : lv_has ls 3 [(0, .ref y), (1, .int p1), (2, .int p2)] := hl
  refine lv_aload_n hx hb dX12_stop_0 rfl (lv_at hl 0 rfl) ?_
  refine lv_iload_n hx hb dX12_stop_1 rfl (lv_at hl 1 rfl) ?_
  refine z_Vi (bc := [[(y, .inr (11, [.ref r_all, .ref r_has, .int 0, .int 0, .int 0, .int 0, .int 0, .int 0, .int 0, .int 0, .ref r_read, .int 0, .int 0, .int 0, .ref r_posts, .ref r_shut, .ref r_here, .int 0, .int 0, .int 0, .int 0, .ref r_was, .ref r_came, .ref r_seenAt, .ref r_rowWorth, .ref r_farBy, .ref r_used, .int 0, .int 0, .int 0, .int 0, .int 0, .int 0, .int 0, .int 0, .int 0, .int 0, .int 0, .int 0, .ref r_fitPost, .ref r_fitEnd, .ref r_keptPosts, .int 0]))], [(r_all, .inl (T.2 0, 3952, .inl (upd (fun _ => 0) 6 (-1))))]]) (br := []) (As := [.int p1]) (rest := []) C G (c_isLand0 l T y r_all r_has r_read r_posts r_shut r_here r_was r_came r_seenAt r_rowWorth r_farBy r_used r_fitPost r_fitEnd r_keptPosts 0 0 0 0 0 0 0 0 0 0 0 0 0 0 0 0 0 0 0 0 0 0 0 0 0 0 0 0 (upd (fun _ => 0) 6 (-1)) p1 (by first | assumption | omega | rfl)) (kV_RX12_184 C.2.2.2.2 (Nat.le_of_ble_eq_true rfl) (Nat.le_of_ble_eq_true rfl)) [0, 1] [] rfl rfl (ci := 11) (qc := (RX12, TX12, 43)) rfl rfl (List.mem_flatten.mpr ⟨_, List.mem_of_getElem? (i := 0) rfl, List.mem_cons_self⟩) rfl rfl hl.1 dX12_stop_2 (Nat.le_of_ble_eq_true rfl) (Nat.le_of_ble_eq_true rfl) (fun r_2 b1 H locs hw G => ?_)
  obtain ⟨rfl, h_1⟩ := hw
  have G : zS T A s.heap s [[(y, .inr (11, [.ref r_all, .ref r_has, .int 0, .int 0, .int 0, .int 0, .int 0, .int 0, .int 0, .int 0, .ref r_read, .int 0, .int 0, .int 0, .ref r_posts, .ref r_shut, .ref r_here, .int 0, .int 0, .int 0, .int 0, .ref r_was, .ref r_came, .ref r_seenAt, .ref r_rowWorth, .ref r_farBy, .ref r_used, .int 0, .int 0, .int 0, .int 0, .int 0, .int 0, .int 0, .int 0, .int 0, .int 0, .int 0, .int 0, .ref r_fitPost, .ref r_fitEnd, .ref r_keptPosts, .int 0]))], [(r_all, .inl (T.2 0, 3952, .inl (upd (fun _ => 0) 6 (-1))))]] _ _ := G
  subst h_1
  refine lv_if_eq (tgt := 16) hx hb dX12_stop_5 (by decide) (fun _ => ?_) (fun q => absurd (by decide) q)
  refine lv_iconst (v := (-1)) hx hb dX12_stop_16 (by decide) ?_
  have G := G.sub (bs' := []) [] rfl
  exact z_iret C hr hlocks G (Nat.le_of_ble_eq_true rfl) (Nat.le_of_ble_eq_true rfl) dX12_stop_17 ⟨rfl, rfl⟩
set_option maxHeartbeats 4000000 in
set_option maxRecDepth 100000 in
/-- state: on a new object -/
theorem c_m_state (l : Launch) (T : zTy) (y : Nat) (r_all : Nat) (r_has : Nat) (r_read : Nat) (r_posts : Nat) (r_shut : Nat) (r_here : Nat) (r_was : Nat) (r_came : Nat) (r_seenAt : Nat) (r_rowWorth : Nat) (r_farBy : Nat) (r_used : Nat) (r_fitPost : Nat) (r_fitEnd : Nat) (r_keptPosts : Nat) (p1 : Int32) (p2 : Int32) (p3 : Int32) (p4 : Int32) : zMi l T yX12_state cX12_state 5 (some .int) 5 0 0 [.ref y, .int p1, .int p2, .int p3, .int p4] [[(y, .inr (11, [.ref r_all, .ref r_has, .int 0, .int 0, .int 0, .int 0, .int 0, .int 0, .int 0, .int 0, .ref r_read, .int 0, .int 0, .int 0, .ref r_posts, .ref r_shut, .ref r_here, .int 0, .int 0, .int 0, .int 0, .ref r_was, .ref r_came, .ref r_seenAt, .ref r_rowWorth, .ref r_farBy, .ref r_used, .int 0, .int 0, .int 0, .int 0, .int 0, .int 0, .int 0, .int 0, .int 0, .int 0, .int 0, .int 0, .ref r_fitPost, .ref r_fitEnd, .ref r_keptPosts, .int 0]))], [(r_all, .inl (T.2 0, 3952, .inl (upd (fun _ => 0) 6 (-1))))]] (fun (r : Int32) bs => bs = [] ∧ r = (-2)) := by
  refine zMi_of (own := RX12) (by decide) rfl (Nat.le_of_ble_eq_true rfl) ?_
  intro p e s m args below meth c A ls C hr hlocks hnm hAe G hl
  have hx := C.1
  have hb := C.2.1
  have hl : lv_has ls 5 [(0, .ref y), (1, .int p1), (2, .int p2), (3, .int p3), (4, .int p4)] := hl
  refine lv_aload_n hx hb dX12_state_0 rfl (lv_at hl 0 rfl) ?_
  refine lv_iload_n hx hb dX12_state_1 rfl (lv_at hl 1 rfl) ?_
  refine z_Vi (bc := [[(y, .inr (11, [.ref r_all, .ref r_has, .int 0, .int 0, .int 0, .int 0, .int 0, .int 0, .int 0, .int 0, .ref r_read, .int 0, .int 0, .int 0, .ref r_posts, .ref r_shut, .ref r_here, .int 0, .int 0, .int 0, .int 0, .ref r_was, .ref r_came, .ref r_seenAt, .ref r_rowWorth, .ref r_farBy, .ref r_used, .int 0, .int 0, .int 0, .int 0, .int 0, .int 0, .int 0, .int 0, .int 0, .int 0, .int 0, .int 0, .ref r_fitPost, .ref r_fitEnd, .ref r_keptPosts, .int 0]))], [(r_all, .inl (T.2 0, 3952, .inl (upd (fun _ => 0) 6 (-1))))]]) (br := []) (As := [.int p1]) (rest := []) C G (c_isLand0 l T y r_all r_has r_read r_posts r_shut r_here r_was r_came r_seenAt r_rowWorth r_farBy r_used r_fitPost r_fitEnd r_keptPosts 0 0 0 0 0 0 0 0 0 0 0 0 0 0 0 0 0 0 0 0 0 0 0 0 0 0 0 0 (upd (fun _ => 0) 6 (-1)) p1 (by first | assumption | omega | rfl)) (kV_RX12_184 C.2.2.2.2 (Nat.le_of_ble_eq_true rfl) (Nat.le_of_ble_eq_true rfl)) [0, 1] [] rfl rfl (ci := 11) (qc := (RX12, TX12, 43)) rfl rfl (List.mem_flatten.mpr ⟨_, List.mem_of_getElem? (i := 0) rfl, List.mem_cons_self⟩) rfl rfl hl.1 dX12_state_2 (Nat.le_of_ble_eq_true rfl) (Nat.le_of_ble_eq_true rfl) (fun r_2 b1 H locs hw G => ?_)
  obtain ⟨rfl, h_1⟩ := hw
  have G : zS T A s.heap s [[(y, .inr (11, [.ref r_all, .ref r_has, .int 0, .int 0, .int 0, .int 0, .int 0, .int 0, .int 0, .int 0, .ref r_read, .int 0, .int 0, .int 0, .ref r_posts, .ref r_shut, .ref r_here, .int 0, .int 0, .int 0, .int 0, .ref r_was, .ref r_came, .ref r_seenAt, .ref r_rowWorth, .ref r_farBy, .ref r_used, .int 0, .int 0, .int 0, .int 0, .int 0, .int 0, .int 0, .int 0, .int 0, .int 0, .int 0, .int 0, .ref r_fitPost, .ref r_fitEnd, .ref r_keptPosts, .int 0]))], [(r_all, .inl (T.2 0, 3952, .inl (upd (fun _ => 0) 6 (-1))))]] _ _ := G
  subst h_1
  refine lv_if_eq (tgt := 20) hx hb dX12_state_5 (by decide) (fun _ => ?_) (fun q => absurd (by decide) q)
  refine lv_bipush (v := (-2)) hx hb dX12_state_20 (by decide) ?_
  have G := G.sub (bs' := []) [] rfl
  exact z_iret C hr hlocks G (Nat.le_of_ble_eq_true rfl) (Nat.le_of_ble_eq_true rfl) dX12_state_22 ⟨rfl, rfl⟩
set_option maxHeartbeats 4000000 in
set_option maxRecDepth 100000 in
/-- walk: on a new object -/
theorem c_m_walk (l : Launch) (T : zTy) (y : Nat) (r_all : Nat) (r_has : Nat) (r_read : Nat) (r_posts : Nat) (r_shut : Nat) (r_here : Nat) (r_was : Nat) (r_came : Nat) (r_seenAt : Nat) (r_rowWorth : Nat) (r_farBy : Nat) (r_used : Nat) (r_fitPost : Nat) (r_fitEnd : Nat) (r_keptPosts : Nat) (p1 : Int32) (p2 : Int32) (p3 : Int32) : zMi l T yX12_walk cX12_walk 5 (some .int) 5 0 0 [.ref y, .int p1, .int p2, .int p3] [[(y, .inr (11, [.ref r_all, .ref r_has, .int 0, .int 0, .int 0, .int 0, .int 0, .int 0, .int 0, .int 0, .ref r_read, .int 0, .int 0, .int 0, .ref r_posts, .ref r_shut, .ref r_here, .int 0, .int 0, .int 0, .int 0, .ref r_was, .ref r_came, .ref r_seenAt, .ref r_rowWorth, .ref r_farBy, .ref r_used, .int 0, .int 0, .int 0, .int 0, .int 0, .int 0, .int 0, .int 0, .int 0, .int 0, .int 0, .int 0, .ref r_fitPost, .ref r_fitEnd, .ref r_keptPosts, .int 0]))], [(r_all, .inl (T.2 0, 3952, .inl (upd (fun _ => 0) 6 (-1))))]] (fun (r : Int32) bs => bs = [] ∧ r = (-2)) := by
  refine zMi_of (own := RX12) (by decide) rfl (Nat.le_of_ble_eq_true rfl) ?_
  intro p e s m args below meth c A ls C hr hlocks hnm hAe G hl
  have hx := C.1
  have hb := C.2.1
  have hl : lv_has ls 5 [(0, .ref y), (1, .int p1), (2, .int p2), (3, .int p3)] := hl
  refine lv_aload_n hx hb dX12_walk_0 rfl (lv_at hl 0 rfl) ?_
  refine lv_iload_n hx hb dX12_walk_1 rfl (lv_at hl 1 rfl) ?_
  refine z_Vi (bc := [[(y, .inr (11, [.ref r_all, .ref r_has, .int 0, .int 0, .int 0, .int 0, .int 0, .int 0, .int 0, .int 0, .ref r_read, .int 0, .int 0, .int 0, .ref r_posts, .ref r_shut, .ref r_here, .int 0, .int 0, .int 0, .int 0, .ref r_was, .ref r_came, .ref r_seenAt, .ref r_rowWorth, .ref r_farBy, .ref r_used, .int 0, .int 0, .int 0, .int 0, .int 0, .int 0, .int 0, .int 0, .int 0, .int 0, .int 0, .int 0, .ref r_fitPost, .ref r_fitEnd, .ref r_keptPosts, .int 0]))], [(r_all, .inl (T.2 0, 3952, .inl (upd (fun _ => 0) 6 (-1))))]]) (br := []) (As := [.int p1]) (rest := []) C G (c_isLand0 l T y r_all r_has r_read r_posts r_shut r_here r_was r_came r_seenAt r_rowWorth r_farBy r_used r_fitPost r_fitEnd r_keptPosts 0 0 0 0 0 0 0 0 0 0 0 0 0 0 0 0 0 0 0 0 0 0 0 0 0 0 0 0 (upd (fun _ => 0) 6 (-1)) p1 (by first | assumption | omega | rfl)) (kV_RX12_184 C.2.2.2.2 (Nat.le_of_ble_eq_true rfl) (Nat.le_of_ble_eq_true rfl)) [0, 1] [] rfl rfl (ci := 11) (qc := (RX12, TX12, 43)) rfl rfl (List.mem_flatten.mpr ⟨_, List.mem_of_getElem? (i := 0) rfl, List.mem_cons_self⟩) rfl rfl hl.1 dX12_walk_2 (Nat.le_of_ble_eq_true rfl) (Nat.le_of_ble_eq_true rfl) (fun r_2 b1 H locs hw G => ?_)
  obtain ⟨rfl, h_1⟩ := hw
  have G : zS T A s.heap s [[(y, .inr (11, [.ref r_all, .ref r_has, .int 0, .int 0, .int 0, .int 0, .int 0, .int 0, .int 0, .int 0, .ref r_read, .int 0, .int 0, .int 0, .ref r_posts, .ref r_shut, .ref r_here, .int 0, .int 0, .int 0, .int 0, .ref r_was, .ref r_came, .ref r_seenAt, .ref r_rowWorth, .ref r_farBy, .ref r_used, .int 0, .int 0, .int 0, .int 0, .int 0, .int 0, .int 0, .int 0, .int 0, .int 0, .int 0, .int 0, .ref r_fitPost, .ref r_fitEnd, .ref r_keptPosts, .int 0]))], [(r_all, .inl (T.2 0, 3952, .inl (upd (fun _ => 0) 6 (-1))))]] _ _ := G
  subst h_1
  refine lv_if_eq (tgt := 16) hx hb dX12_walk_5 (by decide) (fun _ => ?_) (fun q => absurd (by decide) q)
  refine lv_bipush (v := (-2)) hx hb dX12_walk_16 (by decide) ?_
  have G := G.sub (bs' := []) [] rfl
  exact z_iret C hr hlocks G (Nat.le_of_ble_eq_true rfl) (Nat.le_of_ble_eq_true rfl) dX12_walk_18 ⟨rfl, rfl⟩
set_option maxHeartbeats 4000000 in
set_option maxRecDepth 100000 in
/-- endOf: on a new object -/
theorem c_m_endOf (l : Launch) (T : zTy) (y : Nat) (r_all : Nat) (r_has : Nat) (r_read : Nat) (r_posts : Nat) (r_shut : Nat) (r_here : Nat) (r_was : Nat) (r_came : Nat) (r_seenAt : Nat) (r_rowWorth : Nat) (r_farBy : Nat) (r_used : Nat) (r_fitPost : Nat) (r_fitEnd : Nat) (r_keptPosts : Nat) (p1 : Int32) (p2 : Int32) : zMi l T yX12_endOf cX12_endOf 5 (some .int) 5 0 0 [.ref y, .int p1, .int p2] [[(y, .inr (11, [.ref r_all, .ref r_has, .int 0, .int 0, .int 0, .int 0, .int 0, .int 0, .int 0, .int 0, .ref r_read, .int 0, .int 0, .int 0, .ref r_posts, .ref r_shut, .ref r_here, .int 0, .int 0, .int 0, .int 0, .ref r_was, .ref r_came, .ref r_seenAt, .ref r_rowWorth, .ref r_farBy, .ref r_used, .int 0, .int 0, .int 0, .int 0, .int 0, .int 0, .int 0, .int 0, .int 0, .int 0, .int 0, .int 0, .ref r_fitPost, .ref r_fitEnd, .ref r_keptPosts, .int 0]))], [(r_all, .inl (T.2 0, 3952, .inl (upd (fun _ => 0) 6 (-1))))]] (fun (r : Int32) bs => bs = [] ∧ r = (-2)) := by
  refine zMi_of (own := RX12) (by decide) rfl (Nat.le_of_ble_eq_true rfl) ?_
  intro p e s m args below meth c A ls C hr hlocks hnm hAe G hl
  have hx := C.1
  have hb := C.2.1
  have hl : lv_has ls 5 [(0, .ref y), (1, .int p1), (2, .int p2)] := hl
  refine lv_aload_n hx hb dX12_endOf_0 rfl (lv_at hl 0 rfl) ?_
  refine lv_iload_n hx hb dX12_endOf_1 rfl (lv_at hl 1 rfl) ?_
  refine z_Vi (bc := [[(y, .inr (11, [.ref r_all, .ref r_has, .int 0, .int 0, .int 0, .int 0, .int 0, .int 0, .int 0, .int 0, .ref r_read, .int 0, .int 0, .int 0, .ref r_posts, .ref r_shut, .ref r_here, .int 0, .int 0, .int 0, .int 0, .ref r_was, .ref r_came, .ref r_seenAt, .ref r_rowWorth, .ref r_farBy, .ref r_used, .int 0, .int 0, .int 0, .int 0, .int 0, .int 0, .int 0, .int 0, .int 0, .int 0, .int 0, .int 0, .ref r_fitPost, .ref r_fitEnd, .ref r_keptPosts, .int 0]))], [(r_all, .inl (T.2 0, 3952, .inl (upd (fun _ => 0) 6 (-1))))]]) (br := []) (As := [.int p1]) (rest := []) C G (c_isLand0 l T y r_all r_has r_read r_posts r_shut r_here r_was r_came r_seenAt r_rowWorth r_farBy r_used r_fitPost r_fitEnd r_keptPosts 0 0 0 0 0 0 0 0 0 0 0 0 0 0 0 0 0 0 0 0 0 0 0 0 0 0 0 0 (upd (fun _ => 0) 6 (-1)) p1 (by first | assumption | omega | rfl)) (kV_RX12_184 C.2.2.2.2 (Nat.le_of_ble_eq_true rfl) (Nat.le_of_ble_eq_true rfl)) [0, 1] [] rfl rfl (ci := 11) (qc := (RX12, TX12, 43)) rfl rfl (List.mem_flatten.mpr ⟨_, List.mem_of_getElem? (i := 0) rfl, List.mem_cons_self⟩) rfl rfl hl.1 dX12_endOf_2 (Nat.le_of_ble_eq_true rfl) (Nat.le_of_ble_eq_true rfl) (fun r_2 b1 H locs hw G => ?_)
  obtain ⟨rfl, h_1⟩ := hw
  have G : zS T A s.heap s [[(y, .inr (11, [.ref r_all, .ref r_has, .int 0, .int 0, .int 0, .int 0, .int 0, .int 0, .int 0, .int 0, .ref r_read, .int 0, .int 0, .int 0, .ref r_posts, .ref r_shut, .ref r_here, .int 0, .int 0, .int 0, .int 0, .ref r_was, .ref r_came, .ref r_seenAt, .ref r_rowWorth, .ref r_farBy, .ref r_used, .int 0, .int 0, .int 0, .int 0, .int 0, .int 0, .int 0, .int 0, .int 0, .int 0, .int 0, .int 0, .ref r_fitPost, .ref r_fitEnd, .ref r_keptPosts, .int 0]))], [(r_all, .inl (T.2 0, 3952, .inl (upd (fun _ => 0) 6 (-1))))]] _ _ := G
  subst h_1
  refine lv_if_ne (tgt := 11) hx hb dX12_endOf_5 (by decide) (fun q => absurd (by decide) q) (fun _ => ?_)
  refine lv_bipush (v := (-2)) hx hb dX12_endOf_8 (by decide) ?_
  have G := G.sub (bs' := []) [] rfl
  exact z_iret C hr hlocks G (Nat.le_of_ble_eq_true rfl) (Nat.le_of_ble_eq_true rfl) dX12_endOf_10 ⟨rfl, rfl⟩
set_option maxHeartbeats 4000000 in
set_option maxRecDepth 100000 in
/-- come: on a new object -/
theorem c_m_come (l : Launch) (T : zTy) (y : Nat) (r_all : Nat) (r_has : Nat) (r_read : Nat) (r_posts : Nat) (r_shut : Nat) (r_here : Nat) (r_was : Nat) (r_came : Nat) (r_seenAt : Nat) (r_rowWorth : Nat) (r_farBy : Nat) (r_used : Nat) (r_fitPost : Nat) (r_fitEnd : Nat) (r_keptPosts : Nat) (p1 : Int32) (p2 : Int32) (p3 : Int32) : zMi l T yX12_come cX12_come 5 (some .int) 5 0 0 [.ref y, .int p1, .int p2, .int p3] [[(y, .inr (11, [.ref r_all, .ref r_has, .int 0, .int 0, .int 0, .int 0, .int 0, .int 0, .int 0, .int 0, .ref r_read, .int 0, .int 0, .int 0, .ref r_posts, .ref r_shut, .ref r_here, .int 0, .int 0, .int 0, .int 0, .ref r_was, .ref r_came, .ref r_seenAt, .ref r_rowWorth, .ref r_farBy, .ref r_used, .int 0, .int 0, .int 0, .int 0, .int 0, .int 0, .int 0, .int 0, .int 0, .int 0, .int 0, .int 0, .ref r_fitPost, .ref r_fitEnd, .ref r_keptPosts, .int 0]))], [(r_all, .inl (T.2 0, 3952, .inl (upd (fun _ => 0) 6 (-1))))]] (fun (r : Int32) bs => bs = [] ∧ r = (-1)) := by
  refine zMi_of (own := RX12) (by decide) rfl (Nat.le_of_ble_eq_true rfl) ?_
  intro p e s m args below meth c A ls C hr hlocks hnm hAe G hl
  have hx := C.1
  have hb := C.2.1
  have hl : lv_has ls 5 [(0, .ref y), (1, .int p1), (2, .int p2), (3, .int p3)] := hl
  refine lv_aload_n hx hb dX12_come_0 rfl (lv_at hl 0 rfl) ?_
  refine lv_iload_n hx hb dX12_come_1 rfl (lv_at hl 1 rfl) ?_
  refine z_Vi (bc := [[(y, .inr (11, [.ref r_all, .ref r_has, .int 0, .int 0, .int 0, .int 0, .int 0, .int 0, .int 0, .int 0, .ref r_read, .int 0, .int 0, .int 0, .ref r_posts, .ref r_shut, .ref r_here, .int 0, .int 0, .int 0, .int 0, .ref r_was, .ref r_came, .ref r_seenAt, .ref r_rowWorth, .ref r_farBy, .ref r_used, .int 0, .int 0, .int 0, .int 0, .int 0, .int 0, .int 0, .int 0, .int 0, .int 0, .int 0, .int 0, .ref r_fitPost, .ref r_fitEnd, .ref r_keptPosts, .int 0]))], [(r_all, .inl (T.2 0, 3952, .inl (upd (fun _ => 0) 6 (-1))))]]) (br := []) (As := [.int p1]) (rest := []) C G (c_isLand0 l T y r_all r_has r_read r_posts r_shut r_here r_was r_came r_seenAt r_rowWorth r_farBy r_used r_fitPost r_fitEnd r_keptPosts 0 0 0 0 0 0 0 0 0 0 0 0 0 0 0 0 0 0 0 0 0 0 0 0 0 0 0 0 (upd (fun _ => 0) 6 (-1)) p1 (by first | assumption | omega | rfl)) (kV_RX12_184 C.2.2.2.2 (Nat.le_of_ble_eq_true rfl) (Nat.le_of_ble_eq_true rfl)) [0, 1] [] rfl rfl (ci := 11) (qc := (RX12, TX12, 43)) rfl rfl (List.mem_flatten.mpr ⟨_, List.mem_of_getElem? (i := 0) rfl, List.mem_cons_self⟩) rfl rfl hl.1 dX12_come_2 (Nat.le_of_ble_eq_true rfl) (Nat.le_of_ble_eq_true rfl) (fun r_2 b1 H locs hw G => ?_)
  obtain ⟨rfl, h_1⟩ := hw
  have G : zS T A s.heap s [[(y, .inr (11, [.ref r_all, .ref r_has, .int 0, .int 0, .int 0, .int 0, .int 0, .int 0, .int 0, .int 0, .ref r_read, .int 0, .int 0, .int 0, .ref r_posts, .ref r_shut, .ref r_here, .int 0, .int 0, .int 0, .int 0, .ref r_was, .ref r_came, .ref r_seenAt, .ref r_rowWorth, .ref r_farBy, .ref r_used, .int 0, .int 0, .int 0, .int 0, .int 0, .int 0, .int 0, .int 0, .int 0, .int 0, .int 0, .int 0, .ref r_fitPost, .ref r_fitEnd, .ref r_keptPosts, .int 0]))], [(r_all, .inl (T.2 0, 3952, .inl (upd (fun _ => 0) 6 (-1))))]] _ _ := G
  subst h_1
  refine lv_if_eq (tgt := 26) hx hb dX12_come_5 (by decide) (fun _ => ?_) (fun q => absurd (by decide) q)
  refine lv_iconst (v := (-1)) hx hb dX12_come_26 (by decide) ?_
  have G := G.sub (bs' := []) [] rfl
  exact z_iret C hr hlocks G (Nat.le_of_ble_eq_true rfl) (Nat.le_of_ble_eq_true rfl) dX12_come_27 ⟨rfl, rfl⟩
set_option maxHeartbeats 4000000 in
set_option maxRecDepth 100000 in
/-- period: on a new object -/
theorem c_m_period (l : Launch) (T : zTy) (y : Nat) (r_all : Nat) (r_has : Nat) (r_read : Nat) (r_posts : Nat) (r_shut : Nat) (r_here : Nat) (r_was : Nat) (r_came : Nat) (r_seenAt : Nat) (r_rowWorth : Nat) (r_farBy : Nat) (r_used : Nat) (r_fitPost : Nat) (r_fitEnd : Nat) (r_keptPosts : Nat) (p1 : Int32) (p2 : Int32) (p3 : Int32) : zMi l T yX12_period cX12_period 6 (some .int) 5 0 0 [.ref y, .int p1, .int p2, .int p3] [[(y, .inr (11, [.ref r_all, .ref r_has, .int 0, .int 0, .int 0, .int 0, .int 0, .int 0, .int 0, .int 0, .ref r_read, .int 0, .int 0, .int 0, .ref r_posts, .ref r_shut, .ref r_here, .int 0, .int 0, .int 0, .int 0, .ref r_was, .ref r_came, .ref r_seenAt, .ref r_rowWorth, .ref r_farBy, .ref r_used, .int 0, .int 0, .int 0, .int 0, .int 0, .int 0, .int 0, .int 0, .int 0, .int 0, .int 0, .int 0, .ref r_fitPost, .ref r_fitEnd, .ref r_keptPosts, .int 0]))], [(r_all, .inl (T.2 0, 3952, .inl (upd (fun _ => 0) 6 (-1))))]] (fun (r : Int32) bs => bs = [] ∧ r = (-1)) := by
  refine zMi_of (own := RX12) (by decide) rfl (Nat.le_of_ble_eq_true rfl) ?_
  intro p e s m args below meth c A ls C hr hlocks hnm hAe G hl
  have hx := C.1
  have hb := C.2.1
  have hl : lv_has ls 6 [(0, .ref y), (1, .int p1), (2, .int p2), (3, .int p3)] := hl
  refine lv_aload_n hx hb dX12_period_0 rfl (lv_at hl 0 rfl) ?_
  refine lv_iload_n hx hb dX12_period_1 rfl (lv_at hl 1 rfl) ?_
  refine z_Vi (bc := [[(y, .inr (11, [.ref r_all, .ref r_has, .int 0, .int 0, .int 0, .int 0, .int 0, .int 0, .int 0, .int 0, .ref r_read, .int 0, .int 0, .int 0, .ref r_posts, .ref r_shut, .ref r_here, .int 0, .int 0, .int 0, .int 0, .ref r_was, .ref r_came, .ref r_seenAt, .ref r_rowWorth, .ref r_farBy, .ref r_used, .int 0, .int 0, .int 0, .int 0, .int 0, .int 0, .int 0, .int 0, .int 0, .int 0, .int 0, .int 0, .ref r_fitPost, .ref r_fitEnd, .ref r_keptPosts, .int 0]))], [(r_all, .inl (T.2 0, 3952, .inl (upd (fun _ => 0) 6 (-1))))]]) (br := []) (As := [.int p1]) (rest := []) C G (c_isLand0 l T y r_all r_has r_read r_posts r_shut r_here r_was r_came r_seenAt r_rowWorth r_farBy r_used r_fitPost r_fitEnd r_keptPosts 0 0 0 0 0 0 0 0 0 0 0 0 0 0 0 0 0 0 0 0 0 0 0 0 0 0 0 0 (upd (fun _ => 0) 6 (-1)) p1 (by first | assumption | omega | rfl)) (kV_RX12_184 C.2.2.2.2 (Nat.le_of_ble_eq_true rfl) (Nat.le_of_ble_eq_true rfl)) [0, 1] [] rfl rfl (ci := 11) (qc := (RX12, TX12, 43)) rfl rfl (List.mem_flatten.mpr ⟨_, List.mem_of_getElem? (i := 0) rfl, List.mem_cons_self⟩) rfl rfl hl.1 dX12_period_2 (Nat.le_of_ble_eq_true rfl) (Nat.le_of_ble_eq_true rfl) (fun r_2 b1 H locs hw G => ?_)
  obtain ⟨rfl, h_1⟩ := hw
  have G : zS T A s.heap s [[(y, .inr (11, [.ref r_all, .ref r_has, .int 0, .int 0, .int 0, .int 0, .int 0, .int 0, .int 0, .int 0, .ref r_read, .int 0, .int 0, .int 0, .ref r_posts, .ref r_shut, .ref r_here, .int 0, .int 0, .int 0, .int 0, .ref r_was, .ref r_came, .ref r_seenAt, .ref r_rowWorth, .ref r_farBy, .ref r_used, .int 0, .int 0, .int 0, .int 0, .int 0, .int 0, .int 0, .int 0, .int 0, .int 0, .int 0, .int 0, .ref r_fitPost, .ref r_fitEnd, .ref r_keptPosts, .int 0]))], [(r_all, .inl (T.2 0, 3952, .inl (upd (fun _ => 0) 6 (-1))))]] _ _ := G
  subst h_1
  refine lv_if_eq (tgt := 16) hx hb dX12_period_5 (by decide) (fun _ => ?_) (fun q => absurd (by decide) q)
  refine lv_iconst (v := (-1)) hx hb dX12_period_16 (by decide) ?_
  have G := G.sub (bs' := []) [] rfl
  exact z_iret C hr hlocks G (Nat.le_of_ble_eq_true rfl) (Nat.le_of_ble_eq_true rfl) dX12_period_17 ⟨rfl, rfl⟩
set_option maxHeartbeats 4000000 in
set_option maxRecDepth 100000 in
/-- set: on a new object -/
theorem c_m_set (l : Launch) (T : zTy) (y : Nat) (r_all : Nat) (r_has : Nat) (r_read : Nat) (r_posts : Nat) (r_shut : Nat) (r_here : Nat) (r_was : Nat) (r_came : Nat) (r_seenAt : Nat) (r_rowWorth : Nat) (r_farBy : Nat) (r_used : Nat) (r_fitPost : Nat) (r_fitEnd : Nat) (r_keptPosts : Nat) (p1 : Int32) (p2 : Int32) (p3 : Int32) (p4 : Int32) : zMi l T yX12_set cX12_set 7 (some .int) 5 0 0 [.ref y, .int p1, .int p2, .int p3, .int p4] [[(y, .inr (11, [.ref r_all, .ref r_has, .int 0, .int 0, .int 0, .int 0, .int 0, .int 0, .int 0, .int 0, .ref r_read, .int 0, .int 0, .int 0, .ref r_posts, .ref r_shut, .ref r_here, .int 0, .int 0, .int 0, .int 0, .ref r_was, .ref r_came, .ref r_seenAt, .ref r_rowWorth, .ref r_farBy, .ref r_used, .int 0, .int 0, .int 0, .int 0, .int 0, .int 0, .int 0, .int 0, .int 0, .int 0, .int 0, .int 0, .ref r_fitPost, .ref r_fitEnd, .ref r_keptPosts, .int 0]))], [(r_all, .inl (T.2 0, 3952, .inl (upd (fun _ => 0) 6 (-1))))]] (fun (r : Int32) bs => bs = [] ∧ r = (-1)) := by
  refine zMi_of (own := RX12) (by decide) rfl (Nat.le_of_ble_eq_true rfl) ?_
  intro p e s m args below meth c A ls C hr hlocks hnm hAe G hl
  have hx := C.1
  have hb := C.2.1
  have hl : lv_has ls 7 [(0, .ref y), (1, .int p1), (2, .int p2), (3, .int p3), (4, .int p4)] := hl
  refine lv_aload_n hx hb dX12_set_0 rfl (lv_at hl 0 rfl) ?_
  refine lv_iload_n hx hb dX12_set_1 rfl (lv_at hl 1 rfl) ?_
  refine z_Vi (bc := [[(y, .inr (11, [.ref r_all, .ref r_has, .int 0, .int 0, .int 0, .int 0, .int 0, .int 0, .int 0, .int 0, .ref r_read, .int 0, .int 0, .int 0, .ref r_posts, .ref r_shut, .ref r_here, .int 0, .int 0, .int 0, .int 0, .ref r_was, .ref r_came, .ref r_seenAt, .ref r_rowWorth, .ref r_farBy, .ref r_used, .int 0, .int 0, .int 0, .int 0, .int 0, .int 0, .int 0, .int 0, .int 0, .int 0, .int 0, .int 0, .ref r_fitPost, .ref r_fitEnd, .ref r_keptPosts, .int 0]))], [(r_all, .inl (T.2 0, 3952, .inl (upd (fun _ => 0) 6 (-1))))]]) (br := []) (As := [.int p1]) (rest := []) C G (c_isLand0 l T y r_all r_has r_read r_posts r_shut r_here r_was r_came r_seenAt r_rowWorth r_farBy r_used r_fitPost r_fitEnd r_keptPosts 0 0 0 0 0 0 0 0 0 0 0 0 0 0 0 0 0 0 0 0 0 0 0 0 0 0 0 0 (upd (fun _ => 0) 6 (-1)) p1 (by first | assumption | omega | rfl)) (kV_RX12_184 C.2.2.2.2 (Nat.le_of_ble_eq_true rfl) (Nat.le_of_ble_eq_true rfl)) [0, 1] [] rfl rfl (ci := 11) (qc := (RX12, TX12, 43)) rfl rfl (List.mem_flatten.mpr ⟨_, List.mem_of_getElem? (i := 0) rfl, List.mem_cons_self⟩) rfl rfl hl.1 dX12_set_2 (Nat.le_of_ble_eq_true rfl) (Nat.le_of_ble_eq_true rfl) (fun r_2 b1 H locs hw G => ?_)
  obtain ⟨rfl, h_1⟩ := hw
  have G : zS T A s.heap s [[(y, .inr (11, [.ref r_all, .ref r_has, .int 0, .int 0, .int 0, .int 0, .int 0, .int 0, .int 0, .int 0, .ref r_read, .int 0, .int 0, .int 0, .ref r_posts, .ref r_shut, .ref r_here, .int 0, .int 0, .int 0, .int 0, .ref r_was, .ref r_came, .ref r_seenAt, .ref r_rowWorth, .ref r_farBy, .ref r_used, .int 0, .int 0, .int 0, .int 0, .int 0, .int 0, .int 0, .int 0, .int 0, .int 0, .int 0, .int 0, .ref r_fitPost, .ref r_fitEnd, .ref r_keptPosts, .int 0]))], [(r_all, .inl (T.2 0, 3952, .inl (upd (fun _ => 0) 6 (-1))))]] _ _ := G
  subst h_1
  refine lv_if_eq (tgt := 32) hx hb dX12_set_5 (by decide) (fun _ => ?_) (fun q => absurd (by decide) q)
  refine lv_iconst (v := (-1)) hx hb dX12_set_32 (by decide) ?_
  have G := G.sub (bs' := []) [] rfl
  exact z_iret C hr hlocks G (Nat.le_of_ble_eq_true rfl) (Nat.le_of_ble_eq_true rfl) dX12_set_33 ⟨rfl, rfl⟩
set_option maxHeartbeats 4000000 in
set_option maxRecDepth 100000 in
/-- lot: on a new object -/
theorem c_m_lot (l : Launch) (T : zTy) (y : Nat) (r_all : Nat) (r_has : Nat) (r_read : Nat) (r_posts : Nat) (r_shut : Nat) (r_here : Nat) (r_was : Nat) (r_came : Nat) (r_seenAt : Nat) (r_rowWorth : Nat) (r_farBy : Nat) (r_used : Nat) (r_fitPost : Nat) (r_fitEnd : Nat) (r_keptPosts : Nat) (p1 : Int32) (p2 : Int32) (p3 : Int32) (p4 : Int32) : zMi l T yX12_lot cX12_lot 8 (some .int) 5 0 0 [.ref y, .int p1, .int p2, .int p3, .int p4] [[(y, .inr (11, [.ref r_all, .ref r_has, .int 0, .int 0, .int 0, .int 0, .int 0, .int 0, .int 0, .int 0, .ref r_read, .int 0, .int 0, .int 0, .ref r_posts, .ref r_shut, .ref r_here, .int 0, .int 0, .int 0, .int 0, .ref r_was, .ref r_came, .ref r_seenAt, .ref r_rowWorth, .ref r_farBy, .ref r_used, .int 0, .int 0, .int 0, .int 0, .int 0, .int 0, .int 0, .int 0, .int 0, .int 0, .int 0, .int 0, .ref r_fitPost, .ref r_fitEnd, .ref r_keptPosts, .int 0]))], [(r_all, .inl (T.2 0, 3952, .inl (upd (fun _ => 0) 6 (-1))))]] (fun (r : Int32) bs => bs = [] ∧ r = (-1)) := by
  refine zMi_of (own := RX12) (by decide) rfl (Nat.le_of_ble_eq_true rfl) ?_
  intro p e s m args below meth c A ls C hr hlocks hnm hAe G hl
  have hx := C.1
  have hb := C.2.1
  have hl : lv_has ls 8 [(0, .ref y), (1, .int p1), (2, .int p2), (3, .int p3), (4, .int p4)] := hl
  refine lv_aload_n hx hb dX12_lot_0 rfl (lv_at hl 0 rfl) ?_
  refine lv_iload_n hx hb dX12_lot_1 rfl (lv_at hl 1 rfl) ?_
  refine z_Vi (bc := [[(y, .inr (11, [.ref r_all, .ref r_has, .int 0, .int 0, .int 0, .int 0, .int 0, .int 0, .int 0, .int 0, .ref r_read, .int 0, .int 0, .int 0, .ref r_posts, .ref r_shut, .ref r_here, .int 0, .int 0, .int 0, .int 0, .ref r_was, .ref r_came, .ref r_seenAt, .ref r_rowWorth, .ref r_farBy, .ref r_used, .int 0, .int 0, .int 0, .int 0, .int 0, .int 0, .int 0, .int 0, .int 0, .int 0, .int 0, .int 0, .ref r_fitPost, .ref r_fitEnd, .ref r_keptPosts, .int 0]))], [(r_all, .inl (T.2 0, 3952, .inl (upd (fun _ => 0) 6 (-1))))]]) (br := []) (As := [.int p1]) (rest := []) C G (c_isLand0 l T y r_all r_has r_read r_posts r_shut r_here r_was r_came r_seenAt r_rowWorth r_farBy r_used r_fitPost r_fitEnd r_keptPosts 0 0 0 0 0 0 0 0 0 0 0 0 0 0 0 0 0 0 0 0 0 0 0 0 0 0 0 0 (upd (fun _ => 0) 6 (-1)) p1 (by first | assumption | omega | rfl)) (kV_RX12_184 C.2.2.2.2 (Nat.le_of_ble_eq_true rfl) (Nat.le_of_ble_eq_true rfl)) [0, 1] [] rfl rfl (ci := 11) (qc := (RX12, TX12, 43)) rfl rfl (List.mem_flatten.mpr ⟨_, List.mem_of_getElem? (i := 0) rfl, List.mem_cons_self⟩) rfl rfl hl.1 dX12_lot_2 (Nat.le_of_ble_eq_true rfl) (Nat.le_of_ble_eq_true rfl) (fun r_2 b1 H locs hw G => ?_)
  obtain ⟨rfl, h_1⟩ := hw
  have G : zS T A s.heap s [[(y, .inr (11, [.ref r_all, .ref r_has, .int 0, .int 0, .int 0, .int 0, .int 0, .int 0, .int 0, .int 0, .ref r_read, .int 0, .int 0, .int 0, .ref r_posts, .ref r_shut, .ref r_here, .int 0, .int 0, .int 0, .int 0, .ref r_was, .ref r_came, .ref r_seenAt, .ref r_rowWorth, .ref r_farBy, .ref r_used, .int 0, .int 0, .int 0, .int 0, .int 0, .int 0, .int 0, .int 0, .int 0, .int 0, .int 0, .int 0, .ref r_fitPost, .ref r_fitEnd, .ref r_keptPosts, .int 0]))], [(r_all, .inl (T.2 0, 3952, .inl (upd (fun _ => 0) 6 (-1))))]] _ _ := G
  subst h_1
  refine lv_if_eq (tgt := 32) hx hb dX12_lot_5 (by decide) (fun _ => ?_) (fun q => absurd (by decide) q)
  refine lv_iconst (v := (-1)) hx hb dX12_lot_32 (by decide) ?_
  have G := G.sub (bs' := []) [] rfl
  exact z_iret C hr hlocks G (Nat.le_of_ble_eq_true rfl) (Nat.le_of_ble_eq_true rfl) dX12_lot_33 ⟨rfl, rfl⟩
set_option maxHeartbeats 4000000 in
set_option maxRecDepth 100000 in
/-- mean: on a new object -/
theorem c_m_mean (l : Launch) (T : zTy) (y : Nat) (r_all : Nat) (r_has : Nat) (r_read : Nat) (r_posts : Nat) (r_shut : Nat) (r_here : Nat) (r_was : Nat) (r_came : Nat) (r_seenAt : Nat) (r_rowWorth : Nat) (r_farBy : Nat) (r_used : Nat) (r_fitPost : Nat) (r_fitEnd : Nat) (r_keptPosts : Nat) (p1 : Int32) (p2 : Int32) (p3 : Int32) : zMi l T yX12_mean cX12_mean 7 (some .int) 5 0 0 [.ref y, .int p1, .int p2, .int p3] [[(y, .inr (11, [.ref r_all, .ref r_has, .int 0, .int 0, .int 0, .int 0, .int 0, .int 0, .int 0, .int 0, .ref r_read, .int 0, .int 0, .int 0, .ref r_posts, .ref r_shut, .ref r_here, .int 0, .int 0, .int 0, .int 0, .ref r_was, .ref r_came, .ref r_seenAt, .ref r_rowWorth, .ref r_farBy, .ref r_used, .int 0, .int 0, .int 0, .int 0, .int 0, .int 0, .int 0, .int 0, .int 0, .int 0, .int 0, .int 0, .ref r_fitPost, .ref r_fitEnd, .ref r_keptPosts, .int 0]))], [(r_all, .inl (T.2 0, 3952, .inl (upd (fun _ => 0) 6 (-1))))]] (fun (r : Int32) bs => bs = [] ∧ r = (-1)) := by
  refine zMi_of (own := RX12) (by decide) rfl (Nat.le_of_ble_eq_true rfl) ?_
  intro p e s m args below meth c A ls C hr hlocks hnm hAe G hl
  have hx := C.1
  have hb := C.2.1
  have hl : lv_has ls 7 [(0, .ref y), (1, .int p1), (2, .int p2), (3, .int p3)] := hl
  refine lv_aload_n hx hb dX12_mean_0 rfl (lv_at hl 0 rfl) ?_
  refine lv_iload_n hx hb dX12_mean_1 rfl (lv_at hl 1 rfl) ?_
  refine z_Vi (bc := [[(y, .inr (11, [.ref r_all, .ref r_has, .int 0, .int 0, .int 0, .int 0, .int 0, .int 0, .int 0, .int 0, .ref r_read, .int 0, .int 0, .int 0, .ref r_posts, .ref r_shut, .ref r_here, .int 0, .int 0, .int 0, .int 0, .ref r_was, .ref r_came, .ref r_seenAt, .ref r_rowWorth, .ref r_farBy, .ref r_used, .int 0, .int 0, .int 0, .int 0, .int 0, .int 0, .int 0, .int 0, .int 0, .int 0, .int 0, .int 0, .ref r_fitPost, .ref r_fitEnd, .ref r_keptPosts, .int 0]))], [(r_all, .inl (T.2 0, 3952, .inl (upd (fun _ => 0) 6 (-1))))]]) (br := []) (As := [.int p1]) (rest := []) C G (c_isLand0 l T y r_all r_has r_read r_posts r_shut r_here r_was r_came r_seenAt r_rowWorth r_farBy r_used r_fitPost r_fitEnd r_keptPosts 0 0 0 0 0 0 0 0 0 0 0 0 0 0 0 0 0 0 0 0 0 0 0 0 0 0 0 0 (upd (fun _ => 0) 6 (-1)) p1 (by first | assumption | omega | rfl)) (kV_RX12_184 C.2.2.2.2 (Nat.le_of_ble_eq_true rfl) (Nat.le_of_ble_eq_true rfl)) [0, 1] [] rfl rfl (ci := 11) (qc := (RX12, TX12, 43)) rfl rfl (List.mem_flatten.mpr ⟨_, List.mem_of_getElem? (i := 0) rfl, List.mem_cons_self⟩) rfl rfl hl.1 dX12_mean_2 (Nat.le_of_ble_eq_true rfl) (Nat.le_of_ble_eq_true rfl) (fun r_2 b1 H locs hw G => ?_)
  obtain ⟨rfl, h_1⟩ := hw
  have G : zS T A s.heap s [[(y, .inr (11, [.ref r_all, .ref r_has, .int 0, .int 0, .int 0, .int 0, .int 0, .int 0, .int 0, .int 0, .ref r_read, .int 0, .int 0, .int 0, .ref r_posts, .ref r_shut, .ref r_here, .int 0, .int 0, .int 0, .int 0, .ref r_was, .ref r_came, .ref r_seenAt, .ref r_rowWorth, .ref r_farBy, .ref r_used, .int 0, .int 0, .int 0, .int 0, .int 0, .int 0, .int 0, .int 0, .int 0, .int 0, .int 0, .int 0, .ref r_fitPost, .ref r_fitEnd, .ref r_keptPosts, .int 0]))], [(r_all, .inl (T.2 0, 3952, .inl (upd (fun _ => 0) 6 (-1))))]] _ _ := G
  subst h_1
  refine lv_if_eq (tgt := 16) hx hb dX12_mean_5 (by decide) (fun _ => ?_) (fun q => absurd (by decide) q)
  refine lv_iconst (v := (-1)) hx hb dX12_mean_16 (by decide) ?_
  have G := G.sub (bs' := []) [] rfl
  exact z_iret C hr hlocks G (Nat.le_of_ble_eq_true rfl) (Nat.le_of_ble_eq_true rfl) dX12_mean_17 ⟨rfl, rfl⟩
set_option maxHeartbeats 4000000 in
set_option maxRecDepth 100000 in
/-- trees: on a new object -/
theorem c_m_trees (l : Launch) (T : zTy) (y : Nat) (r_all : Nat) (r_has : Nat) (r_read : Nat) (r_posts : Nat) (r_shut : Nat) (r_here : Nat) (r_was : Nat) (r_came : Nat) (r_seenAt : Nat) (r_rowWorth : Nat) (r_farBy : Nat) (r_used : Nat) (r_fitPost : Nat) (r_fitEnd : Nat) (r_keptPosts : Nat) (p1 : Int32) : zMi l T yX12_trees cX12_trees 7 (some .int) 5 0 0 [.ref y, .int p1] [[(y, .inr (11, [.ref r_all, .ref r_has, .int 0, .int 0, .int 0, .int 0, .int 0, .int 0, .int 0, .int 0, .ref r_read, .int 0, .int 0, .int 0, .ref r_posts, .ref r_shut, .ref r_here, .int 0, .int 0, .int 0, .int 0, .ref r_was, .ref r_came, .ref r_seenAt, .ref r_rowWorth, .ref r_farBy, .ref r_used, .int 0, .int 0, .int 0, .int 0, .int 0, .int 0, .int 0, .int 0, .int 0, .int 0, .int 0, .int 0, .ref r_fitPost, .ref r_fitEnd, .ref r_keptPosts, .int 0]))], [(r_all, .inl (T.2 0, 3952, .inl (upd (fun _ => 0) 6 (-1))))]] (fun (r : Int32) bs => bs = [] ∧ r = (-1)) := by
  refine zMi_of (own := RX12) (by decide) rfl (Nat.le_of_ble_eq_true rfl) ?_
  intro p e s m args below meth c A ls C hr hlocks hnm hAe G hl
  have hx := C.1
  have hb := C.2.1
  have hl : lv_has ls 7 [(0, .ref y), (1, .int p1)] := hl
  refine lv_aload_n hx hb dX12_trees_0 rfl (lv_at hl 0 rfl) ?_
  refine lv_iload_n hx hb dX12_trees_1 rfl (lv_at hl 1 rfl) ?_
  refine z_Vi (bc := [[(y, .inr (11, [.ref r_all, .ref r_has, .int 0, .int 0, .int 0, .int 0, .int 0, .int 0, .int 0, .int 0, .ref r_read, .int 0, .int 0, .int 0, .ref r_posts, .ref r_shut, .ref r_here, .int 0, .int 0, .int 0, .int 0, .ref r_was, .ref r_came, .ref r_seenAt, .ref r_rowWorth, .ref r_farBy, .ref r_used, .int 0, .int 0, .int 0, .int 0, .int 0, .int 0, .int 0, .int 0, .int 0, .int 0, .int 0, .int 0, .ref r_fitPost, .ref r_fitEnd, .ref r_keptPosts, .int 0]))], [(r_all, .inl (T.2 0, 3952, .inl (upd (fun _ => 0) 6 (-1))))]]) (br := []) (As := [.int p1]) (rest := []) C G (c_isLand0 l T y r_all r_has r_read r_posts r_shut r_here r_was r_came r_seenAt r_rowWorth r_farBy r_used r_fitPost r_fitEnd r_keptPosts 0 0 0 0 0 0 0 0 0 0 0 0 0 0 0 0 0 0 0 0 0 0 0 0 0 0 0 0 (upd (fun _ => 0) 6 (-1)) p1 (by first | assumption | omega | rfl)) (kV_RX12_184 C.2.2.2.2 (Nat.le_of_ble_eq_true rfl) (Nat.le_of_ble_eq_true rfl)) [0, 1] [] rfl rfl (ci := 11) (qc := (RX12, TX12, 43)) rfl rfl (List.mem_flatten.mpr ⟨_, List.mem_of_getElem? (i := 0) rfl, List.mem_cons_self⟩) rfl rfl hl.1 dX12_trees_2 (Nat.le_of_ble_eq_true rfl) (Nat.le_of_ble_eq_true rfl) (fun r_2 b1 H locs hw G => ?_)
  obtain ⟨rfl, h_1⟩ := hw
  have G : zS T A s.heap s [[(y, .inr (11, [.ref r_all, .ref r_has, .int 0, .int 0, .int 0, .int 0, .int 0, .int 0, .int 0, .int 0, .ref r_read, .int 0, .int 0, .int 0, .ref r_posts, .ref r_shut, .ref r_here, .int 0, .int 0, .int 0, .int 0, .ref r_was, .ref r_came, .ref r_seenAt, .ref r_rowWorth, .ref r_farBy, .ref r_used, .int 0, .int 0, .int 0, .int 0, .int 0, .int 0, .int 0, .int 0, .int 0, .int 0, .int 0, .int 0, .ref r_fitPost, .ref r_fitEnd, .ref r_keptPosts, .int 0]))], [(r_all, .inl (T.2 0, 3952, .inl (upd (fun _ => 0) 6 (-1))))]] _ _ := G
  subst h_1
  refine lv_if_ne (tgt := 10) hx hb dX12_trees_5 (by decide) (fun q => absurd (by decide) q) (fun _ => ?_)
  refine lv_iconst (v := (-1)) hx hb dX12_trees_8 (by decide) ?_
  have G := G.sub (bs' := []) [] rfl
  exact z_iret C hr hlocks G (Nat.le_of_ble_eq_true rfl) (Nat.le_of_ble_eq_true rfl) dX12_trees_9 ⟨rfl, rfl⟩
set_option maxHeartbeats 4000000 in
set_option maxRecDepth 100000 in
/-- game: on a new object -/
theorem c_m_game (l : Launch) (T : zTy) (y : Nat) (r_all : Nat) (r_has : Nat) (r_read : Nat) (r_posts : Nat) (r_shut : Nat) (r_here : Nat) (r_was : Nat) (r_came : Nat) (r_seenAt : Nat) (r_rowWorth : Nat) (r_farBy : Nat) (r_used : Nat) (r_fitPost : Nat) (r_fitEnd : Nat) (r_keptPosts : Nat) (p1 : Int32) (p2 : Int32) (p3 : Int32) (p4 : Int32) : zMi l T yX12_game cX12_game 11 (some .int) 5 0 0 [.ref y, .int p1, .int p2, .int p3, .int p4] [[(y, .inr (11, [.ref r_all, .ref r_has, .int 0, .int 0, .int 0, .int 0, .int 0, .int 0, .int 0, .int 0, .ref r_read, .int 0, .int 0, .int 0, .ref r_posts, .ref r_shut, .ref r_here, .int 0, .int 0, .int 0, .int 0, .ref r_was, .ref r_came, .ref r_seenAt, .ref r_rowWorth, .ref r_farBy, .ref r_used, .int 0, .int 0, .int 0, .int 0, .int 0, .int 0, .int 0, .int 0, .int 0, .int 0, .int 0, .int 0, .ref r_fitPost, .ref r_fitEnd, .ref r_keptPosts, .int 0]))], [(r_all, .inl (T.2 0, 3952, .inl (upd (fun _ => 0) 6 (-1))))]] (fun (r : Int32) bs => bs = [] ∧ r = (-9)) := by
  refine zMi_of (own := RX12) (by decide) rfl (Nat.le_of_ble_eq_true rfl) ?_
  intro p e s m args below meth c A ls C hr hlocks hnm hAe G hl
  have hx := C.1
  have hb := C.2.1
  have hl : lv_has ls 11 [(0, .ref y), (1, .int p1), (2, .int p2), (3, .int p3), (4, .int p4)] := hl
  refine lv_aload_n hx hb dX12_game_0 rfl (lv_at hl 0 rfl) ?_
  refine lv_iload_n hx hb dX12_game_1 rfl (lv_at hl 1 rfl) ?_
  refine z_Vi (bc := [[(y, .inr (11, [.ref r_all, .ref r_has, .int 0, .int 0, .int 0, .int 0, .int 0, .int 0, .int 0, .int 0, .ref r_read, .int 0, .int 0, .int 0, .ref r_posts, .ref r_shut, .ref r_here, .int 0, .int 0, .int 0, .int 0, .ref r_was, .ref r_came, .ref r_seenAt, .ref r_rowWorth, .ref r_farBy, .ref r_used, .int 0, .int 0, .int 0, .int 0, .int 0, .int 0, .int 0, .int 0, .int 0, .int 0, .int 0, .int 0, .ref r_fitPost, .ref r_fitEnd, .ref r_keptPosts, .int 0]))], [(r_all, .inl (T.2 0, 3952, .inl (upd (fun _ => 0) 6 (-1))))]]) (br := []) (As := [.int p1]) (rest := []) C G (c_isLand0 l T y r_all r_has r_read r_posts r_shut r_here r_was r_came r_seenAt r_rowWorth r_farBy r_used r_fitPost r_fitEnd r_keptPosts 0 0 0 0 0 0 0 0 0 0 0 0 0 0 0 0 0 0 0 0 0 0 0 0 0 0 0 0 (upd (fun _ => 0) 6 (-1)) p1 (by first | assumption | omega | rfl)) (kV_RX12_184 C.2.2.2.2 (Nat.le_of_ble_eq_true rfl) (Nat.le_of_ble_eq_true rfl)) [0, 1] [] rfl rfl (ci := 11) (qc := (RX12, TX12, 43)) rfl rfl (List.mem_flatten.mpr ⟨_, List.mem_of_getElem? (i := 0) rfl, List.mem_cons_self⟩) rfl rfl hl.1 dX12_game_2 (Nat.le_of_ble_eq_true rfl) (Nat.le_of_ble_eq_true rfl) (fun r_2 b1 H locs hw G => ?_)
  obtain ⟨rfl, h_1⟩ := hw
  have G : zS T A s.heap s [[(y, .inr (11, [.ref r_all, .ref r_has, .int 0, .int 0, .int 0, .int 0, .int 0, .int 0, .int 0, .int 0, .ref r_read, .int 0, .int 0, .int 0, .ref r_posts, .ref r_shut, .ref r_here, .int 0, .int 0, .int 0, .int 0, .ref r_was, .ref r_came, .ref r_seenAt, .ref r_rowWorth, .ref r_farBy, .ref r_used, .int 0, .int 0, .int 0, .int 0, .int 0, .int 0, .int 0, .int 0, .int 0, .int 0, .int 0, .int 0, .ref r_fitPost, .ref r_fitEnd, .ref r_keptPosts, .int 0]))], [(r_all, .inl (T.2 0, 3952, .inl (upd (fun _ => 0) 6 (-1))))]] _ _ := G
  subst h_1
  refine lv_if_eq (tgt := 25) hx hb dX12_game_5 (by decide) (fun _ => ?_) (fun q => absurd (by decide) q)
  refine lv_bipush (v := (-9)) hx hb dX12_game_25 (by decide) ?_
  have G := G.sub (bs' := []) [] rfl
  exact z_iret C hr hlocks G (Nat.le_of_ble_eq_true rfl) (Nat.le_of_ble_eq_true rfl) dX12_game_27 ⟨rfl, rfl⟩
set_option maxHeartbeats 4000000 in
set_option maxRecDepth 100000 in
/-- fact: on a new object -/
theorem c_m_fact (l : Launch) (T : zTy) (y : Nat) (r_all : Nat) (r_has : Nat) (r_read : Nat) (r_posts : Nat) (r_shut : Nat) (r_here : Nat) (r_was : Nat) (r_came : Nat) (r_seenAt : Nat) (r_rowWorth : Nat) (r_farBy : Nat) (r_used : Nat) (r_fitPost : Nat) (r_fitEnd : Nat) (r_keptPosts : Nat) (p1 : Int32) (p2 : Int32) (p3 : Int32) : zMi l T yX12_fact cX12_fact 4 (some .int) 5 0 0 [.ref y, .int p1, .int p2, .int p3] [[(y, .inr (11, [.ref r_all, .ref r_has, .int 0, .int 0, .int 0, .int 0, .int 0, .int 0, .int 0, .int 0, .ref r_read, .int 0, .int 0, .int 0, .ref r_posts, .ref r_shut, .ref r_here, .int 0, .int 0, .int 0, .int 0, .ref r_was, .ref r_came, .ref r_seenAt, .ref r_rowWorth, .ref r_farBy, .ref r_used, .int 0, .int 0, .int 0, .int 0, .int 0, .int 0, .int 0, .int 0, .int 0, .int 0, .int 0, .int 0, .ref r_fitPost, .ref r_fitEnd, .ref r_keptPosts, .int 0]))], [(r_all, .inl (T.2 0, 3952, .inl (upd (fun _ => 0) 6 (-1))))]] (fun (r : Int32) bs => bs = [] ∧ r = (-2)) := by
  refine zMi_of (own := RX12) (by decide) rfl (Nat.le_of_ble_eq_true rfl) ?_
  intro p e s m args below meth c A ls C hr hlocks hnm hAe G hl
  have hx := C.1
  have hb := C.2.1
  have hl : lv_has ls 4 [(0, .ref y), (1, .int p1), (2, .int p2), (3, .int p3)] := hl
  refine lv_aload_n hx hb dX12_fact_0 rfl (lv_at hl 0 rfl) ?_
  refine lv_iload_n hx hb dX12_fact_1 rfl (lv_at hl 1 rfl) ?_
  refine z_Vi (bc := [[(y, .inr (11, [.ref r_all, .ref r_has, .int 0, .int 0, .int 0, .int 0, .int 0, .int 0, .int 0, .int 0, .ref r_read, .int 0, .int 0, .int 0, .ref r_posts, .ref r_shut, .ref r_here, .int 0, .int 0, .int 0, .int 0, .ref r_was, .ref r_came, .ref r_seenAt, .ref r_rowWorth, .ref r_farBy, .ref r_used, .int 0, .int 0, .int 0, .int 0, .int 0, .int 0, .int 0, .int 0, .int 0, .int 0, .int 0, .int 0, .ref r_fitPost, .ref r_fitEnd, .ref r_keptPosts, .int 0]))], [(r_all, .inl (T.2 0, 3952, .inl (upd (fun _ => 0) 6 (-1))))]]) (br := []) (As := [.int p1]) (rest := []) C G (c_isLog0 l T y r_all r_has r_read r_posts r_shut r_here r_was r_came r_seenAt r_rowWorth r_farBy r_used r_fitPost r_fitEnd r_keptPosts 0 0 0 0 0 0 0 0 0 0 0 0 0 0 0 0 0 0 0 0 0 0 0 0 0 0 0 0 (upd (fun _ => 0) 6 (-1)) p1 (by first | assumption | omega | rfl)) (kV_RX12_363 C.2.2.2.2 (Nat.le_of_ble_eq_true rfl) (Nat.le_of_ble_eq_true rfl)) [0, 1] [] rfl rfl (ci := 11) (qc := (RX12, TX12, 43)) rfl rfl (List.mem_flatten.mpr ⟨_, List.mem_of_getElem? (i := 0) rfl, List.mem_cons_self⟩) rfl rfl hl.1 dX12_fact_2 (Nat.le_of_ble_eq_true rfl) (Nat.le_of_ble_eq_true rfl) (fun r_2 b1 H locs hw G => ?_)
  obtain ⟨rfl, h_1⟩ := hw
  have G : zS T A s.heap s [[(y, .inr (11, [.ref r_all, .ref r_has, .int 0, .int 0, .int 0, .int 0, .int 0, .int 0, .int 0, .int 0, .ref r_read, .int 0, .int 0, .int 0, .ref r_posts, .ref r_shut, .ref r_here, .int 0, .int 0, .int 0, .int 0, .ref r_was, .ref r_came, .ref r_seenAt, .ref r_rowWorth, .ref r_farBy, .ref r_used, .int 0, .int 0, .int 0, .int 0, .int 0, .int 0, .int 0, .int 0, .int 0, .int 0, .int 0, .int 0, .ref r_fitPost, .ref r_fitEnd, .ref r_keptPosts, .int 0]))], [(r_all, .inl (T.2 0, 3952, .inl (upd (fun _ => 0) 6 (-1))))]] _ _ := G
  subst h_1
  refine lv_if_ne (tgt := 11) hx hb dX12_fact_5 (by decide) (fun q => absurd (by decide) q) (fun _ => ?_)
  refine lv_bipush (v := (-2)) hx hb dX12_fact_8 (by decide) ?_
  have G := G.sub (bs' := []) [] rfl
  exact z_iret C hr hlocks G (Nat.le_of_ble_eq_true rfl) (Nat.le_of_ble_eq_true rfl) dX12_fact_10 ⟨rfl, rfl⟩
set_option maxHeartbeats 4000000 in
set_option maxRecDepth 100000 in
/-- fits: on a new object -/
theorem c_m_fits (l : Launch) (T : zTy) (y : Nat) (r_all : Nat) (r_has : Nat) (r_read : Nat) (r_posts : Nat) (r_shut : Nat) (r_here : Nat) (r_was : Nat) (r_came : Nat) (r_seenAt : Nat) (r_rowWorth : Nat) (r_farBy : Nat) (r_used : Nat) (r_fitPost : Nat) (r_fitEnd : Nat) (r_keptPosts : Nat) (p1 : Int32) (p2 : Int32) (p3 : Int32) : zMi l T yX12_fits cX12_fits 5 (some .int) 5 0 0 [.ref y, .int p1, .int p2, .int p3] [[(y, .inr (11, [.ref r_all, .ref r_has, .int 0, .int 0, .int 0, .int 0, .int 0, .int 0, .int 0, .int 0, .ref r_read, .int 0, .int 0, .int 0, .ref r_posts, .ref r_shut, .ref r_here, .int 0, .int 0, .int 0, .int 0, .ref r_was, .ref r_came, .ref r_seenAt, .ref r_rowWorth, .ref r_farBy, .ref r_used, .int 0, .int 0, .int 0, .int 0, .int 0, .int 0, .int 0, .int 0, .int 0, .int 0, .int 0, .int 0, .ref r_fitPost, .ref r_fitEnd, .ref r_keptPosts, .int 0]))], [(r_all, .inl (T.2 0, 3952, .inl (upd (fun _ => 0) 6 (-1))))]] (fun (r : Int32) bs => bs = [] ∧ r = (-2)) := by
  refine zMi_of (own := RX12) (by decide) rfl (Nat.le_of_ble_eq_true rfl) ?_
  intro p e s m args below meth c A ls C hr hlocks hnm hAe G hl
  have hx := C.1
  have hb := C.2.1
  have hl : lv_has ls 5 [(0, .ref y), (1, .int p1), (2, .int p2), (3, .int p3)] := hl
  refine lv_aload_n hx hb dX12_fits_0 rfl (lv_at hl 0 rfl) ?_
  refine lv_iload_n hx hb dX12_fits_1 rfl (lv_at hl 1 rfl) ?_
  refine z_Vi (bc := [[(y, .inr (11, [.ref r_all, .ref r_has, .int 0, .int 0, .int 0, .int 0, .int 0, .int 0, .int 0, .int 0, .ref r_read, .int 0, .int 0, .int 0, .ref r_posts, .ref r_shut, .ref r_here, .int 0, .int 0, .int 0, .int 0, .ref r_was, .ref r_came, .ref r_seenAt, .ref r_rowWorth, .ref r_farBy, .ref r_used, .int 0, .int 0, .int 0, .int 0, .int 0, .int 0, .int 0, .int 0, .int 0, .int 0, .int 0, .int 0, .ref r_fitPost, .ref r_fitEnd, .ref r_keptPosts, .int 0]))], [(r_all, .inl (T.2 0, 3952, .inl (upd (fun _ => 0) 6 (-1))))]]) (br := []) (As := [.int p1]) (rest := []) C G (c_isLand0 l T y r_all r_has r_read r_posts r_shut r_here r_was r_came r_seenAt r_rowWorth r_farBy r_used r_fitPost r_fitEnd r_keptPosts 0 0 0 0 0 0 0 0 0 0 0 0 0 0 0 0 0 0 0 0 0 0 0 0 0 0 0 0 (upd (fun _ => 0) 6 (-1)) p1 (by first | assumption | omega | rfl)) (kV_RX12_184 C.2.2.2.2 (Nat.le_of_ble_eq_true rfl) (Nat.le_of_ble_eq_true rfl)) [0, 1] [] rfl rfl (ci := 11) (qc := (RX12, TX12, 43)) rfl rfl (List.mem_flatten.mpr ⟨_, List.mem_of_getElem? (i := 0) rfl, List.mem_cons_self⟩) rfl rfl hl.1 dX12_fits_2 (Nat.le_of_ble_eq_true rfl) (Nat.le_of_ble_eq_true rfl) (fun r_2 b1 H locs hw G => ?_)
  obtain ⟨rfl, h_1⟩ := hw
  have G : zS T A s.heap s [[(y, .inr (11, [.ref r_all, .ref r_has, .int 0, .int 0, .int 0, .int 0, .int 0, .int 0, .int 0, .int 0, .ref r_read, .int 0, .int 0, .int 0, .ref r_posts, .ref r_shut, .ref r_here, .int 0, .int 0, .int 0, .int 0, .ref r_was, .ref r_came, .ref r_seenAt, .ref r_rowWorth, .ref r_farBy, .ref r_used, .int 0, .int 0, .int 0, .int 0, .int 0, .int 0, .int 0, .int 0, .int 0, .int 0, .int 0, .int 0, .ref r_fitPost, .ref r_fitEnd, .ref r_keptPosts, .int 0]))], [(r_all, .inl (T.2 0, 3952, .inl (upd (fun _ => 0) 6 (-1))))]] _ _ := G
  subst h_1
  refine lv_if_eq (tgt := 26) hx hb dX12_fits_5 (by decide) (fun _ => ?_) (fun q => absurd (by decide) q)
  refine lv_bipush (v := (-2)) hx hb dX12_fits_26 (by decide) ?_
  have G := G.sub (bs' := []) [] rfl
  exact z_iret C hr hlocks G (Nat.le_of_ble_eq_true rfl) (Nat.le_of_ble_eq_true rfl) dX12_fits_28 ⟨rfl, rfl⟩
set_option maxHeartbeats 4000000 in
set_option maxRecDepth 100000 in
/-- drawn: on a new object -/
theorem c_m_drawn (l : Launch) (T : zTy) (y : Nat) (r_all : Nat) (r_has : Nat) (r_read : Nat) (r_posts : Nat) (r_shut : Nat) (r_here : Nat) (r_was : Nat) (r_came : Nat) (r_seenAt : Nat) (r_rowWorth : Nat) (r_farBy : Nat) (r_used : Nat) (r_fitPost : Nat) (r_fitEnd : Nat) (r_keptPosts : Nat) (p1 : Int32) (p2 : Int32) (p3 : Int32) (p4 : Int32) : zMi l T yX12_drawn cX12_drawn 6 (some .int) 5 0 0 [.ref y, .int p1, .int p2, .int p3, .int p4] [[(y, .inr (11, [.ref r_all, .ref r_has, .int 0, .int 0, .int 0, .int 0, .int 0, .int 0, .int 0, .int 0, .ref r_read, .int 0, .int 0, .int 0, .ref r_posts, .ref r_shut, .ref r_here, .int 0, .int 0, .int 0, .int 0, .ref r_was, .ref r_came, .ref r_seenAt, .ref r_rowWorth, .ref r_farBy, .ref r_used, .int 0, .int 0, .int 0, .int 0, .int 0, .int 0, .int 0, .int 0, .int 0, .int 0, .int 0, .int 0, .ref r_fitPost, .ref r_fitEnd, .ref r_keptPosts, .int 0]))], [(r_all, .inl (T.2 0, 3952, .inl (upd (fun _ => 0) 6 (-1))))]] (fun (r : Int32) bs => bs = [] ∧ r = (-2)) := by
  refine zMi_of (own := RX12) (by decide) rfl (Nat.le_of_ble_eq_true rfl) ?_
  intro p e s m args below meth c A ls C hr hlocks hnm hAe G hl
  have hx := C.1
  have hb := C.2.1
  have hl : lv_has ls 6 [(0, .ref y), (1, .int p1), (2, .int p2), (3, .int p3), (4, .int p4)] := hl
  refine lv_aload_n hx hb dX12_drawn_0 rfl (lv_at hl 0 rfl) ?_
  refine lv_iload_n hx hb dX12_drawn_1 rfl (lv_at hl 1 rfl) ?_
  refine z_Vi (bc := [[(y, .inr (11, [.ref r_all, .ref r_has, .int 0, .int 0, .int 0, .int 0, .int 0, .int 0, .int 0, .int 0, .ref r_read, .int 0, .int 0, .int 0, .ref r_posts, .ref r_shut, .ref r_here, .int 0, .int 0, .int 0, .int 0, .ref r_was, .ref r_came, .ref r_seenAt, .ref r_rowWorth, .ref r_farBy, .ref r_used, .int 0, .int 0, .int 0, .int 0, .int 0, .int 0, .int 0, .int 0, .int 0, .int 0, .int 0, .int 0, .ref r_fitPost, .ref r_fitEnd, .ref r_keptPosts, .int 0]))], [(r_all, .inl (T.2 0, 3952, .inl (upd (fun _ => 0) 6 (-1))))]]) (br := []) (As := [.int p1]) (rest := []) C G (c_isLand0 l T y r_all r_has r_read r_posts r_shut r_here r_was r_came r_seenAt r_rowWorth r_farBy r_used r_fitPost r_fitEnd r_keptPosts 0 0 0 0 0 0 0 0 0 0 0 0 0 0 0 0 0 0 0 0 0 0 0 0 0 0 0 0 (upd (fun _ => 0) 6 (-1)) p1 (by first | assumption | omega | rfl)) (kV_RX12_184 C.2.2.2.2 (Nat.le_of_ble_eq_true rfl) (Nat.le_of_ble_eq_true rfl)) [0, 1] [] rfl rfl (ci := 11) (qc := (RX12, TX12, 43)) rfl rfl (List.mem_flatten.mpr ⟨_, List.mem_of_getElem? (i := 0) rfl, List.mem_cons_self⟩) rfl rfl hl.1 dX12_drawn_2 (Nat.le_of_ble_eq_true rfl) (Nat.le_of_ble_eq_true rfl) (fun r_2 b1 H locs hw G => ?_)
  obtain ⟨rfl, h_1⟩ := hw
  have G : zS T A s.heap s [[(y, .inr (11, [.ref r_all, .ref r_has, .int 0, .int 0, .int 0, .int 0, .int 0, .int 0, .int 0, .int 0, .ref r_read, .int 0, .int 0, .int 0, .ref r_posts, .ref r_shut, .ref r_here, .int 0, .int 0, .int 0, .int 0, .ref r_was, .ref r_came, .ref r_seenAt, .ref r_rowWorth, .ref r_farBy, .ref r_used, .int 0, .int 0, .int 0, .int 0, .int 0, .int 0, .int 0, .int 0, .int 0, .int 0, .int 0, .int 0, .ref r_fitPost, .ref r_fitEnd, .ref r_keptPosts, .int 0]))], [(r_all, .inl (T.2 0, 3952, .inl (upd (fun _ => 0) 6 (-1))))]] _ _ := G
  subst h_1
  refine lv_if_eq (tgt := 18) hx hb dX12_drawn_5 (by decide) (fun _ => ?_) (fun q => absurd (by decide) q)
  refine lv_bipush (v := (-2)) hx hb dX12_drawn_18 (by decide) ?_
  have G := G.sub (bs' := []) [] rfl
  exact z_iret C hr hlocks G (Nat.le_of_ble_eq_true rfl) (Nat.le_of_ble_eq_true rfl) dX12_drawn_20 ⟨rfl, rfl⟩
set_option maxHeartbeats 4000000 in
set_option maxRecDepth 100000 in
/-- far: on a new object -/
theorem c_m_far (l : Launch) (T : zTy) (y : Nat) (r_all : Nat) (r_has : Nat) (r_read : Nat) (r_posts : Nat) (r_shut : Nat) (r_here : Nat) (r_was : Nat) (r_came : Nat) (r_seenAt : Nat) (r_rowWorth : Nat) (r_farBy : Nat) (r_used : Nat) (r_fitPost : Nat) (r_fitEnd : Nat) (r_keptPosts : Nat) (p1 : Int32) (p2 : Int32) (p3 : Int32) : zMi l T yX12_far cX12_far 4 (some .int) 5 0 0 [.ref y, .int p1, .int p2, .int p3] [[(y, .inr (11, [.ref r_all, .ref r_has, .int 0, .int 0, .int 0, .int 0, .int 0, .int 0, .int 0, .int 0, .ref r_read, .int 0, .int 0, .int 0, .ref r_posts, .ref r_shut, .ref r_here, .int 0, .int 0, .int 0, .int 0, .ref r_was, .ref r_came, .ref r_seenAt, .ref r_rowWorth, .ref r_farBy, .ref r_used, .int 0, .int 0, .int 0, .int 0, .int 0, .int 0, .int 0, .int 0, .int 0, .int 0, .int 0, .int 0, .ref r_fitPost, .ref r_fitEnd, .ref r_keptPosts, .int 0]))], [(r_all, .inl (T.2 0, 3952, .inl (upd (fun _ => 0) 6 (-1))))]] (fun (r : Int32) bs => bs = [] ∧ r = (-1)) := by
  refine zMi_of (own := RX12) (by decide) rfl (Nat.le_of_ble_eq_true rfl) ?_
  intro p e s m args below meth c A ls C hr hlocks hnm hAe G hl
  have hx := C.1
  have hb := C.2.1
  have hl : lv_has ls 4 [(0, .ref y), (1, .int p1), (2, .int p2), (3, .int p3)] := hl
  refine lv_aload_n hx hb dX12_far_0 rfl (lv_at hl 0 rfl) ?_
  refine lv_iload_n hx hb dX12_far_1 rfl (lv_at hl 1 rfl) ?_
  refine z_Vi (bc := [[(y, .inr (11, [.ref r_all, .ref r_has, .int 0, .int 0, .int 0, .int 0, .int 0, .int 0, .int 0, .int 0, .ref r_read, .int 0, .int 0, .int 0, .ref r_posts, .ref r_shut, .ref r_here, .int 0, .int 0, .int 0, .int 0, .ref r_was, .ref r_came, .ref r_seenAt, .ref r_rowWorth, .ref r_farBy, .ref r_used, .int 0, .int 0, .int 0, .int 0, .int 0, .int 0, .int 0, .int 0, .int 0, .int 0, .int 0, .int 0, .ref r_fitPost, .ref r_fitEnd, .ref r_keptPosts, .int 0]))], [(r_all, .inl (T.2 0, 3952, .inl (upd (fun _ => 0) 6 (-1))))]]) (br := []) (As := [.int p1]) (rest := []) C G (c_isLand0 l T y r_all r_has r_read r_posts r_shut r_here r_was r_came r_seenAt r_rowWorth r_farBy r_used r_fitPost r_fitEnd r_keptPosts 0 0 0 0 0 0 0 0 0 0 0 0 0 0 0 0 0 0 0 0 0 0 0 0 0 0 0 0 (upd (fun _ => 0) 6 (-1)) p1 (by first | assumption | omega | rfl)) (kV_RX12_184 C.2.2.2.2 (Nat.le_of_ble_eq_true rfl) (Nat.le_of_ble_eq_true rfl)) [0, 1] [] rfl rfl (ci := 11) (qc := (RX12, TX12, 43)) rfl rfl (List.mem_flatten.mpr ⟨_, List.mem_of_getElem? (i := 0) rfl, List.mem_cons_self⟩) rfl rfl hl.1 dX12_far_2 (Nat.le_of_ble_eq_true rfl) (Nat.le_of_ble_eq_true rfl) (fun r_2 b1 H locs hw G => ?_)
  obtain ⟨rfl, h_1⟩ := hw
  have G : zS T A s.heap s [[(y, .inr (11, [.ref r_all, .ref r_has, .int 0, .int 0, .int 0, .int 0, .int 0, .int 0, .int 0, .int 0, .ref r_read, .int 0, .int 0, .int 0, .ref r_posts, .ref r_shut, .ref r_here, .int 0, .int 0, .int 0, .int 0, .ref r_was, .ref r_came, .ref r_seenAt, .ref r_rowWorth, .ref r_farBy, .ref r_used, .int 0, .int 0, .int 0, .int 0, .int 0, .int 0, .int 0, .int 0, .int 0, .int 0, .int 0, .int 0, .ref r_fitPost, .ref r_fitEnd, .ref r_keptPosts, .int 0]))], [(r_all, .inl (T.2 0, 3952, .inl (upd (fun _ => 0) 6 (-1))))]] _ _ := G
  subst h_1
  refine lv_if_eq (tgt := 24) hx hb dX12_far_5 (by decide) (fun _ => ?_) (fun q => absurd (by decide) q)
  refine lv_iconst (v := (-1)) hx hb dX12_far_24 (by decide) ?_
  have G := G.sub (bs' := []) [] rfl
  exact z_iret C hr hlocks G (Nat.le_of_ble_eq_true rfl) (Nat.le_of_ble_eq_true rfl) dX12_far_25 ⟨rfl, rfl⟩
set_option maxHeartbeats 4000000 in
set_option maxRecDepth 100000 in
/-- reach: on a new object -/
theorem c_m_reach (l : Launch) (T : zTy) (y : Nat) (r_all : Nat) (r_has : Nat) (r_read : Nat) (r_posts : Nat) (r_shut : Nat) (r_here : Nat) (r_was : Nat) (r_came : Nat) (r_seenAt : Nat) (r_rowWorth : Nat) (r_farBy : Nat) (r_used : Nat) (r_fitPost : Nat) (r_fitEnd : Nat) (r_keptPosts : Nat) (p1 : Int32) (p2 : Int32) (p3 : Int32) : zMi l T yX12_reach cX12_reach 7 (some .int) 5 0 0 [.ref y, .int p1, .int p2, .int p3] [[(y, .inr (11, [.ref r_all, .ref r_has, .int 0, .int 0, .int 0, .int 0, .int 0, .int 0, .int 0, .int 0, .ref r_read, .int 0, .int 0, .int 0, .ref r_posts, .ref r_shut, .ref r_here, .int 0, .int 0, .int 0, .int 0, .ref r_was, .ref r_came, .ref r_seenAt, .ref r_rowWorth, .ref r_farBy, .ref r_used, .int 0, .int 0, .int 0, .int 0, .int 0, .int 0, .int 0, .int 0, .int 0, .int 0, .int 0, .int 0, .ref r_fitPost, .ref r_fitEnd, .ref r_keptPosts, .int 0]))], [(r_all, .inl (T.2 0, 3952, .inl (upd (fun _ => 0) 6 (-1))))]] (fun (r : Int32) bs => bs = [] ∧ r = (-2)) := by
  refine zMi_of (own := RX12) (by decide) rfl (Nat.le_of_ble_eq_true rfl) ?_
  intro p e s m args below meth c A ls C hr hlocks hnm hAe G hl
  have hx := C.1
  have hb := C.2.1
  have hl : lv_has ls 7 [(0, .ref y), (1, .int p1), (2, .int p2), (3, .int p3)] := hl
  refine lv_aload_n hx hb dX12_reach_0 rfl (lv_at hl 0 rfl) ?_
  refine lv_iload_n hx hb dX12_reach_1 rfl (lv_at hl 1 rfl) ?_
  refine z_Vi (bc := [[(y, .inr (11, [.ref r_all, .ref r_has, .int 0, .int 0, .int 0, .int 0, .int 0, .int 0, .int 0, .int 0, .ref r_read, .int 0, .int 0, .int 0, .ref r_posts, .ref r_shut, .ref r_here, .int 0, .int 0, .int 0, .int 0, .ref r_was, .ref r_came, .ref r_seenAt, .ref r_rowWorth, .ref r_farBy, .ref r_used, .int 0, .int 0, .int 0, .int 0, .int 0, .int 0, .int 0, .int 0, .int 0, .int 0, .int 0, .int 0, .ref r_fitPost, .ref r_fitEnd, .ref r_keptPosts, .int 0]))], [(r_all, .inl (T.2 0, 3952, .inl (upd (fun _ => 0) 6 (-1))))]]) (br := []) (As := [.int p1]) (rest := []) C G (c_isLand0 l T y r_all r_has r_read r_posts r_shut r_here r_was r_came r_seenAt r_rowWorth r_farBy r_used r_fitPost r_fitEnd r_keptPosts 0 0 0 0 0 0 0 0 0 0 0 0 0 0 0 0 0 0 0 0 0 0 0 0 0 0 0 0 (upd (fun _ => 0) 6 (-1)) p1 (by first | assumption | omega | rfl)) (kV_RX12_184 C.2.2.2.2 (Nat.le_of_ble_eq_true rfl) (Nat.le_of_ble_eq_true rfl)) [0, 1] [] rfl rfl (ci := 11) (qc := (RX12, TX12, 43)) rfl rfl (List.mem_flatten.mpr ⟨_, List.mem_of_getElem? (i := 0) rfl, List.mem_cons_self⟩) rfl rfl hl.1 dX12_reach_2 (Nat.le_of_ble_eq_true rfl) (Nat.le_of_ble_eq_true rfl) (fun r_2 b1 H locs hw G => ?_)
  obtain ⟨rfl, h_1⟩ := hw
  have G : zS T A s.heap s [[(y, .inr (11, [.ref r_all, .ref r_has, .int 0, .int 0, .int 0, .int 0, .int 0, .int 0, .int 0, .int 0, .ref r_read, .int 0, .int 0, .int 0, .ref r_posts, .ref r_shut, .ref r_here, .int 0, .int 0, .int 0, .int 0, .ref r_was, .ref r_came, .ref r_seenAt, .ref r_rowWorth, .ref r_farBy, .ref r_used, .int 0, .int 0, .int 0, .int 0, .int 0, .int 0, .int 0, .int 0, .int 0, .int 0, .int 0, .int 0, .ref r_fitPost, .ref r_fitEnd, .ref r_keptPosts, .int 0]))], [(r_all, .inl (T.2 0, 3952, .inl (upd (fun _ => 0) 6 (-1))))]] _ _ := G
  subst h_1
  refine lv_if_eq (tgt := 16) hx hb dX12_reach_5 (by decide) (fun _ => ?_) (fun q => absurd (by decide) q)
  refine lv_bipush (v := (-2)) hx hb dX12_reach_16 (by decide) ?_
  have G := G.sub (bs' := []) [] rfl
  exact z_iret C hr hlocks G (Nat.le_of_ble_eq_true rfl) (Nat.le_of_ble_eq_true rfl) dX12_reach_18 ⟨rfl, rfl⟩
set_option maxHeartbeats 4000000 in
set_option maxRecDepth 100000 in
/-- classes: on a new object -/
theorem c_m_classes (l : Launch) (T : zTy) (y : Nat) (r_all : Nat) (r_has : Nat) (r_read : Nat) (r_posts : Nat) (r_shut : Nat) (r_here : Nat) (r_was : Nat) (r_came : Nat) (r_seenAt : Nat) (r_rowWorth : Nat) (r_farBy : Nat) (r_used : Nat) (r_fitPost : Nat) (r_fitEnd : Nat) (r_keptPosts : Nat) (p1 : Int32) (p2 : Int32) : zMi l T yX12_classes cX12_classes 3 (some .int) 5 0 0 [.ref y, .int p1, .int p2] [[(y, .inr (11, [.ref r_all, .ref r_has, .int 0, .int 0, .int 0, .int 0, .int 0, .int 0, .int 0, .int 0, .ref r_read, .int 0, .int 0, .int 0, .ref r_posts, .ref r_shut, .ref r_here, .int 0, .int 0, .int 0, .int 0, .ref r_was, .ref r_came, .ref r_seenAt, .ref r_rowWorth, .ref r_farBy, .ref r_used, .int 0, .int 0, .int 0, .int 0, .int 0, .int 0, .int 0, .int 0, .int 0, .int 0, .int 0, .int 0, .ref r_fitPost, .ref r_fitEnd, .ref r_keptPosts, .int 0]))], [(r_all, .inl (T.2 0, 3952, .inl (upd (fun _ => 0) 6 (-1))))]] (fun (r : Int32) bs => bs = [] ∧ r = (-2)) := by
  refine zMi_of (own := RX12) (by decide) rfl (Nat.le_of_ble_eq_true rfl) ?_
  intro p e s m args below meth c A ls C hr hlocks hnm hAe G hl
  have hx := C.1
  have hb := C.2.1
  have hl : lv_has ls 3 [(0, .ref y), (1, .int p1), (2, .int p2)] := hl
  refine lv_aload_n hx hb dX12_classes_0 rfl (lv_at hl 0 rfl) ?_
  refine lv_iload_n hx hb dX12_classes_1 rfl (lv_at hl 1 rfl) ?_
  refine z_Vi (bc := [[(y, .inr (11, [.ref r_all, .ref r_has, .int 0, .int 0, .int 0, .int 0, .int 0, .int 0, .int 0, .int 0, .ref r_read, .int 0, .int 0, .int 0, .ref r_posts, .ref r_shut, .ref r_here, .int 0, .int 0, .int 0, .int 0, .ref r_was, .ref r_came, .ref r_seenAt, .ref r_rowWorth, .ref r_farBy, .ref r_used, .int 0, .int 0, .int 0, .int 0, .int 0, .int 0, .int 0, .int 0, .int 0, .int 0, .int 0, .int 0, .ref r_fitPost, .ref r_fitEnd, .ref r_keptPosts, .int 0]))], [(r_all, .inl (T.2 0, 3952, .inl (upd (fun _ => 0) 6 (-1))))]]) (br := []) (As := [.int p1]) (rest := []) C G (c_isLand0 l T y r_all r_has r_read r_posts r_shut r_here r_was r_came r_seenAt r_rowWorth r_farBy r_used r_fitPost r_fitEnd r_keptPosts 0 0 0 0 0 0 0 0 0 0 0 0 0 0 0 0 0 0 0 0 0 0 0 0 0 0 0 0 (upd (fun _ => 0) 6 (-1)) p1 (by first | assumption | omega | rfl)) (kV_RX12_184 C.2.2.2.2 (Nat.le_of_ble_eq_true rfl) (Nat.le_of_ble_eq_true rfl)) [0, 1] [] rfl rfl (ci := 11) (qc := (RX12, TX12, 43)) rfl rfl (List.mem_flatten.mpr ⟨_, List.mem_of_getElem? (i := 0) rfl, List.mem_cons_self⟩) rfl rfl hl.1 dX12_classes_2 (Nat.le_of_ble_eq_true rfl) (Nat.le_of_ble_eq_true rfl) (fun r_2 b1 H locs hw G => ?_)
  obtain ⟨rfl, h_1⟩ := hw
  have G : zS T A s.heap s [[(y, .inr (11, [.ref r_all, .ref r_has, .int 0, .int 0, .int 0, .int 0, .int 0, .int 0, .int 0, .int 0, .ref r_read, .int 0, .int 0, .int 0, .ref r_posts, .ref r_shut, .ref r_here, .int 0, .int 0, .int 0, .int 0, .ref r_was, .ref r_came, .ref r_seenAt, .ref r_rowWorth, .ref r_farBy, .ref r_used, .int 0, .int 0, .int 0, .int 0, .int 0, .int 0, .int 0, .int 0, .int 0, .int 0, .int 0, .int 0, .ref r_fitPost, .ref r_fitEnd, .ref r_keptPosts, .int 0]))], [(r_all, .inl (T.2 0, 3952, .inl (upd (fun _ => 0) 6 (-1))))]] _ _ := G
  subst h_1
  refine lv_if_ne (tgt := 11) hx hb dX12_classes_5 (by decide) (fun q => absurd (by decide) q) (fun _ => ?_)
  refine lv_bipush (v := (-2)) hx hb dX12_classes_8 (by decide) ?_
  have G := G.sub (bs' := []) [] rfl
  exact z_iret C hr hlocks G (Nat.le_of_ble_eq_true rfl) (Nat.le_of_ble_eq_true rfl) dX12_classes_10 ⟨rfl, rfl⟩
set_option maxHeartbeats 4000000 in
set_option maxRecDepth 100000 in
/-- led: on a new object -/
theorem c_m_led (l : Launch) (T : zTy) (y : Nat) (r_all : Nat) (r_has : Nat) (r_read : Nat) (r_posts : Nat) (r_shut : Nat) (r_here : Nat) (r_was : Nat) (r_came : Nat) (r_seenAt : Nat) (r_rowWorth : Nat) (r_farBy : Nat) (r_used : Nat) (r_fitPost : Nat) (r_fitEnd : Nat) (r_keptPosts : Nat) (p1 : Int32) (p2 : Int32) (p3 : Int32) : zMi l T yX12_led cX12_led 6 (some .int) 5 0 0 [.ref y, .int p1, .int p2, .int p3] [[(y, .inr (11, [.ref r_all, .ref r_has, .int 0, .int 0, .int 0, .int 0, .int 0, .int 0, .int 0, .int 0, .ref r_read, .int 0, .int 0, .int 0, .ref r_posts, .ref r_shut, .ref r_here, .int 0, .int 0, .int 0, .int 0, .ref r_was, .ref r_came, .ref r_seenAt, .ref r_rowWorth, .ref r_farBy, .ref r_used, .int 0, .int 0, .int 0, .int 0, .int 0, .int 0, .int 0, .int 0, .int 0, .int 0, .int 0, .int 0, .ref r_fitPost, .ref r_fitEnd, .ref r_keptPosts, .int 0]))], [(r_all, .inl (T.2 0, 3952, .inl (upd (fun _ => 0) 6 (-1))))]] (fun (r : Int32) bs => bs = [] ∧ r = (-2)) := by
  refine zMi_of (own := RX12) (by decide) rfl (Nat.le_of_ble_eq_true rfl) ?_
  intro p e s m args below meth c A ls C hr hlocks hnm hAe G hl
  have hx := C.1
  have hb := C.2.1
  have hl : lv_has ls 6 [(0, .ref y), (1, .int p1), (2, .int p2), (3, .int p3)] := hl
  refine lv_aload_n hx hb dX12_led_0 rfl (lv_at hl 0 rfl) ?_
  refine lv_iload_n hx hb dX12_led_1 rfl (lv_at hl 1 rfl) ?_
  refine z_Vi (bc := [[(y, .inr (11, [.ref r_all, .ref r_has, .int 0, .int 0, .int 0, .int 0, .int 0, .int 0, .int 0, .int 0, .ref r_read, .int 0, .int 0, .int 0, .ref r_posts, .ref r_shut, .ref r_here, .int 0, .int 0, .int 0, .int 0, .ref r_was, .ref r_came, .ref r_seenAt, .ref r_rowWorth, .ref r_farBy, .ref r_used, .int 0, .int 0, .int 0, .int 0, .int 0, .int 0, .int 0, .int 0, .int 0, .int 0, .int 0, .int 0, .ref r_fitPost, .ref r_fitEnd, .ref r_keptPosts, .int 0]))], [(r_all, .inl (T.2 0, 3952, .inl (upd (fun _ => 0) 6 (-1))))]]) (br := []) (As := [.int p1]) (rest := []) C G (c_isLand0 l T y r_all r_has r_read r_posts r_shut r_here r_was r_came r_seenAt r_rowWorth r_farBy r_used r_fitPost r_fitEnd r_keptPosts 0 0 0 0 0 0 0 0 0 0 0 0 0 0 0 0 0 0 0 0 0 0 0 0 0 0 0 0 (upd (fun _ => 0) 6 (-1)) p1 (by first | assumption | omega | rfl)) (kV_RX12_184 C.2.2.2.2 (Nat.le_of_ble_eq_true rfl) (Nat.le_of_ble_eq_true rfl)) [0, 1] [] rfl rfl (ci := 11) (qc := (RX12, TX12, 43)) rfl rfl (List.mem_flatten.mpr ⟨_, List.mem_of_getElem? (i := 0) rfl, List.mem_cons_self⟩) rfl rfl hl.1 dX12_led_2 (Nat.le_of_ble_eq_true rfl) (Nat.le_of_ble_eq_true rfl) (fun r_2 b1 H locs hw G => ?_)
  obtain ⟨rfl, h_1⟩ := hw
  have G : zS T A s.heap s [[(y, .inr (11, [.ref r_all, .ref r_has, .int 0, .int 0, .int 0, .int 0, .int 0, .int 0, .int 0, .int 0, .ref r_read, .int 0, .int 0, .int 0, .ref r_posts, .ref r_shut, .ref r_here, .int 0, .int 0, .int 0, .int 0, .ref r_was, .ref r_came, .ref r_seenAt, .ref r_rowWorth, .ref r_farBy, .ref r_used, .int 0, .int 0, .int 0, .int 0, .int 0, .int 0, .int 0, .int 0, .int 0, .int 0, .int 0, .int 0, .ref r_fitPost, .ref r_fitEnd, .ref r_keptPosts, .int 0]))], [(r_all, .inl (T.2 0, 3952, .inl (upd (fun _ => 0) 6 (-1))))]] _ _ := G
  subst h_1
  refine lv_if_eq (tgt := 25) hx hb dX12_led_5 (by decide) (fun _ => ?_) (fun q => absurd (by decide) q)
  refine lv_bipush (v := (-2)) hx hb dX12_led_25 (by decide) ?_
  have G := G.sub (bs' := []) [] rfl
  exact z_iret C hr hlocks G (Nat.le_of_ble_eq_true rfl) (Nat.le_of_ble_eq_true rfl) dX12_led_27 ⟨rfl, rfl⟩
set_option maxHeartbeats 4000000 in
set_option maxRecDepth 100000 in
/-- cover: on a new object -/
theorem c_m_cover (l : Launch) (T : zTy) (y : Nat) (r_all : Nat) (r_has : Nat) (r_read : Nat) (r_posts : Nat) (r_shut : Nat) (r_here : Nat) (r_was : Nat) (r_came : Nat) (r_seenAt : Nat) (r_rowWorth : Nat) (r_farBy : Nat) (r_used : Nat) (r_fitPost : Nat) (r_fitEnd : Nat) (r_keptPosts : Nat) (p1 : Int32) (p2 : Int32) (p3 : Int32) : zMi l T yX12_cover cX12_cover 4 (some .int) 5 0 0 [.ref y, .int p1, .int p2, .int p3] [[(y, .inr (11, [.ref r_all, .ref r_has, .int 0, .int 0, .int 0, .int 0, .int 0, .int 0, .int 0, .int 0, .ref r_read, .int 0, .int 0, .int 0, .ref r_posts, .ref r_shut, .ref r_here, .int 0, .int 0, .int 0, .int 0, .ref r_was, .ref r_came, .ref r_seenAt, .ref r_rowWorth, .ref r_farBy, .ref r_used, .int 0, .int 0, .int 0, .int 0, .int 0, .int 0, .int 0, .int 0, .int 0, .int 0, .int 0, .int 0, .ref r_fitPost, .ref r_fitEnd, .ref r_keptPosts, .int 0]))], [(r_all, .inl (T.2 0, 3952, .inl (upd (fun _ => 0) 6 (-1))))]] (fun (r : Int32) bs => bs = [] ∧ r = (-2)) := by
  refine zMi_of (own := RX12) (by decide) rfl (Nat.le_of_ble_eq_true rfl) ?_
  intro p e s m args below meth c A ls C hr hlocks hnm hAe G hl
  have hx := C.1
  have hb := C.2.1
  have hl : lv_has ls 4 [(0, .ref y), (1, .int p1), (2, .int p2), (3, .int p3)] := hl
  refine lv_aload_n hx hb dX12_cover_0 rfl (lv_at hl 0 rfl) ?_
  refine lv_iload_n hx hb dX12_cover_1 rfl (lv_at hl 1 rfl) ?_
  refine z_Vi (bc := [[(y, .inr (11, [.ref r_all, .ref r_has, .int 0, .int 0, .int 0, .int 0, .int 0, .int 0, .int 0, .int 0, .ref r_read, .int 0, .int 0, .int 0, .ref r_posts, .ref r_shut, .ref r_here, .int 0, .int 0, .int 0, .int 0, .ref r_was, .ref r_came, .ref r_seenAt, .ref r_rowWorth, .ref r_farBy, .ref r_used, .int 0, .int 0, .int 0, .int 0, .int 0, .int 0, .int 0, .int 0, .int 0, .int 0, .int 0, .int 0, .ref r_fitPost, .ref r_fitEnd, .ref r_keptPosts, .int 0]))], [(r_all, .inl (T.2 0, 3952, .inl (upd (fun _ => 0) 6 (-1))))]]) (br := []) (As := [.int p1]) (rest := []) C G (c_isLand0 l T y r_all r_has r_read r_posts r_shut r_here r_was r_came r_seenAt r_rowWorth r_farBy r_used r_fitPost r_fitEnd r_keptPosts 0 0 0 0 0 0 0 0 0 0 0 0 0 0 0 0 0 0 0 0 0 0 0 0 0 0 0 0 (upd (fun _ => 0) 6 (-1)) p1 (by first | assumption | omega | rfl)) (kV_RX12_184 C.2.2.2.2 (Nat.le_of_ble_eq_true rfl) (Nat.le_of_ble_eq_true rfl)) [0, 1] [] rfl rfl (ci := 11) (qc := (RX12, TX12, 43)) rfl rfl (List.mem_flatten.mpr ⟨_, List.mem_of_getElem? (i := 0) rfl, List.mem_cons_self⟩) rfl rfl hl.1 dX12_cover_2 (Nat.le_of_ble_eq_true rfl) (Nat.le_of_ble_eq_true rfl) (fun r_2 b1 H locs hw G => ?_)
  obtain ⟨rfl, h_1⟩ := hw
  have G : zS T A s.heap s [[(y, .inr (11, [.ref r_all, .ref r_has, .int 0, .int 0, .int 0, .int 0, .int 0, .int 0, .int 0, .int 0, .ref r_read, .int 0, .int 0, .int 0, .ref r_posts, .ref r_shut, .ref r_here, .int 0, .int 0, .int 0, .int 0, .ref r_was, .ref r_came, .ref r_seenAt, .ref r_rowWorth, .ref r_farBy, .ref r_used, .int 0, .int 0, .int 0, .int 0, .int 0, .int 0, .int 0, .int 0, .int 0, .int 0, .int 0, .int 0, .ref r_fitPost, .ref r_fitEnd, .ref r_keptPosts, .int 0]))], [(r_all, .inl (T.2 0, 3952, .inl (upd (fun _ => 0) 6 (-1))))]] _ _ := G
  subst h_1
  refine lv_if_eq (tgt := 16) hx hb dX12_cover_5 (by decide) (fun _ => ?_) (fun q => absurd (by decide) q)
  refine lv_bipush (v := (-2)) hx hb dX12_cover_16 (by decide) ?_
  have G := G.sub (bs' := []) [] rfl
  exact z_iret C hr hlocks G (Nat.le_of_ble_eq_true rfl) (Nat.le_of_ble_eq_true rfl) dX12_cover_18 ⟨rfl, rfl⟩
set_option maxHeartbeats 4000000 in
set_option maxRecDepth 100000 in
/-- share: on a new object -/
theorem c_m_share (l : Launch) (T : zTy) (y : Nat) (r_all : Nat) (r_has : Nat) (r_read : Nat) (r_posts : Nat) (r_shut : Nat) (r_here : Nat) (r_was : Nat) (r_came : Nat) (r_seenAt : Nat) (r_rowWorth : Nat) (r_farBy : Nat) (r_used : Nat) (r_fitPost : Nat) (r_fitEnd : Nat) (r_keptPosts : Nat) (p1 : Int32) (p2 : Int32) (p3 : Int32) (p4 : Int32) : zMi l T yX12_share cX12_share 7 (some .int) 5 0 0 [.ref y, .int p1, .int p2, .int p3, .int p4] [[(y, .inr (11, [.ref r_all, .ref r_has, .int 0, .int 0, .int 0, .int 0, .int 0, .int 0, .int 0, .int 0, .ref r_read, .int 0, .int 0, .int 0, .ref r_posts, .ref r_shut, .ref r_here, .int 0, .int 0, .int 0, .int 0, .ref r_was, .ref r_came, .ref r_seenAt, .ref r_rowWorth, .ref r_farBy, .ref r_used, .int 0, .int 0, .int 0, .int 0, .int 0, .int 0, .int 0, .int 0, .int 0, .int 0, .int 0, .int 0, .ref r_fitPost, .ref r_fitEnd, .ref r_keptPosts, .int 0]))], [(r_all, .inl (T.2 0, 3952, .inl (upd (fun _ => 0) 6 (-1))))]] (fun (r : Int32) bs => bs = [] ∧ r = (-1)) := by
  refine zMi_of (own := RX12) (by decide) rfl (Nat.le_of_ble_eq_true rfl) ?_
  intro p e s m args below meth c A ls C hr hlocks hnm hAe G hl
  have hx := C.1
  have hb := C.2.1
  have hl : lv_has ls 7 [(0, .ref y), (1, .int p1), (2, .int p2), (3, .int p3), (4, .int p4)] := hl
  refine lv_aload_n hx hb dX12_share_0 rfl (lv_at hl 0 rfl) ?_
  refine lv_iload_n hx hb dX12_share_1 rfl (lv_at hl 1 rfl) ?_
  refine z_Vi (bc := [[(y, .inr (11, [.ref r_all, .ref r_has, .int 0, .int 0, .int 0, .int 0, .int 0, .int 0, .int 0, .int 0, .ref r_read, .int 0, .int 0, .int 0, .ref r_posts, .ref r_shut, .ref r_here, .int 0, .int 0, .int 0, .int 0, .ref r_was, .ref r_came, .ref r_seenAt, .ref r_rowWorth, .ref r_farBy, .ref r_used, .int 0, .int 0, .int 0, .int 0, .int 0, .int 0, .int 0, .int 0, .int 0, .int 0, .int 0, .int 0, .ref r_fitPost, .ref r_fitEnd, .ref r_keptPosts, .int 0]))], [(r_all, .inl (T.2 0, 3952, .inl (upd (fun _ => 0) 6 (-1))))]]) (br := []) (As := [.int p1]) (rest := []) C G (c_isLand0 l T y r_all r_has r_read r_posts r_shut r_here r_was r_came r_seenAt r_rowWorth r_farBy r_used r_fitPost r_fitEnd r_keptPosts 0 0 0 0 0 0 0 0 0 0 0 0 0 0 0 0 0 0 0 0 0 0 0 0 0 0 0 0 (upd (fun _ => 0) 6 (-1)) p1 (by first | assumption | omega | rfl)) (kV_RX12_184 C.2.2.2.2 (Nat.le_of_ble_eq_true rfl) (Nat.le_of_ble_eq_true rfl)) [0, 1] [] rfl rfl (ci := 11) (qc := (RX12, TX12, 43)) rfl rfl (List.mem_flatten.mpr ⟨_, List.mem_of_getElem? (i := 0) rfl, List.mem_cons_self⟩) rfl rfl hl.1 dX12_share_2 (Nat.le_of_ble_eq_true rfl) (Nat.le_of_ble_eq_true rfl) (fun r_2 b1 H locs hw G => ?_)
  obtain ⟨rfl, h_1⟩ := hw
  have G : zS T A s.heap s [[(y, .inr (11, [.ref r_all, .ref r_has, .int 0, .int 0, .int 0, .int 0, .int 0, .int 0, .int 0, .int 0, .ref r_read, .int 0, .int 0, .int 0, .ref r_posts, .ref r_shut, .ref r_here, .int 0, .int 0, .int 0, .int 0, .ref r_was, .ref r_came, .ref r_seenAt, .ref r_rowWorth, .ref r_farBy, .ref r_used, .int 0, .int 0, .int 0, .int 0, .int 0, .int 0, .int 0, .int 0, .int 0, .int 0, .int 0, .int 0, .ref r_fitPost, .ref r_fitEnd, .ref r_keptPosts, .int 0]))], [(r_all, .inl (T.2 0, 3952, .inl (upd (fun _ => 0) 6 (-1))))]] _ _ := G
  subst h_1
  refine lv_if_eq (tgt := 44) hx hb dX12_share_5 (by decide) (fun _ => ?_) (fun q => absurd (by decide) q)
  refine lv_iconst (v := (-1)) hx hb dX12_share_44 (by decide) ?_
  have G := G.sub (bs' := []) [] rfl
  exact z_iret C hr hlocks G (Nat.le_of_ble_eq_true rfl) (Nat.le_of_ble_eq_true rfl) dX12_share_45 ⟨rfl, rfl⟩
set_option maxHeartbeats 4000000 in
set_option maxRecDepth 100000 in
/-- longest: on a new object -/
theorem c_m_longest (l : Launch) (T : zTy) (y : Nat) (r_all : Nat) (r_has : Nat) (r_read : Nat) (r_posts : Nat) (r_shut : Nat) (r_here : Nat) (r_was : Nat) (r_came : Nat) (r_seenAt : Nat) (r_rowWorth : Nat) (r_farBy : Nat) (r_used : Nat) (r_fitPost : Nat) (r_fitEnd : Nat) (r_keptPosts : Nat) (p1 : Int32) (p2 : Int32) (p3 : Int32) (p4 : Int32) : zMi l T yX12_longest cX12_longest 9 (some .int) 5 0 0 [.ref y, .int p1, .int p2, .int p3, .int p4] [[(y, .inr (11, [.ref r_all, .ref r_has, .int 0, .int 0, .int 0, .int 0, .int 0, .int 0, .int 0, .int 0, .ref r_read, .int 0, .int 0, .int 0, .ref r_posts, .ref r_shut, .ref r_here, .int 0, .int 0, .int 0, .int 0, .ref r_was, .ref r_came, .ref r_seenAt, .ref r_rowWorth, .ref r_farBy, .ref r_used, .int 0, .int 0, .int 0, .int 0, .int 0, .int 0, .int 0, .int 0, .int 0, .int 0, .int 0, .int 0, .ref r_fitPost, .ref r_fitEnd, .ref r_keptPosts, .int 0]))], [(r_all, .inl (T.2 0, 3952, .inl (upd (fun _ => 0) 6 (-1))))]] (fun (r : Int32) bs => bs = [] ∧ r = (-1)) := by
  refine zMi_of (own := RX12) (by decide) rfl (Nat.le_of_ble_eq_true rfl) ?_
  intro p e s m args below meth c A ls C hr hlocks hnm hAe G hl
  have hx := C.1
  have hb := C.2.1
  have hl : lv_has ls 9 [(0, .ref y), (1, .int p1), (2, .int p2), (3, .int p3), (4, .int p4)] := hl
  refine lv_aload_n hx hb dX12_longest_0 rfl (lv_at hl 0 rfl) ?_
  refine lv_iload_n hx hb dX12_longest_1 rfl (lv_at hl 1 rfl) ?_
  refine z_Vi (bc := [[(y, .inr (11, [.ref r_all, .ref r_has, .int 0, .int 0, .int 0, .int 0, .int 0, .int 0, .int 0, .int 0, .ref r_read, .int 0, .int 0, .int 0, .ref r_posts, .ref r_shut, .ref r_here, .int 0, .int 0, .int 0, .int 0, .ref r_was, .ref r_came, .ref r_seenAt, .ref r_rowWorth, .ref r_farBy, .ref r_used, .int 0, .int 0, .int 0, .int 0, .int 0, .int 0, .int 0, .int 0, .int 0, .int 0, .int 0, .int 0, .ref r_fitPost, .ref r_fitEnd, .ref r_keptPosts, .int 0]))], [(r_all, .inl (T.2 0, 3952, .inl (upd (fun _ => 0) 6 (-1))))]]) (br := []) (As := [.int p1]) (rest := []) C G (c_isLand0 l T y r_all r_has r_read r_posts r_shut r_here r_was r_came r_seenAt r_rowWorth r_farBy r_used r_fitPost r_fitEnd r_keptPosts 0 0 0 0 0 0 0 0 0 0 0 0 0 0 0 0 0 0 0 0 0 0 0 0 0 0 0 0 (upd (fun _ => 0) 6 (-1)) p1 (by first | assumption | omega | rfl)) (kV_RX12_184 C.2.2.2.2 (Nat.le_of_ble_eq_true rfl) (Nat.le_of_ble_eq_true rfl)) [0, 1] [] rfl rfl (ci := 11) (qc := (RX12, TX12, 43)) rfl rfl (List.mem_flatten.mpr ⟨_, List.mem_of_getElem? (i := 0) rfl, List.mem_cons_self⟩) rfl rfl hl.1 dX12_longest_2 (Nat.le_of_ble_eq_true rfl) (Nat.le_of_ble_eq_true rfl) (fun r_2 b1 H locs hw G => ?_)
  obtain ⟨rfl, h_1⟩ := hw
  have G : zS T A s.heap s [[(y, .inr (11, [.ref r_all, .ref r_has, .int 0, .int 0, .int 0, .int 0, .int 0, .int 0, .int 0, .int 0, .ref r_read, .int 0, .int 0, .int 0, .ref r_posts, .ref r_shut, .ref r_here, .int 0, .int 0, .int 0, .int 0, .ref r_was, .ref r_came, .ref r_seenAt, .ref r_rowWorth, .ref r_farBy, .ref r_used, .int 0, .int 0, .int 0, .int 0, .int 0, .int 0, .int 0, .int 0, .int 0, .int 0, .int 0, .int 0, .ref r_fitPost, .ref r_fitEnd, .ref r_keptPosts, .int 0]))], [(r_all, .inl (T.2 0, 3952, .inl (upd (fun _ => 0) 6 (-1))))]] _ _ := G
  subst h_1
  refine lv_if_eq (tgt := 16) hx hb dX12_longest_5 (by decide) (fun _ => ?_) (fun q => absurd (by decide) q)
  refine lv_iconst (v := (-1)) hx hb dX12_longest_16 (by decide) ?_
  have G := G.sub (bs' := []) [] rfl
  exact z_iret C hr hlocks G (Nat.le_of_ble_eq_true rfl) (Nat.le_of_ble_eq_true rfl) dX12_longest_17 ⟨rfl, rfl⟩
set_option maxHeartbeats 4000000 in
set_option maxRecDepth 100000 in
/-- back: on a new object -/
theorem c_m_back (l : Launch) (T : zTy) (y : Nat) (r_all : Nat) (r_has : Nat) (r_read : Nat) (r_posts : Nat) (r_shut : Nat) (r_here : Nat) (r_was : Nat) (r_came : Nat) (r_seenAt : Nat) (r_rowWorth : Nat) (r_farBy : Nat) (r_used : Nat) (r_fitPost : Nat) (r_fitEnd : Nat) (r_keptPosts : Nat) (p1 : Int32) (p2 : Int32) : zMi l T yX12_back cX12_back 6 (some .int) 5 0 0 [.ref y, .int p1, .int p2] [[(y, .inr (11, [.ref r_all, .ref r_has, .int 0, .int 0, .int 0, .int 0, .int 0, .int 0, .int 0, .int 0, .ref r_read, .int 0, .int 0, .int 0, .ref r_posts, .ref r_shut, .ref r_here, .int 0, .int 0, .int 0, .int 0, .ref r_was, .ref r_came, .ref r_seenAt, .ref r_rowWorth, .ref r_farBy, .ref r_used, .int 0, .int 0, .int 0, .int 0, .int 0, .int 0, .int 0, .int 0, .int 0, .int 0, .int 0, .int 0, .ref r_fitPost, .ref r_fitEnd, .ref r_keptPosts, .int 0]))], [(r_all, .inl (T.2 0, 3952, .inl (upd (fun _ => 0) 6 (-1))))]] (fun (r : Int32) bs => bs = [] ∧ r = (-1)) := by
  refine zMi_of (own := RX12) (by decide) rfl (Nat.le_of_ble_eq_true rfl) ?_
  intro p e s m args below meth c A ls C hr hlocks hnm hAe G hl
  have hx := C.1
  have hb := C.2.1
  have hl : lv_has ls 6 [(0, .ref y), (1, .int p1), (2, .int p2)] := hl
  refine lv_aload_n hx hb dX12_back_0 rfl (lv_at hl 0 rfl) ?_
  refine lv_iload_n hx hb dX12_back_1 rfl (lv_at hl 1 rfl) ?_
  refine z_Vi (bc := [[(y, .inr (11, [.ref r_all, .ref r_has, .int 0, .int 0, .int 0, .int 0, .int 0, .int 0, .int 0, .int 0, .ref r_read, .int 0, .int 0, .int 0, .ref r_posts, .ref r_shut, .ref r_here, .int 0, .int 0, .int 0, .int 0, .ref r_was, .ref r_came, .ref r_seenAt, .ref r_rowWorth, .ref r_farBy, .ref r_used, .int 0, .int 0, .int 0, .int 0, .int 0, .int 0, .int 0, .int 0, .int 0, .int 0, .int 0, .int 0, .ref r_fitPost, .ref r_fitEnd, .ref r_keptPosts, .int 0]))], [(r_all, .inl (T.2 0, 3952, .inl (upd (fun _ => 0) 6 (-1))))]]) (br := []) (As := [.int p1]) (rest := []) C G (c_isLand0 l T y r_all r_has r_read r_posts r_shut r_here r_was r_came r_seenAt r_rowWorth r_farBy r_used r_fitPost r_fitEnd r_keptPosts 0 0 0 0 0 0 0 0 0 0 0 0 0 0 0 0 0 0 0 0 0 0 0 0 0 0 0 0 (upd (fun _ => 0) 6 (-1)) p1 (by first | assumption | omega | rfl)) (kV_RX12_184 C.2.2.2.2 (Nat.le_of_ble_eq_true rfl) (Nat.le_of_ble_eq_true rfl)) [0, 1] [] rfl rfl (ci := 11) (qc := (RX12, TX12, 43)) rfl rfl (List.mem_flatten.mpr ⟨_, List.mem_of_getElem? (i := 0) rfl, List.mem_cons_self⟩) rfl rfl hl.1 dX12_back_2 (Nat.le_of_ble_eq_true rfl) (Nat.le_of_ble_eq_true rfl) (fun r_2 b1 H locs hw G => ?_)
  obtain ⟨rfl, h_1⟩ := hw
  have G : zS T A s.heap s [[(y, .inr (11, [.ref r_all, .ref r_has, .int 0, .int 0, .int 0, .int 0, .int 0, .int 0, .int 0, .int 0, .ref r_read, .int 0, .int 0, .int 0, .ref r_posts, .ref r_shut, .ref r_here, .int 0, .int 0, .int 0, .int 0, .ref r_was, .ref r_came, .ref r_seenAt, .ref r_rowWorth, .ref r_farBy, .ref r_used, .int 0, .int 0, .int 0, .int 0, .int 0, .int 0, .int 0, .int 0, .int 0, .int 0, .int 0, .int 0, .ref r_fitPost, .ref r_fitEnd, .ref r_keptPosts, .int 0]))], [(r_all, .inl (T.2 0, 3952, .inl (upd (fun _ => 0) 6 (-1))))]] _ _ := G
  subst h_1
  refine lv_if_eq (tgt := 16) hx hb dX12_back_5 (by decide) (fun _ => ?_) (fun q => absurd (by decide) q)
  refine lv_iconst (v := (-1)) hx hb dX12_back_16 (by decide) ?_
  have G := G.sub (bs' := []) [] rfl
  exact z_iret C hr hlocks G (Nat.le_of_ble_eq_true rfl) (Nat.le_of_ble_eq_true rfl) dX12_back_17 ⟨rfl, rfl⟩
set_option maxHeartbeats 4000000 in
set_option maxRecDepth 100000 in
/-- keys: on a new object -/
theorem c_m_keys (l : Launch) (T : zTy) (y : Nat) (r_all : Nat) (r_has : Nat) (r_read : Nat) (r_posts : Nat) (r_shut : Nat) (r_here : Nat) (r_was : Nat) (r_came : Nat) (r_seenAt : Nat) (r_rowWorth : Nat) (r_farBy : Nat) (r_used : Nat) (r_fitPost : Nat) (r_fitEnd : Nat) (r_keptPosts : Nat) (p1 : Int32) (p2 : Int32) (p3 : Int32) : zMi l T yX12_keys cX12_keys 8 (some .int) 5 0 0 [.ref y, .int p1, .int p2, .int p3] [[(y, .inr (11, [.ref r_all, .ref r_has, .int 0, .int 0, .int 0, .int 0, .int 0, .int 0, .int 0, .int 0, .ref r_read, .int 0, .int 0, .int 0, .ref r_posts, .ref r_shut, .ref r_here, .int 0, .int 0, .int 0, .int 0, .ref r_was, .ref r_came, .ref r_seenAt, .ref r_rowWorth, .ref r_farBy, .ref r_used, .int 0, .int 0, .int 0, .int 0, .int 0, .int 0, .int 0, .int 0, .int 0, .int 0, .int 0, .int 0, .ref r_fitPost, .ref r_fitEnd, .ref r_keptPosts, .int 0]))], [(r_all, .inl (T.2 0, 3952, .inl (upd (fun _ => 0) 6 (-1))))]] (fun (r : Int32) bs => bs = [] ∧ r = (-2)) := by
  refine zMi_of (own := RX12) (by decide) rfl (Nat.le_of_ble_eq_true rfl) ?_
  intro p e s m args below meth c A ls C hr hlocks hnm hAe G hl
  have hx := C.1
  have hb := C.2.1
  have hl : lv_has ls 8 [(0, .ref y), (1, .int p1), (2, .int p2), (3, .int p3)] := hl
  refine lv_aload_n hx hb dX12_keys_0 rfl (lv_at hl 0 rfl) ?_
  refine lv_iload_n hx hb dX12_keys_1 rfl (lv_at hl 1 rfl) ?_
  refine z_Vi (bc := [[(y, .inr (11, [.ref r_all, .ref r_has, .int 0, .int 0, .int 0, .int 0, .int 0, .int 0, .int 0, .int 0, .ref r_read, .int 0, .int 0, .int 0, .ref r_posts, .ref r_shut, .ref r_here, .int 0, .int 0, .int 0, .int 0, .ref r_was, .ref r_came, .ref r_seenAt, .ref r_rowWorth, .ref r_farBy, .ref r_used, .int 0, .int 0, .int 0, .int 0, .int 0, .int 0, .int 0, .int 0, .int 0, .int 0, .int 0, .int 0, .ref r_fitPost, .ref r_fitEnd, .ref r_keptPosts, .int 0]))], [(r_all, .inl (T.2 0, 3952, .inl (upd (fun _ => 0) 6 (-1))))]]) (br := []) (As := [.int p1]) (rest := []) C G (c_isLand0 l T y r_all r_has r_read r_posts r_shut r_here r_was r_came r_seenAt r_rowWorth r_farBy r_used r_fitPost r_fitEnd r_keptPosts 0 0 0 0 0 0 0 0 0 0 0 0 0 0 0 0 0 0 0 0 0 0 0 0 0 0 0 0 (upd (fun _ => 0) 6 (-1)) p1 (by first | assumption | omega | rfl)) (kV_RX12_184 C.2.2.2.2 (Nat.le_of_ble_eq_true rfl) (Nat.le_of_ble_eq_true rfl)) [0, 1] [] rfl rfl (ci := 11) (qc := (RX12, TX12, 43)) rfl rfl (List.mem_flatten.mpr ⟨_, List.mem_of_getElem? (i := 0) rfl, List.mem_cons_self⟩) rfl rfl hl.1 dX12_keys_2 (Nat.le_of_ble_eq_true rfl) (Nat.le_of_ble_eq_true rfl) (fun r_2 b1 H locs hw G => ?_)
  obtain ⟨rfl, h_1⟩ := hw
  have G : zS T A s.heap s [[(y, .inr (11, [.ref r_all, .ref r_has, .int 0, .int 0, .int 0, .int 0, .int 0, .int 0, .int 0, .int 0, .ref r_read, .int 0, .int 0, .int 0, .ref r_posts, .ref r_shut, .ref r_here, .int 0, .int 0, .int 0, .int 0, .ref r_was, .ref r_came, .ref r_seenAt, .ref r_rowWorth, .ref r_farBy, .ref r_used, .int 0, .int 0, .int 0, .int 0, .int 0, .int 0, .int 0, .int 0, .int 0, .int 0, .int 0, .int 0, .ref r_fitPost, .ref r_fitEnd, .ref r_keptPosts, .int 0]))], [(r_all, .inl (T.2 0, 3952, .inl (upd (fun _ => 0) 6 (-1))))]] _ _ := G
  subst h_1
  refine lv_if_eq (tgt := 24) hx hb dX12_keys_5 (by decide) (fun _ => ?_) (fun q => absurd (by decide) q)
  refine lv_bipush (v := (-2)) hx hb dX12_keys_24 (by decide) ?_
  have G := G.sub (bs' := []) [] rfl
  exact z_iret C hr hlocks G (Nat.le_of_ble_eq_true rfl) (Nat.le_of_ble_eq_true rfl) dX12_keys_26 ⟨rfl, rfl⟩
set_option maxHeartbeats 4000000 in
set_option maxRecDepth 100000 in
/-- after: on a new object -/
theorem c_m_after (l : Launch) (T : zTy) (y : Nat) (r_all : Nat) (r_has : Nat) (r_read : Nat) (r_posts : Nat) (r_shut : Nat) (r_here : Nat) (r_was : Nat) (r_came : Nat) (r_seenAt : Nat) (r_rowWorth : Nat) (r_farBy : Nat) (r_used : Nat) (r_fitPost : Nat) (r_fitEnd : Nat) (r_keptPosts : Nat) (p1 : Int32) (p2 : Int32) (p3 : Int32) : zMi l T yX12_after cX12_after 4 (some .int) 5 0 0 [.ref y, .int p1, .int p2, .int p3] [[(y, .inr (11, [.ref r_all, .ref r_has, .int 0, .int 0, .int 0, .int 0, .int 0, .int 0, .int 0, .int 0, .ref r_read, .int 0, .int 0, .int 0, .ref r_posts, .ref r_shut, .ref r_here, .int 0, .int 0, .int 0, .int 0, .ref r_was, .ref r_came, .ref r_seenAt, .ref r_rowWorth, .ref r_farBy, .ref r_used, .int 0, .int 0, .int 0, .int 0, .int 0, .int 0, .int 0, .int 0, .int 0, .int 0, .int 0, .int 0, .ref r_fitPost, .ref r_fitEnd, .ref r_keptPosts, .int 0]))], [(r_all, .inl (T.2 0, 3952, .inl (upd (fun _ => 0) 6 (-1))))]] (fun (r : Int32) bs => bs = [] ∧ r = (-2)) := by
  refine zMi_of (own := RX12) (by decide) rfl (Nat.le_of_ble_eq_true rfl) ?_
  intro p e s m args below meth c A ls C hr hlocks hnm hAe G hl
  have hx := C.1
  have hb := C.2.1
  have hl : lv_has ls 4 [(0, .ref y), (1, .int p1), (2, .int p2), (3, .int p3)] := hl
  refine lv_aload_n hx hb dX12_after_0 rfl (lv_at hl 0 rfl) ?_
  refine lv_iload_n hx hb dX12_after_1 rfl (lv_at hl 1 rfl) ?_
  refine z_Vi (bc := [[(y, .inr (11, [.ref r_all, .ref r_has, .int 0, .int 0, .int 0, .int 0, .int 0, .int 0, .int 0, .int 0, .ref r_read, .int 0, .int 0, .int 0, .ref r_posts, .ref r_shut, .ref r_here, .int 0, .int 0, .int 0, .int 0, .ref r_was, .ref r_came, .ref r_seenAt, .ref r_rowWorth, .ref r_farBy, .ref r_used, .int 0, .int 0, .int 0, .int 0, .int 0, .int 0, .int 0, .int 0, .int 0, .int 0, .int 0, .int 0, .ref r_fitPost, .ref r_fitEnd, .ref r_keptPosts, .int 0]))], [(r_all, .inl (T.2 0, 3952, .inl (upd (fun _ => 0) 6 (-1))))]]) (br := []) (As := [.int p1]) (rest := []) C G (c_isLand0 l T y r_all r_has r_read r_posts r_shut r_here r_was r_came r_seenAt r_rowWorth r_farBy r_used r_fitPost r_fitEnd r_keptPosts 0 0 0 0 0 0 0 0 0 0 0 0 0 0 0 0 0 0 0 0 0 0 0 0 0 0 0 0 (upd (fun _ => 0) 6 (-1)) p1 (by first | assumption | omega | rfl)) (kV_RX12_184 C.2.2.2.2 (Nat.le_of_ble_eq_true rfl) (Nat.le_of_ble_eq_true rfl)) [0, 1] [] rfl rfl (ci := 11) (qc := (RX12, TX12, 43)) rfl rfl (List.mem_flatten.mpr ⟨_, List.mem_of_getElem? (i := 0) rfl, List.mem_cons_self⟩) rfl rfl hl.1 dX12_after_2 (Nat.le_of_ble_eq_true rfl) (Nat.le_of_ble_eq_true rfl) (fun r_2 b1 H locs hw G => ?_)
  obtain ⟨rfl, h_1⟩ := hw
  have G : zS T A s.heap s [[(y, .inr (11, [.ref r_all, .ref r_has, .int 0, .int 0, .int 0, .int 0, .int 0, .int 0, .int 0, .int 0, .ref r_read, .int 0, .int 0, .int 0, .ref r_posts, .ref r_shut, .ref r_here, .int 0, .int 0, .int 0, .int 0, .ref r_was, .ref r_came, .ref r_seenAt, .ref r_rowWorth, .ref r_farBy, .ref r_used, .int 0, .int 0, .int 0, .int 0, .int 0, .int 0, .int 0, .int 0, .int 0, .int 0, .int 0, .int 0, .ref r_fitPost, .ref r_fitEnd, .ref r_keptPosts, .int 0]))], [(r_all, .inl (T.2 0, 3952, .inl (upd (fun _ => 0) 6 (-1))))]] _ _ := G
  subst h_1
  refine lv_if_eq (tgt := 16) hx hb dX12_after_5 (by decide) (fun _ => ?_) (fun q => absurd (by decide) q)
  refine lv_bipush (v := (-2)) hx hb dX12_after_16 (by decide) ?_
  have G := G.sub (bs' := []) [] rfl
  exact z_iret C hr hlocks G (Nat.le_of_ble_eq_true rfl) (Nat.le_of_ble_eq_true rfl) dX12_after_18 ⟨rfl, rfl⟩
set_option maxHeartbeats 4000000 in
set_option maxRecDepth 100000 in
/-- odds: on a new object -/
theorem c_m_odds (l : Launch) (T : zTy) (y : Nat) (r_all : Nat) (r_has : Nat) (r_read : Nat) (r_posts : Nat) (r_shut : Nat) (r_here : Nat) (r_was : Nat) (r_came : Nat) (r_seenAt : Nat) (r_rowWorth : Nat) (r_farBy : Nat) (r_used : Nat) (r_fitPost : Nat) (r_fitEnd : Nat) (r_keptPosts : Nat) (p1 : Int32) (p2 : Int32) (p3 : Int32) (p4 : Int32) (p5 : Int32) : zMi l T yX12_odds cX12_odds 6 (some .int) 5 0 0 [.ref y, .int p1, .int p2, .int p3, .int p4, .int p5] [[(y, .inr (11, [.ref r_all, .ref r_has, .int 0, .int 0, .int 0, .int 0, .int 0, .int 0, .int 0, .int 0, .ref r_read, .int 0, .int 0, .int 0, .ref r_posts, .ref r_shut, .ref r_here, .int 0, .int 0, .int 0, .int 0, .ref r_was, .ref r_came, .ref r_seenAt, .ref r_rowWorth, .ref r_farBy, .ref r_used, .int 0, .int 0, .int 0, .int 0, .int 0, .int 0, .int 0, .int 0, .int 0, .int 0, .int 0, .int 0, .ref r_fitPost, .ref r_fitEnd, .ref r_keptPosts, .int 0]))], [(r_all, .inl (T.2 0, 3952, .inl (upd (fun _ => 0) 6 (-1))))]] (fun (r : Int32) bs => bs = [] ∧ r = (-1)) := by
  refine zMi_of (own := RX12) (by decide) rfl (Nat.le_of_ble_eq_true rfl) ?_
  intro p e s m args below meth c A ls C hr hlocks hnm hAe G hl
  have hx := C.1
  have hb := C.2.1
  have hl : lv_has ls 6 [(0, .ref y), (1, .int p1), (2, .int p2), (3, .int p3), (4, .int p4), (5, .int p5)] := hl
  refine lv_aload_n hx hb dX12_odds_0 rfl (lv_at hl 0 rfl) ?_
  refine lv_iload_n hx hb dX12_odds_1 rfl (lv_at hl 1 rfl) ?_
  refine z_Vi (bc := [[(y, .inr (11, [.ref r_all, .ref r_has, .int 0, .int 0, .int 0, .int 0, .int 0, .int 0, .int 0, .int 0, .ref r_read, .int 0, .int 0, .int 0, .ref r_posts, .ref r_shut, .ref r_here, .int 0, .int 0, .int 0, .int 0, .ref r_was, .ref r_came, .ref r_seenAt, .ref r_rowWorth, .ref r_farBy, .ref r_used, .int 0, .int 0, .int 0, .int 0, .int 0, .int 0, .int 0, .int 0, .int 0, .int 0, .int 0, .int 0, .ref r_fitPost, .ref r_fitEnd, .ref r_keptPosts, .int 0]))], [(r_all, .inl (T.2 0, 3952, .inl (upd (fun _ => 0) 6 (-1))))]]) (br := []) (As := [.int p1]) (rest := []) C G (c_isLand0 l T y r_all r_has r_read r_posts r_shut r_here r_was r_came r_seenAt r_rowWorth r_farBy r_used r_fitPost r_fitEnd r_keptPosts 0 0 0 0 0 0 0 0 0 0 0 0 0 0 0 0 0 0 0 0 0 0 0 0 0 0 0 0 (upd (fun _ => 0) 6 (-1)) p1 (by first | assumption | omega | rfl)) (kV_RX12_184 C.2.2.2.2 (Nat.le_of_ble_eq_true rfl) (Nat.le_of_ble_eq_true rfl)) [0, 1] [] rfl rfl (ci := 11) (qc := (RX12, TX12, 43)) rfl rfl (List.mem_flatten.mpr ⟨_, List.mem_of_getElem? (i := 0) rfl, List.mem_cons_self⟩) rfl rfl hl.1 dX12_odds_2 (Nat.le_of_ble_eq_true rfl) (Nat.le_of_ble_eq_true rfl) (fun r_2 b1 H locs hw G => ?_)
  obtain ⟨rfl, h_1⟩ := hw
  have G : zS T A s.heap s [[(y, .inr (11, [.ref r_all, .ref r_has, .int 0, .int 0, .int 0, .int 0, .int 0, .int 0, .int 0, .int 0, .ref r_read, .int 0, .int 0, .int 0, .ref r_posts, .ref r_shut, .ref r_here, .int 0, .int 0, .int 0, .int 0, .ref r_was, .ref r_came, .ref r_seenAt, .ref r_rowWorth, .ref r_farBy, .ref r_used, .int 0, .int 0, .int 0, .int 0, .int 0, .int 0, .int 0, .int 0, .int 0, .int 0, .int 0, .int 0, .ref r_fitPost, .ref r_fitEnd, .ref r_keptPosts, .int 0]))], [(r_all, .inl (T.2 0, 3952, .inl (upd (fun _ => 0) 6 (-1))))]] _ _ := G
  subst h_1
  refine lv_if_eq (tgt := 40) hx hb dX12_odds_5 (by decide) (fun _ => ?_) (fun q => absurd (by decide) q)
  refine lv_iconst (v := (-1)) hx hb dX12_odds_40 (by decide) ?_
  have G := G.sub (bs' := []) [] rfl
  exact z_iret C hr hlocks G (Nat.le_of_ble_eq_true rfl) (Nat.le_of_ble_eq_true rfl) dX12_odds_41 ⟨rfl, rfl⟩
set_option maxHeartbeats 4000000 in
set_option maxRecDepth 100000 in
/-- least: on a new object -/
theorem c_m_least (l : Launch) (T : zTy) (y : Nat) (r_all : Nat) (r_has : Nat) (r_read : Nat) (r_posts : Nat) (r_shut : Nat) (r_here : Nat) (r_was : Nat) (r_came : Nat) (r_seenAt : Nat) (r_rowWorth : Nat) (r_farBy : Nat) (r_used : Nat) (r_fitPost : Nat) (r_fitEnd : Nat) (r_keptPosts : Nat) (p1 : Int32) (p2 : Int32) (p3 : Int32) : zMi l T yX12_least cX12_least 4 (some .int) 5 0 0 [.ref y, .int p1, .int p2, .int p3] [[(y, .inr (11, [.ref r_all, .ref r_has, .int 0, .int 0, .int 0, .int 0, .int 0, .int 0, .int 0, .int 0, .ref r_read, .int 0, .int 0, .int 0, .ref r_posts, .ref r_shut, .ref r_here, .int 0, .int 0, .int 0, .int 0, .ref r_was, .ref r_came, .ref r_seenAt, .ref r_rowWorth, .ref r_farBy, .ref r_used, .int 0, .int 0, .int 0, .int 0, .int 0, .int 0, .int 0, .int 0, .int 0, .int 0, .int 0, .int 0, .ref r_fitPost, .ref r_fitEnd, .ref r_keptPosts, .int 0]))], [(r_all, .inl (T.2 0, 3952, .inl (upd (fun _ => 0) 6 (-1))))]] (fun (r : Int32) bs => bs = [] ∧ r = (-1)) := by
  refine zMi_of (own := RX12) (by decide) rfl (Nat.le_of_ble_eq_true rfl) ?_
  intro p e s m args below meth c A ls C hr hlocks hnm hAe G hl
  have hx := C.1
  have hb := C.2.1
  have hl : lv_has ls 4 [(0, .ref y), (1, .int p1), (2, .int p2), (3, .int p3)] := hl
  refine lv_aload_n hx hb dX12_least_0 rfl (lv_at hl 0 rfl) ?_
  refine lv_iload_n hx hb dX12_least_1 rfl (lv_at hl 1 rfl) ?_
  refine z_Vi (bc := [[(y, .inr (11, [.ref r_all, .ref r_has, .int 0, .int 0, .int 0, .int 0, .int 0, .int 0, .int 0, .int 0, .ref r_read, .int 0, .int 0, .int 0, .ref r_posts, .ref r_shut, .ref r_here, .int 0, .int 0, .int 0, .int 0, .ref r_was, .ref r_came, .ref r_seenAt, .ref r_rowWorth, .ref r_farBy, .ref r_used, .int 0, .int 0, .int 0, .int 0, .int 0, .int 0, .int 0, .int 0, .int 0, .int 0, .int 0, .int 0, .ref r_fitPost, .ref r_fitEnd, .ref r_keptPosts, .int 0]))], [(r_all, .inl (T.2 0, 3952, .inl (upd (fun _ => 0) 6 (-1))))]]) (br := []) (As := [.int p1]) (rest := []) C G (c_isLand0 l T y r_all r_has r_read r_posts r_shut r_here r_was r_came r_seenAt r_rowWorth r_farBy r_used r_fitPost r_fitEnd r_keptPosts 0 0 0 0 0 0 0 0 0 0 0 0 0 0 0 0 0 0 0 0 0 0 0 0 0 0 0 0 (upd (fun _ => 0) 6 (-1)) p1 (by first | assumption | omega | rfl)) (kV_RX12_184 C.2.2.2.2 (Nat.le_of_ble_eq_true rfl) (Nat.le_of_ble_eq_true rfl)) [0, 1] [] rfl rfl (ci := 11) (qc := (RX12, TX12, 43)) rfl rfl (List.mem_flatten.mpr ⟨_, List.mem_of_getElem? (i := 0) rfl, List.mem_cons_self⟩) rfl rfl hl.1 dX12_least_2 (Nat.le_of_ble_eq_true rfl) (Nat.le_of_ble_eq_true rfl) (fun r_2 b1 H locs hw G => ?_)
  obtain ⟨rfl, h_1⟩ := hw
  have G : zS T A s.heap s [[(y, .inr (11, [.ref r_all, .ref r_has, .int 0, .int 0, .int 0, .int 0, .int 0, .int 0, .int 0, .int 0, .ref r_read, .int 0, .int 0, .int 0, .ref r_posts, .ref r_shut, .ref r_here, .int 0, .int 0, .int 0, .int 0, .ref r_was, .ref r_came, .ref r_seenAt, .ref r_rowWorth, .ref r_farBy, .ref r_used, .int 0, .int 0, .int 0, .int 0, .int 0, .int 0, .int 0, .int 0, .int 0, .int 0, .int 0, .int 0, .ref r_fitPost, .ref r_fitEnd, .ref r_keptPosts, .int 0]))], [(r_all, .inl (T.2 0, 3952, .inl (upd (fun _ => 0) 6 (-1))))]] _ _ := G
  subst h_1
  refine lv_if_eq (tgt := 16) hx hb dX12_least_5 (by decide) (fun _ => ?_) (fun q => absurd (by decide) q)
  refine lv_iconst (v := (-1)) hx hb dX12_least_16 (by decide) ?_
  have G := G.sub (bs' := []) [] rfl
  exact z_iret C hr hlocks G (Nat.le_of_ble_eq_true rfl) (Nat.le_of_ble_eq_true rfl) dX12_least_17 ⟨rfl, rfl⟩

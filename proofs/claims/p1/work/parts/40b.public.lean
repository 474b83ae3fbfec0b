def zEnd (n : Int32) : Int32 := if n.toInt = 0 then 0 else -1
def zFault (n : Int32) : Int32 := if n.toInt = 0 then 0 else -1
def zCount (n : Int32) : Int32 := if 0 ≤ n.toInt ∧ n.toInt ≤ 2 then 0 else -2
def zImage (n : Int32) : Int32 := if 0 ≤ n.toInt ∧ n.toInt ≤ 2 then 1 else 0
set_option maxHeartbeats 4000000 in
set_option maxRecDepth 100000 in
/-- keep, sort 0 -/
theorem c_keep_0 (l : Launch) (T : zTy) (t0 : Nat) (n0 : Int32) (n1 : Int32) (n2 : Int32) (a1p : Nat) (a2p : Nat) (a3p : Nat) (a4p : Nat) (a5p : Nat) (f1p : Nat → Int32) (f3p : Nat → Option Nat) (f4p : Nat → Option Nat) (f5p : Nat → Option Nat) (l0p : Nat) (l1p : Nat) (d0p : Nat) (d1p : Nat) (g0p : Nat) (g1p : Nat) (w1p : va_W) (w2p : va_W) (w3p : va_W) (w4p : va_W) (w5p : va_W) (w6p : va_W) (h : Nat) (l0 : Nat) (d0 : Nat) (g0 : Nat) (tp : Nat) (r6 : Int32) (y1 : va_W) (y2 : va_W) (y3 : va_W) (hw0p : bLand T l0p w1p) (hw1p : bLand T l1p w2p) (hw2p : bDay T d0p w3p) (hw3p : bDay T d1p w4p) (hw4p : bLog T g0p w5p) (hw5p : bLog T g1p w6p) (he0p : f3p 0 = some l0p) (he1p : f3p 1 = some l1p) (he2p : f4p 0 = some d0p) (he3p : f4p 1 = some d1p) (he4p : f5p 0 = some g0p) (he5p : f5p 1 = some g1p) (hy1 : bLand T l0 y1) (hy2 : bDay T d0 y2) (hy3 : bLog T g0 y3) : zMv l T yX9_keep cX9_keep 4 2 0 0 [.ref t0, .int 0, .int 0, .ref h] [[(t0, .inr (8, [.ref a1p, .int n0, .int n1, .int n2, .ref a2p, .ref a3p, .ref a4p, .ref a5p]))], [(a1p, .inl (T.2 1, 600, .inl f1p))], [(a2p, .inl (T.2 0, 3, .inl (fun _ => 0)))], [(a3p, .inl (T.2 3, 2, .inr (.inr (.inr (.inr f3p)))))], [(a4p, .inl (T.2 4, 2, .inr (.inr (.inr (.inr f4p)))))], [(a5p, .inl (T.2 5, 2, .inr (.inr (.inr (.inr f5p)))))], w1p, w2p, w3p, w4p, w5p, w6p, [(h, .inr (7, [.ref l0, .ref d0, .ref g0, .int 0, .int (-1), .ref tp, .int 0, .int 0, .int 0, .int 0, .int r6, .int 0, .int 0]))], y1, y2, y3] (fun bs => bs = []) := by
  refine zMv_of (own := RX9) (by decide) rfl (Nat.le_of_ble_eq_true rfl) ?_
  intro p e s m args below meth c A ls C hr hlocks hnm hAe G hl
  have hx := C.1
  have hb := C.2.1
  have hl : lv_has ls 4 [(0, .ref t0), (1, .int 0), (2, .int 0), (3, .ref h)] := hl
  refine lv_iload_n hx hb dX9_keep_0 rfl (lv_at hl 1 rfl) ?_
  refine lv_if_lt (tgt := 18) hx hb dX9_keep_1 (by decide) (fun q => absurd q (by decide)) (fun _ => ?_)
  refine lv_iload_n hx hb dX9_keep_4 rfl (lv_at hl 1 rfl) ?_
  refine lv_iconst (v := 2) hx hb dX9_keep_5 (by decide) ?_
  refine lv_icmp_gt (tgt := 18) hx hb dX9_keep_6 (by decide) (fun q => absurd q (by decide)) (fun _ => ?_)
  refine lv_iload_n hx hb dX9_keep_9 rfl (lv_at hl 2 rfl) ?_
  refine lv_if_lt (tgt := 18) hx hb dX9_keep_10 (by decide) (fun q => absurd q (by decide)) (fun _ => ?_)
  refine lv_iload_n hx hb dX9_keep_13 rfl (lv_at hl 2 rfl) ?_
  refine lv_iconst (v := 2) hx hb dX9_keep_14 (by decide) ?_
  refine lv_icmp_lt (tgt := 19) hx hb dX9_keep_15 (by decide) (fun _ => ?_) (fun q => absurd (by decide) q)
  refine lv_iload_n hx hb dX9_keep_19 rfl (lv_at hl 1 rfl) ?_
  refine lv_if_ne (tgt := 39) hx hb dX9_keep_20 (by decide) (fun q => absurd (by decide) q) (fun _ => ?_)
  refine lv_aload_n hx hb dX9_keep_23 rfl (lv_at hl 0 rfl) ?_
  refine z_get C G clX9 0 rfl 5 (by decide) m_fl_RX9_26 rfl dX9_keep_24 ?_
  refine lv_iload_n hx hb dX9_keep_27 rfl (lv_at hl 2 rfl) ?_
  refine z_ald C G 3 3 rfl rfl (vp_in_nI (n := 0) (by decide) (by decide)) dX9_keep_28 ?_
  rw [show f3p ((0 : Int32).toNatClampNeg) = some l0p from he0p]
  refine lv_aload_n hx hb dX9_keep_29 rfl (lv_at hl 3 rfl) ?_
  refine z_get C G clX7 12 rfl 0 (by decide) m_fl_RX9_47 rfl dX9_keep_30 ?_
  refine z_Vv (bc := [w1p, y1]) (br := [[(t0, .inr (8, [.ref a1p, .int n0, .int n1, .int n2, .ref a2p, .ref a3p, .ref a4p, .ref a5p]))], [(a1p, .inl (T.2 1, 600, .inl f1p))], [(a2p, .inl (T.2 0, 3, .inl (fun _ => 0)))], [(a3p, .inl (T.2 3, 2, .inr (.inr (.inr (.inr f3p)))))], [(a4p, .inl (T.2 4, 2, .inr (.inr (.inr (.inr f4p)))))], [(a5p, .inl (T.2 5, 2, .inr (.inr (.inr (.inr f5p)))))], w2p, w3p, w4p, w5p, w6p, [(h, .inr (7, [.ref l0, .ref d0, .ref g0, .int 0, .int (-1), .ref tp, .int 0, .int 0, .int 0, .int 0, .int r6, .int 0, .int 0]))], y2, y3]) (As := [.ref l0]) (rest := []) C G (c_Land_takeAll l T l0p l0 w1p y1 hw0p hy1) (kV_RX9_53 C.2.2.2.2 (Nat.le_of_ble_eq_true rfl) (Nat.le_of_ble_eq_true rfl)) [6, 13] [0, 1, 2, 3, 4, 5, 7, 8, 9, 10, 11, 12, 14, 15] rfl rfl (ci := 4) (qc := (RX4, TX4, 6)) rfl rfl (List.mem_flatten.mpr ⟨_, List.mem_of_getElem? (i := 0) rfl, (bLand_mem hw0p).choose_spec⟩) rfl rfl hl.1 dX9_keep_33 (Nat.le_of_ble_eq_true rfl) (Nat.le_of_ble_eq_true rfl) (fun b1 H locs hw G => ?_)
  obtain ⟨w2_1, z2_2, rfl, h_3, h_4⟩ := hw
  have G : zS T A s.heap s [[(t0, .inr (8, [.ref a1p, .int n0, .int n1, .int n2, .ref a2p, .ref a3p, .ref a4p, .ref a5p]))], [(a1p, .inl (T.2 1, 600, .inl f1p))], [(a2p, .inl (T.2 0, 3, .inl (fun _ => 0)))], [(a3p, .inl (T.2 3, 2, .inr (.inr (.inr (.inr f3p)))))], [(a4p, .inl (T.2 4, 2, .inr (.inr (.inr (.inr f4p)))))], [(a5p, .inl (T.2 5, 2, .inr (.inr (.inr (.inr f5p)))))], w2p, w3p, w4p, w5p, w6p, [(h, .inr (7, [.ref l0, .ref d0, .ref g0, .int 0, .int (-1), .ref tp, .int 0, .int 0, .int 0, .int 0, .int r6, .int 0, .int 0]))], y2, y3, w2_1, z2_2] _ _ := G
  refine lv_goto (tgt := 73) hx hb dX9_keep_36 (by decide) ?_
  refine lv_aload_n hx hb dX9_keep_73 rfl (lv_at hl 0 rfl) ?_
  refine z_get C G clX9 0 rfl 4 (by decide) m_fl_RX9_19 rfl dX9_keep_74 ?_
  refine lv_iload_n hx hb dX9_keep_77 rfl (lv_at hl 1 rfl) ?_
  refine lv_aload_n hx hb dX9_keep_78 rfl (lv_at hl 0 rfl) ?_
  refine z_get C G clX9 0 rfl 4 (by decide) m_fl_RX9_19 rfl dX9_keep_79 ?_
  refine lv_iload_n hx hb dX9_keep_82 rfl (lv_at hl 1 rfl) ?_
  refine z_ild C G 2 rfl (vp_in_nI (n := 0) (by decide) (by decide)) dX9_keep_83 ?_
  refine lv_topi (fun v_6 ev_6 => ?_)
  obtain rfl : v_6 = 0 := ev_6
  refine lv_iload_n hx hb dX9_keep_84 rfl (lv_at hl 2 rfl) ?_
  refine lv_iconst (v := 1) hx hb dX9_keep_85 (by decide) ?_
  refine lv_iadd hx hb dX9_keep_86 ?_
  refine lv_topi (fun y_7 ey_7 => ?_)
  obtain rfl : y_7 = 1 := ey_7.trans (by decide)
  refine va_mmax hx hb (C.2.2.1.trans hl.1.symm) C.2.2.2.1 (C.2.2.2.2 _ m_ml_RX9_71) (C.2.2.2.2 _ m_st_math_max) (C.2.2.2.2 _ m_ii_math) (C.2.2.2.2 _ m_co_math_max) (Nat.le_of_ble_eq_true rfl) (Nat.le_of_ble_eq_true rfl) (Nat.le_of_ble_eq_true rfl) (Nat.le_of_ble_eq_true rfl) dX9_keep_87 ?_
  refine lv_topi (fun v_8 ev_8 => ?_)
  obtain rfl : v_8 = 1 := ev_8.trans (by decide)
  refine z_ist C G 2 rfl (vp_in_nI (n := 0) (by decide) (by decide)) dX9_keep_90 (fun H locs G => ?_)
  have G : zS T A s.heap s [[(t0, .inr (8, [.ref a1p, .int n0, .int n1, .int n2, .ref a2p, .ref a3p, .ref a4p, .ref a5p]))], [(a1p, .inl (T.2 1, 600, .inl f1p))], [(a2p, .inl (T.2 0, 3, .inl (upd (fun _ => 0) 0 1)))], [(a3p, .inl (T.2 3, 2, .inr (.inr (.inr (.inr f3p)))))], [(a4p, .inl (T.2 4, 2, .inr (.inr (.inr (.inr f4p)))))], [(a5p, .inl (T.2 5, 2, .inr (.inr (.inr (.inr f5p)))))], w2p, w3p, w4p, w5p, w6p, [(h, .inr (7, [.ref l0, .ref d0, .ref g0, .int 0, .int (-1), .ref tp, .int 0, .int 0, .int 0, .int 0, .int r6, .int 0, .int 0]))], y2, y3, w2_1, z2_2] _ _ := G
  have G := G.sub (bs' := []) [] rfl
  exact z_vret C hr hlocks G (Nat.le_of_ble_eq_true rfl) (Nat.le_of_ble_eq_true rfl) dX9_keep_91 rfl
set_option maxHeartbeats 4000000 in
set_option maxRecDepth 100000 in
/-- keep, sort 1 -/
theorem c_keep_1 (l : Launch) (T : zTy) (t0 : Nat) (n0 : Int32) (n1 : Int32) (n2 : Int32) (a1p : Nat) (a2p : Nat) (a3p : Nat) (a4p : Nat) (a5p : Nat) (f1p : Nat → Int32) (f3p : Nat → Option Nat) (f4p : Nat → Option Nat) (f5p : Nat → Option Nat) (l0p : Nat) (l1p : Nat) (d0p : Nat) (d1p : Nat) (g0p : Nat) (g1p : Nat) (w1p : va_W) (w2p : va_W) (w3p : va_W) (w4p : va_W) (w5p : va_W) (w6p : va_W) (h : Nat) (l0 : Nat) (d0 : Nat) (g0 : Nat) (tp : Nat) (r6 : Int32) (y1 : va_W) (y2 : va_W) (y3 : va_W) (hw0p : bLand T l0p w1p) (hw1p : bLand T l1p w2p) (hw2p : bDay T d0p w3p) (hw3p : bDay T d1p w4p) (hw4p : bLog T g0p w5p) (hw5p : bLog T g1p w6p) (he0p : f3p 0 = some l0p) (he1p : f3p 1 = some l1p) (he2p : f4p 0 = some d0p) (he3p : f4p 1 = some d1p) (he4p : f5p 0 = some g0p) (he5p : f5p 1 = some g1p) (hy1 : bLand T l0 y1) (hy2 : bDay T d0 y2) (hy3 : bLog T g0 y3) : zMv l T yX9_keep cX9_keep 4 2 0 0 [.ref t0, .int 1, .int 0, .ref h] [[(t0, .inr (8, [.ref a1p, .int n0, .int n1, .int n2, .ref a2p, .ref a3p, .ref a4p, .ref a5p]))], [(a1p, .inl (T.2 1, 600, .inl f1p))], [(a2p, .inl (T.2 0, 3, .inl (fun _ => 0)))], [(a3p, .inl (T.2 3, 2, .inr (.inr (.inr (.inr f3p)))))], [(a4p, .inl (T.2 4, 2, .inr (.inr (.inr (.inr f4p)))))], [(a5p, .inl (T.2 5, 2, .inr (.inr (.inr (.inr f5p)))))], w1p, w2p, w3p, w4p, w5p, w6p, [(h, .inr (7, [.ref l0, .ref d0, .ref g0, .int 0, .int (-1), .ref tp, .int 0, .int 0, .int 0, .int 0, .int r6, .int 0, .int 0]))], y1, y2, y3] (fun bs => bs = []) := by
  refine zMv_of (own := RX9) (by decide) rfl (Nat.le_of_ble_eq_true rfl) ?_
  intro p e s m args below meth c A ls C hr hlocks hnm hAe G hl
  have hx := C.1
  have hb := C.2.1
  have hl : lv_has ls 4 [(0, .ref t0), (1, .int 1), (2, .int 0), (3, .ref h)] := hl
  refine lv_iload_n hx hb dX9_keep_0 rfl (lv_at hl 1 rfl) ?_
  refine lv_if_lt (tgt := 18) hx hb dX9_keep_1 (by decide) (fun q => absurd q (by decide)) (fun _ => ?_)
  refine lv_iload_n hx hb dX9_keep_4 rfl (lv_at hl 1 rfl) ?_
  refine lv_iconst (v := 2) hx hb dX9_keep_5 (by decide) ?_
  refine lv_icmp_gt (tgt := 18) hx hb dX9_keep_6 (by decide) (fun q => absurd q (by decide)) (fun _ => ?_)
  refine lv_iload_n hx hb dX9_keep_9 rfl (lv_at hl 2 rfl) ?_
  refine lv_if_lt (tgt := 18) hx hb dX9_keep_10 (by decide) (fun q => absurd q (by decide)) (fun _ => ?_)
  refine lv_iload_n hx hb dX9_keep_13 rfl (lv_at hl 2 rfl) ?_
  refine lv_iconst (v := 2) hx hb dX9_keep_14 (by decide) ?_
  refine lv_icmp_lt (tgt := 19) hx hb dX9_keep_15 (by decide) (fun _ => ?_) (fun q => absurd (by decide) q)
  refine lv_iload_n hx hb dX9_keep_19 rfl (lv_at hl 1 rfl) ?_
  refine lv_if_ne (tgt := 39) hx hb dX9_keep_20 (by decide) (fun _ => ?_) (fun q => absurd q (by decide))
  refine lv_iload_n hx hb dX9_keep_39 rfl (lv_at hl 1 rfl) ?_
  refine lv_iconst (v := 1) hx hb dX9_keep_40 (by decide) ?_
  refine lv_icmp_ne (tgt := 60) hx hb dX9_keep_41 (by decide) (fun q => absurd (by decide) q) (fun _ => ?_)
  refine lv_aload_n hx hb dX9_keep_44 rfl (lv_at hl 0 rfl) ?_
  refine z_get C G clX9 0 rfl 6 (by decide) m_fl_RX9_33 rfl dX9_keep_45 ?_
  refine lv_iload_n hx hb dX9_keep_48 rfl (lv_at hl 2 rfl) ?_
  refine z_ald C G 4 4 rfl rfl (vp_in_nI (n := 0) (by decide) (by decide)) dX9_keep_49 ?_
  rw [show f4p ((0 : Int32).toNatClampNeg) = some d0p from he2p]
  refine lv_aload_n hx hb dX9_keep_50 rfl (lv_at hl 3 rfl) ?_
  refine z_get C G clX7 12 rfl 1 (by decide) m_fl_RX9_57 rfl dX9_keep_51 ?_
  refine z_Vv (bc := [w3p, y2]) (br := [[(t0, .inr (8, [.ref a1p, .int n0, .int n1, .int n2, .ref a2p, .ref a3p, .ref a4p, .ref a5p]))], [(a1p, .inl (T.2 1, 600, .inl f1p))], [(a2p, .inl (T.2 0, 3, .inl (fun _ => 0)))], [(a3p, .inl (T.2 3, 2, .inr (.inr (.inr (.inr f3p)))))], [(a4p, .inl (T.2 4, 2, .inr (.inr (.inr (.inr f4p)))))], [(a5p, .inl (T.2 5, 2, .inr (.inr (.inr (.inr f5p)))))], w1p, w2p, w4p, w5p, w6p, [(h, .inr (7, [.ref l0, .ref d0, .ref g0, .int 0, .int (-1), .ref tp, .int 0, .int 0, .int 0, .int 0, .int r6, .int 0, .int 0]))], y1, y3]) (As := [.ref d0]) (rest := []) C G (c_Day_takeAll l T d0p d0 w3p y2 hw2p hy2) (kV_RX9_61 C.2.2.2.2 (Nat.le_of_ble_eq_true rfl) (Nat.le_of_ble_eq_true rfl)) [8, 14] [0, 1, 2, 3, 4, 5, 6, 7, 9, 10, 11, 12, 13, 15] rfl rfl (ci := 2) (qc := (RX2, TX2, 4)) rfl rfl (List.mem_flatten.mpr ⟨_, List.mem_of_getElem? (i := 0) rfl, (bDay_mem hw2p).choose_spec⟩) rfl rfl hl.1 dX9_keep_54 (Nat.le_of_ble_eq_true rfl) (Nat.le_of_ble_eq_true rfl) (fun b1 H locs hw G => ?_)
  obtain ⟨w2_1, z2_2, rfl, h_3, h_4⟩ := hw
  have G : zS T A s.heap s [[(t0, .inr (8, [.ref a1p, .int n0, .int n1, .int n2, .ref a2p, .ref a3p, .ref a4p, .ref a5p]))], [(a1p, .inl (T.2 1, 600, .inl f1p))], [(a2p, .inl (T.2 0, 3, .inl (fun _ => 0)))], [(a3p, .inl (T.2 3, 2, .inr (.inr (.inr (.inr f3p)))))], [(a4p, .inl (T.2 4, 2, .inr (.inr (.inr (.inr f4p)))))], [(a5p, .inl (T.2 5, 2, .inr (.inr (.inr (.inr f5p)))))], w1p, w2p, w4p, w5p, w6p, [(h, .inr (7, [.ref l0, .ref d0, .ref g0, .int 0, .int (-1), .ref tp, .int 0, .int 0, .int 0, .int 0, .int r6, .int 0, .int 0]))], y1, y3, w2_1, z2_2] _ _ := G
  refine lv_goto (tgt := 73) hx hb dX9_keep_57 (by decide) ?_
  refine lv_aload_n hx hb dX9_keep_73 rfl (lv_at hl 0 rfl) ?_
  refine z_get C G clX9 0 rfl 4 (by decide) m_fl_RX9_19 rfl dX9_keep_74 ?_
  refine lv_iload_n hx hb dX9_keep_77 rfl (lv_at hl 1 rfl) ?_
  refine lv_aload_n hx hb dX9_keep_78 rfl (lv_at hl 0 rfl) ?_
  refine z_get C G clX9 0 rfl 4 (by decide) m_fl_RX9_19 rfl dX9_keep_79 ?_
  refine lv_iload_n hx hb dX9_keep_82 rfl (lv_at hl 1 rfl) ?_
  refine z_ild C G 2 rfl (vp_in_nI (n := 1) (by decide) (by decide)) dX9_keep_83 ?_
  refine lv_topi (fun v_6 ev_6 => ?_)
  obtain rfl : v_6 = 0 := ev_6
  refine lv_iload_n hx hb dX9_keep_84 rfl (lv_at hl 2 rfl) ?_
  refine lv_iconst (v := 1) hx hb dX9_keep_85 (by decide) ?_
  refine lv_iadd hx hb dX9_keep_86 ?_
  refine lv_topi (fun y_7 ey_7 => ?_)
  obtain rfl : y_7 = 1 := ey_7.trans (by decide)
  refine va_mmax hx hb (C.2.2.1.trans hl.1.symm) C.2.2.2.1 (C.2.2.2.2 _ m_ml_RX9_71) (C.2.2.2.2 _ m_st_math_max) (C.2.2.2.2 _ m_ii_math) (C.2.2.2.2 _ m_co_math_max) (Nat.le_of_ble_eq_true rfl) (Nat.le_of_ble_eq_true rfl) (Nat.le_of_ble_eq_true rfl) (Nat.le_of_ble_eq_true rfl) dX9_keep_87 ?_
  refine lv_topi (fun v_8 ev_8 => ?_)
  obtain rfl : v_8 = 1 := ev_8.trans (by decide)
  refine z_ist C G 2 rfl (vp_in_nI (n := 1) (by decide) (by decide)) dX9_keep_90 (fun H locs G => ?_)
  have G : zS T A s.heap s [[(t0, .inr (8, [.ref a1p, .int n0, .int n1, .int n2, .ref a2p, .ref a3p, .ref a4p, .ref a5p]))], [(a1p, .inl (T.2 1, 600, .inl f1p))], [(a2p, .inl (T.2 0, 3, .inl (upd (fun _ => 0) 1 1)))], [(a3p, .inl (T.2 3, 2, .inr (.inr (.inr (.inr f3p)))))], [(a4p, .inl (T.2 4, 2, .inr (.inr (.inr (.inr f4p)))))], [(a5p, .inl (T.2 5, 2, .inr (.inr (.inr (.inr f5p)))))], w1p, w2p, w4p, w5p, w6p, [(h, .inr (7, [.ref l0, .ref d0, .ref g0, .int 0, .int (-1), .ref tp, .int 0, .int 0, .int 0, .int 0, .int r6, .int 0, .int 0]))], y1, y3, w2_1, z2_2] _ _ := G
  have G := G.sub (bs' := []) [] rfl
  exact z_vret C hr hlocks G (Nat.le_of_ble_eq_true rfl) (Nat.le_of_ble_eq_true rfl) dX9_keep_91 rfl
set_option maxHeartbeats 4000000 in
set_option maxRecDepth 100000 in
/-- keep, sort 2 -/
theorem c_keep_2 (l : Launch) (T : zTy) (t0 : Nat) (n0 : Int32) (n1 : Int32) (n2 : Int32) (a1p : Nat) (a2p : Nat) (a3p : Nat) (a4p : Nat) (a5p : Nat) (f1p : Nat → Int32) (f3p : Nat → Option Nat) (f4p : Nat → Option Nat) (f5p : Nat → Option Nat) (l0p : Nat) (l1p : Nat) (d0p : Nat) (d1p : Nat) (g0p : Nat) (g1p : Nat) (w1p : va_W) (w2p : va_W) (w3p : va_W) (w4p : va_W) (w5p : va_W) (w6p : va_W) (h : Nat) (l0 : Nat) (d0 : Nat) (g0 : Nat) (tp : Nat) (r6 : Int32) (y1 : va_W) (y2 : va_W) (y3 : va_W) (hw0p : bLand T l0p w1p) (hw1p : bLand T l1p w2p) (hw2p : bDay T d0p w3p) (hw3p : bDay T d1p w4p) (hw4p : bLog T g0p w5p) (hw5p : bLog T g1p w6p) (he0p : f3p 0 = some l0p) (he1p : f3p 1 = some l1p) (he2p : f4p 0 = some d0p) (he3p : f4p 1 = some d1p) (he4p : f5p 0 = some g0p) (he5p : f5p 1 = some g1p) (hy1 : bLand T l0 y1) (hy2 : bDay T d0 y2) (hy3 : bLog T g0 y3) : zMv l T yX9_keep cX9_keep 4 2 0 0 [.ref t0, .int 2, .int 0, .ref h] [[(t0, .inr (8, [.ref a1p, .int n0, .int n1, .int n2, .ref a2p, .ref a3p, .ref a4p, .ref a5p]))], [(a1p, .inl (T.2 1, 600, .inl f1p))], [(a2p, .inl (T.2 0, 3, .inl (fun _ => 0)))], [(a3p, .inl (T.2 3, 2, .inr (.inr (.inr (.inr f3p)))))], [(a4p, .inl (T.2 4, 2, .inr (.inr (.inr (.inr f4p)))))], [(a5p, .inl (T.2 5, 2, .inr (.inr (.inr (.inr f5p)))))], w1p, w2p, w3p, w4p, w5p, w6p, [(h, .inr (7, [.ref l0, .ref d0, .ref g0, .int 0, .int (-1), .ref tp, .int 0, .int 0, .int 0, .int 0, .int r6, .int 0, .int 0]))], y1, y2, y3] (fun bs => bs = []) := by
  refine zMv_of (own := RX9) (by decide) rfl (Nat.le_of_ble_eq_true rfl) ?_
  intro p e s m args below meth c A ls C hr hlocks hnm hAe G hl
  have hx := C.1
  have hb := C.2.1
  have hl : lv_has ls 4 [(0, .ref t0), (1, .int 2), (2, .int 0), (3, .ref h)] := hl
  refine lv_iload_n hx hb dX9_keep_0 rfl (lv_at hl 1 rfl) ?_
  refine lv_if_lt (tgt := 18) hx hb dX9_keep_1 (by decide) (fun q => absurd q (by decide)) (fun _ => ?_)
  refine lv_iload_n hx hb dX9_keep_4 rfl (lv_at hl 1 rfl) ?_
  refine lv_iconst (v := 2) hx hb dX9_keep_5 (by decide) ?_
  refine lv_icmp_gt (tgt := 18) hx hb dX9_keep_6 (by decide) (fun q => absurd q (by decide)) (fun _ => ?_)
  refine lv_iload_n hx hb dX9_keep_9 rfl (lv_at hl 2 rfl) ?_
  refine lv_if_lt (tgt := 18) hx hb dX9_keep_10 (by decide) (fun q => absurd q (by decide)) (fun _ => ?_)
  refine lv_iload_n hx hb dX9_keep_13 rfl (lv_at hl 2 rfl) ?_
  refine lv_iconst (v := 2) hx hb dX9_keep_14 (by decide) ?_
  refine lv_icmp_lt (tgt := 19) hx hb dX9_keep_15 (by decide) (fun _ => ?_) (fun q => absurd (by decide) q)
  refine lv_iload_n hx hb dX9_keep_19 rfl (lv_at hl 1 rfl) ?_
  refine lv_if_ne (tgt := 39) hx hb dX9_keep_20 (by decide) (fun _ => ?_) (fun q => absurd q (by decide))
  refine lv_iload_n hx hb dX9_keep_39 rfl (lv_at hl 1 rfl) ?_
  refine lv_iconst (v := 1) hx hb dX9_keep_40 (by decide) ?_
  refine lv_icmp_ne (tgt := 60) hx hb dX9_keep_41 (by decide) (fun _ => ?_) (fun q => absurd q (by decide))
  refine lv_aload_n hx hb dX9_keep_60 rfl (lv_at hl 0 rfl) ?_
  refine z_get C G clX9 0 rfl 7 (by decide) m_fl_RX9_40 rfl dX9_keep_61 ?_
  refine lv_iload_n hx hb dX9_keep_64 rfl (lv_at hl 2 rfl) ?_
  refine z_ald C G 5 5 rfl rfl (vp_in_nI (n := 0) (by decide) (by decide)) dX9_keep_65 ?_
  rw [show f5p ((0 : Int32).toNatClampNeg) = some g0p from he4p]
  refine lv_aload_n hx hb dX9_keep_66 rfl (lv_at hl 3 rfl) ?_
  refine z_get C G clX7 12 rfl 2 (by decide) m_fl_RX9_64 rfl dX9_keep_67 ?_
  refine z_Vv (bc := [w5p, y3]) (br := [[(t0, .inr (8, [.ref a1p, .int n0, .int n1, .int n2, .ref a2p, .ref a3p, .ref a4p, .ref a5p]))], [(a1p, .inl (T.2 1, 600, .inl f1p))], [(a2p, .inl (T.2 0, 3, .inl (fun _ => 0)))], [(a3p, .inl (T.2 3, 2, .inr (.inr (.inr (.inr f3p)))))], [(a4p, .inl (T.2 4, 2, .inr (.inr (.inr (.inr f4p)))))], [(a5p, .inl (T.2 5, 2, .inr (.inr (.inr (.inr f5p)))))], w1p, w2p, w3p, w4p, w6p, [(h, .inr (7, [.ref l0, .ref d0, .ref g0, .int 0, .int (-1), .ref tp, .int 0, .int 0, .int 0, .int 0, .int r6, .int 0, .int 0]))], y1, y2]) (As := [.ref g0]) (rest := []) C G (c_Log_takeAll l T g0p g0 w5p y3 hw4p hy3) (kV_RX9_68 C.2.2.2.2 (Nat.le_of_ble_eq_true rfl) (Nat.le_of_ble_eq_true rfl)) [10, 15] [0, 1, 2, 3, 4, 5, 6, 7, 8, 9, 11, 12, 13, 14] rfl rfl (ci := 5) (qc := (RX5, TX5, 3)) rfl rfl (List.mem_flatten.mpr ⟨_, List.mem_of_getElem? (i := 0) rfl, (bLog_mem hw4p).choose_spec⟩) rfl rfl hl.1 dX9_keep_70 (Nat.le_of_ble_eq_true rfl) (Nat.le_of_ble_eq_true rfl) (fun b1 H locs hw G => ?_)
  obtain ⟨w2_1, z2_2, rfl, h_3, h_4⟩ := hw
  have G : zS T A s.heap s [[(t0, .inr (8, [.ref a1p, .int n0, .int n1, .int n2, .ref a2p, .ref a3p, .ref a4p, .ref a5p]))], [(a1p, .inl (T.2 1, 600, .inl f1p))], [(a2p, .inl (T.2 0, 3, .inl (fun _ => 0)))], [(a3p, .inl (T.2 3, 2, .inr (.inr (.inr (.inr f3p)))))], [(a4p, .inl (T.2 4, 2, .inr (.inr (.inr (.inr f4p)))))], [(a5p, .inl (T.2 5, 2, .inr (.inr (.inr (.inr f5p)))))], w1p, w2p, w3p, w4p, w6p, [(h, .inr (7, [.ref l0, .ref d0, .ref g0, .int 0, .int (-1), .ref tp, .int 0, .int 0, .int 0, .int 0, .int r6, .int 0, .int 0]))], y1, y2, w2_1, z2_2] _ _ := G
  refine lv_aload_n hx hb dX9_keep_73 rfl (lv_at hl 0 rfl) ?_
  refine z_get C G clX9 0 rfl 4 (by decide) m_fl_RX9_19 rfl dX9_keep_74 ?_
  refine lv_iload_n hx hb dX9_keep_77 rfl (lv_at hl 1 rfl) ?_
  refine lv_aload_n hx hb dX9_keep_78 rfl (lv_at hl 0 rfl) ?_
  refine z_get C G clX9 0 rfl 4 (by decide) m_fl_RX9_19 rfl dX9_keep_79 ?_
  refine lv_iload_n hx hb dX9_keep_82 rfl (lv_at hl 1 rfl) ?_
  refine z_ild C G 2 rfl (vp_in_nI (n := 2) (by decide) (by decide)) dX9_keep_83 ?_
  refine lv_topi (fun v_6 ev_6 => ?_)
  obtain rfl : v_6 = 0 := ev_6
  refine lv_iload_n hx hb dX9_keep_84 rfl (lv_at hl 2 rfl) ?_
  refine lv_iconst (v := 1) hx hb dX9_keep_85 (by decide) ?_
  refine lv_iadd hx hb dX9_keep_86 ?_
  refine lv_topi (fun y_7 ey_7 => ?_)
  obtain rfl : y_7 = 1 := ey_7.trans (by decide)
  refine va_mmax hx hb (C.2.2.1.trans hl.1.symm) C.2.2.2.1 (C.2.2.2.2 _ m_ml_RX9_71) (C.2.2.2.2 _ m_st_math_max) (C.2.2.2.2 _ m_ii_math) (C.2.2.2.2 _ m_co_math_max) (Nat.le_of_ble_eq_true rfl) (Nat.le_of_ble_eq_true rfl) (Nat.le_of_ble_eq_true rfl) (Nat.le_of_ble_eq_true rfl) dX9_keep_87 ?_
  refine lv_topi (fun v_8 ev_8 => ?_)
  obtain rfl : v_8 = 1 := ev_8.trans (by decide)
  refine z_ist C G 2 rfl (vp_in_nI (n := 2) (by decide) (by decide)) dX9_keep_90 (fun H locs G => ?_)
  have G : zS T A s.heap s [[(t0, .inr (8, [.ref a1p, .int n0, .int n1, .int n2, .ref a2p, .ref a3p, .ref a4p, .ref a5p]))], [(a1p, .inl (T.2 1, 600, .inl f1p))], [(a2p, .inl (T.2 0, 3, .inl (upd (fun _ => 0) 2 1)))], [(a3p, .inl (T.2 3, 2, .inr (.inr (.inr (.inr f3p)))))], [(a4p, .inl (T.2 4, 2, .inr (.inr (.inr (.inr f4p)))))], [(a5p, .inl (T.2 5, 2, .inr (.inr (.inr (.inr f5p)))))], w1p, w2p, w3p, w4p, w6p, [(h, .inr (7, [.ref l0, .ref d0, .ref g0, .int 0, .int (-1), .ref tp, .int 0, .int 0, .int 0, .int 0, .int r6, .int 0, .int 0]))], y1, y2, w2_1, z2_2] _ _ := G
  have G := G.sub (bs' := []) [] rfl
  exact z_vret C hr hlocks G (Nat.le_of_ble_eq_true rfl) (Nat.le_of_ble_eq_true rfl) dX9_keep_91 rfl
set_option maxHeartbeats 4000000 in
set_option maxRecDepth 100000 in
/-- forgetWhatFollows -/
theorem c_forget0 (l : Launch) (T : zTy) (x : Nat) (t0 : Nat) (ia : Nat) (im : Nat) (rd : Nat) (po : Nat) (co : Nat) (tr : Nat) (wa : Nat) (wb : Nat) (fi : Nat) (cd : Nat) (w1 : va_W) (w2 : va_W) (w3 : va_W) (of : Int32) (hw1 : bWays T wa w1) (hw2 : bWays T wb w2) (hw3 : bFit T fi w3) : zMv l T yX11_forgetWhatFollows cX11_forgetWhatFollows 2 1 0 0 [.ref x, .int of] [[(x, .inr (10, [.ref t0, .ref ia, .ref im, .ref rd, .ref po, .ref co, .ref tr, .ref wa, .ref wb, .ref fi, .ref cd]))], w1, w2, w3] (fun bs => bs = []) := by
  refine zMv_of (own := RX11) (by decide) rfl (Nat.le_of_ble_eq_true rfl) ?_
  intro p e s m args below meth c A ls C hr hlocks hnm hAe G hl
  have hx := C.1
  have hb := C.2.1
  have hl : lv_has ls 2 [(0, .ref x), (1, .int of)] := hl
  obtain ⟨l0_1, a1_2, a2_3, a3_4, a4_5, a5_6, a6_7, v0_8, v1_9, v2_10, f1_11, f2_12, f3_13, f4_14, f5_15, f6_16, n4_17, n5_18, n6_19, w1_20, rfl, h_21⟩ := hw1
  have G : zS T A s.heap s [[(x, .inr (10, [.ref t0, .ref ia, .ref im, .ref rd, .ref po, .ref co, .ref tr, .ref wa, .ref wb, .ref fi, .ref cd]))], [(wa, .inr (0, [.int v0_8, .int v1_9, .ref l0_1, .int v2_10, .ref a1_2, .ref a2_3, .ref a3_4, .ref a4_5, .ref a5_6, .ref a6_7]))], [(a1_2, .inl (T.2 0, 7, .inl f1_11))], [(a2_3, .inl (T.2 0, 7, .inl f2_12))], [(a3_4, .inl (T.2 0, 7, .inl f3_13))], [(a4_5, .inl (T.2 0, n4_17, .inl f4_14))], [(a5_6, .inl (T.2 0, n5_18, .inl f5_15))], [(a6_7, .inl (T.2 0, n6_19, .inl f6_16))], w1_20, w2, w3] _ _ := G.re (by simp only [List.flatten_cons, List.flatten_append, List.flatten_nil, List.append_assoc, List.cons_append, List.nil_append, List.append_nil])
  obtain ⟨l0_22, a1_23, a2_24, a3_25, a4_26, a5_27, a6_28, v0_29, v1_30, v2_31, f1_32, f2_33, f3_34, f4_35, f5_36, f6_37, n4_38, n5_39, n6_40, w1_41, rfl, h_42⟩ := hw2
  have G : zS T A s.heap s [[(x, .inr (10, [.ref t0, .ref ia, .ref im, .ref rd, .ref po, .ref co, .ref tr, .ref wa, .ref wb, .ref fi, .ref cd]))], [(wa, .inr (0, [.int v0_8, .int v1_9, .ref l0_1, .int v2_10, .ref a1_2, .ref a2_3, .ref a3_4, .ref a4_5, .ref a5_6, .ref a6_7]))], [(a1_2, .inl (T.2 0, 7, .inl f1_11))], [(a2_3, .inl (T.2 0, 7, .inl f2_12))], [(a3_4, .inl (T.2 0, 7, .inl f3_13))], [(a4_5, .inl (T.2 0, n4_17, .inl f4_14))], [(a5_6, .inl (T.2 0, n5_18, .inl f5_15))], [(a6_7, .inl (T.2 0, n6_19, .inl f6_16))], w1_20, [(wb, .inr (0, [.int v0_29, .int v1_30, .ref l0_22, .int v2_31, .ref a1_23, .ref a2_24, .ref a3_25, .ref a4_26, .ref a5_27, .ref a6_28]))], [(a1_23, .inl (T.2 0, 7, .inl f1_32))], [(a2_24, .inl (T.2 0, 7, .inl f2_33))], [(a3_25, .inl (T.2 0, 7, .inl f3_34))], [(a4_26, .inl (T.2 0, n4_38, .inl f4_35))], [(a5_27, .inl (T.2 0, n5_39, .inl f5_36))], [(a6_28, .inl (T.2 0, n6_40, .inl f6_37))], w1_41, w3] _ _ := G.re (by simp only [List.flatten_cons, List.flatten_append, List.flatten_nil, List.append_assoc, List.cons_append, List.nil_append, List.append_nil])
  obtain ⟨a1_43, a2_44, v0_45, v1_46, v2_47, v3_48, v4_49, v5_50, f1_51, f2_52, n1_53, rfl⟩ := hw3
  have G : zS T A s.heap s [[(x, .inr (10, [.ref t0, .ref ia, .ref im, .ref rd, .ref po, .ref co, .ref tr, .ref wa, .ref wb, .ref fi, .ref cd]))], [(wa, .inr (0, [.int v0_8, .int v1_9, .ref l0_1, .int v2_10, .ref a1_2, .ref a2_3, .ref a3_4, .ref a4_5, .ref a5_6, .ref a6_7]))], [(a1_2, .inl (T.2 0, 7, .inl f1_11))], [(a2_3, .inl (T.2 0, 7, .inl f2_12))], [(a3_4, .inl (T.2 0, 7, .inl f3_13))], [(a4_5, .inl (T.2 0, n4_17, .inl f4_14))], [(a5_6, .inl (T.2 0, n5_18, .inl f5_15))], [(a6_7, .inl (T.2 0, n6_19, .inl f6_16))], w1_20, [(wb, .inr (0, [.int v0_29, .int v1_30, .ref l0_22, .int v2_31, .ref a1_23, .ref a2_24, .ref a3_25, .ref a4_26, .ref a5_27, .ref a6_28]))], [(a1_23, .inl (T.2 0, 7, .inl f1_32))], [(a2_24, .inl (T.2 0, 7, .inl f2_33))], [(a3_25, .inl (T.2 0, 7, .inl f3_34))], [(a4_26, .inl (T.2 0, n4_38, .inl f4_35))], [(a5_27, .inl (T.2 0, n5_39, .inl f5_36))], [(a6_28, .inl (T.2 0, n6_40, .inl f6_37))], w1_41, [(fi, .inr (3, [.int v0_45, .int v1_46, .int v2_47, .int v3_48, .int v4_49, .int v5_50, .ref a1_43, .ref a2_44]))], [(a1_43, .inl (T.2 0, n1_53, .inl f1_51))], [(a2_44, .inl (T.2 0, 7, .inl f2_52))]] _ _ := G.re rfl
  refine lv_aload_n hx hb dX11_forgetWhatFollows_0 rfl (lv_at hl 0 rfl) ?_
  refine z_get C G clX11 0 rfl 9 (by decide) m_fl_RX11_65 rfl dX11_forgetWhatFollows_1 ?_
  refine lv_iconst (v := 0) hx hb dX11_forgetWhatFollows_4 (by decide) ?_
  refine z_put C G clX3 17 rfl 0 (by decide) m_fl_RX11_109 rfl rfl rfl (Nat.le_of_ble_eq_true rfl) dX11_forgetWhatFollows_5 (fun H locs G => ?_)
  have G : zS T A s.heap s [[(x, .inr (10, [.ref t0, .ref ia, .ref im, .ref rd, .ref po, .ref co, .ref tr, .ref wa, .ref wb, .ref fi, .ref cd]))], [(wa, .inr (0, [.int v0_8, .int v1_9, .ref l0_1, .int v2_10, .ref a1_2, .ref a2_3, .ref a3_4, .ref a4_5, .ref a5_6, .ref a6_7]))], [(a1_2, .inl (T.2 0, 7, .inl f1_11))], [(a2_3, .inl (T.2 0, 7, .inl f2_12))], [(a3_4, .inl (T.2 0, 7, .inl f3_13))], [(a4_5, .inl (T.2 0, n4_17, .inl f4_14))], [(a5_6, .inl (T.2 0, n5_18, .inl f5_15))], [(a6_7, .inl (T.2 0, n6_19, .inl f6_16))], w1_20, [(wb, .inr (0, [.int v0_29, .int v1_30, .ref l0_22, .int v2_31, .ref a1_23, .ref a2_24, .ref a3_25, .ref a4_26, .ref a5_27, .ref a6_28]))], [(a1_23, .inl (T.2 0, 7, .inl f1_32))], [(a2_24, .inl (T.2 0, 7, .inl f2_33))], [(a3_25, .inl (T.2 0, 7, .inl f3_34))], [(a4_26, .inl (T.2 0, n4_38, .inl f4_35))], [(a5_27, .inl (T.2 0, n5_39, .inl f5_36))], [(a6_28, .inl (T.2 0, n6_40, .inl f6_37))], w1_41, [(fi, .inr (3, [.int 0, .int v1_46, .int v2_47, .int v3_48, .int v4_49, .int v5_50, .ref a1_43, .ref a2_44]))], [(a1_43, .inl (T.2 0, n1_53, .inl f1_51))], [(a2_44, .inl (T.2 0, 7, .inl f2_52))]] _ _ := G
  refine lv_iload_n hx hb dX11_forgetWhatFollows_8 rfl (lv_at hl 1 rfl) ?_
  refine lv_if_eq (tgt := 28) hx hb dX11_forgetWhatFollows_9 (by decide) (fun c_54 => ?_) (fun c_54 => ?_)
  · have c_54n : of.toInt = (0 : Int) := (fa_eq _ _).mp c_54
    have G := G.sub (bs' := []) [] rfl
    exact z_vret C hr hlocks G (Nat.le_of_ble_eq_true rfl) (Nat.le_of_ble_eq_true rfl) dX11_forgetWhatFollows_28 rfl
  · have c_54n : ¬ of.toInt = (0 : Int) := fun q => c_54 ((fa_eq _ _).mpr q)
    refine lv_aload_n hx hb dX11_forgetWhatFollows_12 rfl (lv_at hl 0 rfl) ?_
    refine z_get C G clX11 0 rfl 7 (by decide) m_fl_RX11_55 rfl dX11_forgetWhatFollows_13 ?_
    refine lv_iconst (v := 0) hx hb dX11_forgetWhatFollows_16 (by decide) ?_
    refine z_put C G clX0 1 rfl 0 (by decide) m_fl_RX11_113 rfl rfl rfl (Nat.le_of_ble_eq_true rfl) dX11_forgetWhatFollows_17 (fun H locs G => ?_)
    have G : zS T A s.heap s [[(x, .inr (10, [.ref t0, .ref ia, .ref im, .ref rd, .ref po, .ref co, .ref tr, .ref wa, .ref wb, .ref fi, .ref cd]))], [(wa, .inr (0, [.int 0, .int v1_9, .ref l0_1, .int v2_10, .ref a1_2, .ref a2_3, .ref a3_4, .ref a4_5, .ref a5_6, .ref a6_7]))], [(a1_2, .inl (T.2 0, 7, .inl f1_11))], [(a2_3, .inl (T.2 0, 7, .inl f2_12))], [(a3_4, .inl (T.2 0, 7, .inl f3_13))], [(a4_5, .inl (T.2 0, n4_17, .inl f4_14))], [(a5_6, .inl (T.2 0, n5_18, .inl f5_15))], [(a6_7, .inl (T.2 0, n6_19, .inl f6_16))], w1_20, [(wb, .inr (0, [.int v0_29, .int v1_30, .ref l0_22, .int v2_31, .ref a1_23, .ref a2_24, .ref a3_25, .ref a4_26, .ref a5_27, .ref a6_28]))], [(a1_23, .inl (T.2 0, 7, .inl f1_32))], [(a2_24, .inl (T.2 0, 7, .inl f2_33))], [(a3_25, .inl (T.2 0, 7, .inl f3_34))], [(a4_26, .inl (T.2 0, n4_38, .inl f4_35))], [(a5_27, .inl (T.2 0, n5_39, .inl f5_36))], [(a6_28, .inl (T.2 0, n6_40, .inl f6_37))], w1_41, [(fi, .inr (3, [.int 0, .int v1_46, .int v2_47, .int v3_48, .int v4_49, .int v5_50, .ref a1_43, .ref a2_44]))], [(a1_43, .inl (T.2 0, n1_53, .inl f1_51))], [(a2_44, .inl (T.2 0, 7, .inl f2_52))]] _ _ := G
    refine lv_aload_n hx hb dX11_forgetWhatFollows_20 rfl (lv_at hl 0 rfl) ?_
    refine z_get C G clX11 0 rfl 8 (by decide) m_fl_RX11_59 rfl dX11_forgetWhatFollows_21 ?_
    refine lv_iconst (v := 0) hx hb dX11_forgetWhatFollows_24 (by decide) ?_
    refine z_put C G clX0 9 rfl 0 (by decide) m_fl_RX11_113 rfl rfl rfl (Nat.le_of_ble_eq_true rfl) dX11_forgetWhatFollows_25 (fun H locs G => ?_)
    have G : zS T A s.heap s [[(x, .inr (10, [.ref t0, .ref ia, .ref im, .ref rd, .ref po, .ref co, .ref tr, .ref wa, .ref wb, .ref fi, .ref cd]))], [(wa, .inr (0, [.int 0, .int v1_9, .ref l0_1, .int v2_10, .ref a1_2, .ref a2_3, .ref a3_4, .ref a4_5, .ref a5_6, .ref a6_7]))], [(a1_2, .inl (T.2 0, 7, .inl f1_11))], [(a2_3, .inl (T.2 0, 7, .inl f2_12))], [(a3_4, .inl (T.2 0, 7, .inl f3_13))], [(a4_5, .inl (T.2 0, n4_17, .inl f4_14))], [(a5_6, .inl (T.2 0, n5_18, .inl f5_15))], [(a6_7, .inl (T.2 0, n6_19, .inl f6_16))], w1_20, [(wb, .inr (0, [.int 0, .int v1_30, .ref l0_22, .int v2_31, .ref a1_23, .ref a2_24, .ref a3_25, .ref a4_26, .ref a5_27, .ref a6_28]))], [(a1_23, .inl (T.2 0, 7, .inl f1_32))], [(a2_24, .inl (T.2 0, 7, .inl f2_33))], [(a3_25, .inl (T.2 0, 7, .inl f3_34))], [(a4_26, .inl (T.2 0, n4_38, .inl f4_35))], [(a5_27, .inl (T.2 0, n5_39, .inl f5_36))], [(a6_28, .inl (T.2 0, n6_40, .inl f6_37))], w1_41, [(fi, .inr (3, [.int 0, .int v1_46, .int v2_47, .int v3_48, .int v4_49, .int v5_50, .ref a1_43, .ref a2_44]))], [(a1_43, .inl (T.2 0, n1_53, .inl f1_51))], [(a2_44, .inl (T.2 0, 7, .inl f2_52))]] _ _ := G
    have G := G.sub (bs' := []) [] rfl
    exact z_vret C hr hlocks G (Nat.le_of_ble_eq_true rfl) (Nat.le_of_ble_eq_true rfl) dX11_forgetWhatFollows_28 rfl
set_option maxHeartbeats 4000000 in
set_option maxRecDepth 100000 in
/-- text: on a new object -/
theorem c_x_text (l : Launch) (T : zTy) (x : Nat) (t0 : Nat) (ia : Nat) (im : Nat) (rd : Nat) (po : Nat) (co : Nat) (tr : Nat) (wa : Nat) (wb : Nat) (fi : Nat) (cd : Nat) (a1p : Nat) (a2p : Nat) (a3p : Nat) (a4p : Nat) (a5p : Nat) (f1p : Nat → Int32) (f3p : Nat → Option Nat) (f4p : Nat → Option Nat) (f5p : Nat → Option Nat) (l0p : Nat) (l1p : Nat) (d0p : Nat) (d1p : Nat) (g0p : Nat) (g1p : Nat) (w1p : va_W) (w2p : va_W) (w3p : va_W) (w4p : va_W) (w5p : va_W) (w6p : va_W) (v : va_W) (w1 : va_W) (w2 : va_W) (w3 : va_W) (so : Int32) (at_ : Int32) (hw0p : bLand T l0p w1p) (hw1p : bLand T l1p w2p) (hw2p : bDay T d0p w3p) (hw3p : bDay T d1p w4p) (hw4p : bLog T g0p w5p) (hw5p : bLog T g1p w6p) (he0p : f3p 0 = some l0p) (he1p : f3p 1 = some l1p) (he2p : f4p 0 = some d0p) (he3p : f4p 1 = some d1p) (he4p : f5p 0 = some g0p) (he5p : f5p 1 = some g1p) (hv : bReader T rd v) (hw1 : bWays T wa w1) (hw2 : bWays T wb w2) (hw3 : bFit T fi w3) : zMi l T yX11_text cX11_text 5 (some .int) 5 0 0 [.ref x, .int so, .int at_] [[(x, .inr (10, [.ref t0, .ref ia, .ref im, .ref rd, .ref po, .ref co, .ref tr, .ref wa, .ref wb, .ref fi, .ref cd]))], [(t0, .inr (8, [.ref a1p, .int 0, .int 0, .int (-1), .ref a2p, .ref a3p, .ref a4p, .ref a5p]))], [(a1p, .inl (T.2 1, 600, .inl f1p))], [(a2p, .inl (T.2 0, 3, .inl (fun _ => 0)))], [(a3p, .inl (T.2 3, 2, .inr (.inr (.inr (.inr f3p)))))], [(a4p, .inl (T.2 4, 2, .inr (.inr (.inr (.inr f4p)))))], [(a5p, .inl (T.2 5, 2, .inr (.inr (.inr (.inr f5p)))))], w1p, w2p, w3p, w4p, w5p, w6p, v, w1, w2, w3] (fun (r : Int32) bs => bs = [] ∧ r = zRes so at_) := by
  refine zMi_of (own := RX11) (by decide) rfl (Nat.le_of_ble_eq_true rfl) ?_
  intro p e s m args below meth c A ls C hr hlocks hnm hAe G hl
  have hx := C.1
  have hb := C.2.1
  have hl : lv_has ls 5 [(0, .ref x), (1, .int so), (2, .int at_)] := hl
  refine lv_aload_n hx hb dX11_text_0 rfl (lv_at hl 0 rfl) ?_
  refine z_get C G clX11 0 rfl 0 (by decide) m_fl_RX11_10 rfl dX11_text_1 ?_
  refine lv_iload_n hx hb dX11_text_4 rfl (lv_at hl 1 rfl) ?_
  refine lv_iload_n hx hb dX11_text_5 rfl (lv_at hl 2 rfl) ?_
  refine z_Vi (bc := [[(t0, .inr (8, [.ref a1p, .int 0, .int 0, .int (-1), .ref a2p, .ref a3p, .ref a4p, .ref a5p]))], [(a2p, .inl (T.2 0, 3, .inl (fun _ => 0)))]]) (br := [[(x, .inr (10, [.ref t0, .ref ia, .ref im, .ref rd, .ref po, .ref co, .ref tr, .ref wa, .ref wb, .ref fi, .ref cd]))], [(a1p, .inl (T.2 1, 600, .inl f1p))], [(a3p, .inl (T.2 3, 2, .inr (.inr (.inr (.inr f3p)))))], [(a4p, .inl (T.2 4, 2, .inr (.inr (.inr (.inr f4p)))))], [(a5p, .inl (T.2 5, 2, .inr (.inr (.inr (.inr f5p)))))], w1p, w2p, w3p, w4p, w5p, w6p, v, w1, w2, w3]) (As := [.int so, .int at_]) (rest := []) C G (c_placeFor0 l T t0 a1p a2p a3p a4p a5p 0 0 (-1) so at_) (kV_RX11_81 C.2.2.2.2 (Nat.le_of_ble_eq_true rfl) (Nat.le_of_ble_eq_true rfl)) [1, 3] [0, 2, 4, 5, 6, 7, 8, 9, 10, 11, 12, 13, 14, 15, 16] rfl rfl (ci := 8) (qc := (RX9, TX9, 8)) rfl rfl (List.mem_flatten.mpr ⟨_, List.mem_of_getElem? (i := 0) rfl, List.mem_cons_self⟩) rfl rfl hl.1 dX11_text_6 (Nat.le_of_ble_eq_true rfl) (Nat.le_of_ble_eq_true rfl) (fun r_2 b1 H locs hw G => ?_)
  obtain ⟨rfl, hc_1⟩ := hw
  have G : zS T A s.heap s [[(x, .inr (10, [.ref t0, .ref ia, .ref im, .ref rd, .ref po, .ref co, .ref tr, .ref wa, .ref wb, .ref fi, .ref cd]))], [(a1p, .inl (T.2 1, 600, .inl f1p))], [(a3p, .inl (T.2 3, 2, .inr (.inr (.inr (.inr f3p)))))], [(a4p, .inl (T.2 4, 2, .inr (.inr (.inr (.inr f4p)))))], [(a5p, .inl (T.2 5, 2, .inr (.inr (.inr (.inr f5p)))))], w1p, w2p, w3p, w4p, w5p, w6p, v, w1, w2, w3, [(t0, .inr (8, [.ref a1p, .int 0, .int 0, .int (-1), .ref a2p, .ref a3p, .ref a4p, .ref a5p]))], [(a2p, .inl (T.2 0, 3, .inl (fun _ => 0)))]] _ _ := G
  rcases hc_1 with ⟨rfl, h_3, h_4, h_5⟩ | ⟨rfl, h_6⟩
  · have h_3 : 0 ≤ so.toInt := h_3
    have h_4 : so.toInt ≤ 2 := h_4
    have h_5 : at_.toInt = -1 := h_5
    rcases z_three h_3 h_4 with rfl | rfl | rfl
    · refine lv_istore_n (lv' := [(3, .int 0), (0, .ref x), (1, .int 0), (2, .int at_)]) hx hb dX11_text_9 rfl hl (by decide) rfl (fun ls hl => ?_)
      refine lv_aload_n hx hb dX11_text_10 rfl (lv_at hl 1 rfl) ?_
      refine z_get C G clX11 0 rfl 0 (by decide) m_fl_RX11_10 rfl dX11_text_11 ?_
      refine z_get C G clX9 15 rfl 1 (by decide) m_fl_RX11_73 rfl dX11_text_14 ?_
      refine lv_istore (lv' := [(4, .int 0), (3, .int 0), (0, .ref x), (1, .int 0), (2, .int at_)]) hx hb dX11_text_17 hl (by decide) rfl (fun ls hl => ?_)
      refine lv_aload_n hx hb dX11_text_19 rfl (lv_at hl 2 rfl) ?_
      refine z_get C G clX11 0 rfl 0 (by decide) m_fl_RX11_10 rfl dX11_text_20 ?_
      refine lv_iconst (v := 0) hx hb dX11_text_23 (by decide) ?_
      refine z_put C G clX9 15 rfl 1 (by decide) m_fl_RX11_73 rfl rfl rfl (Nat.le_of_ble_eq_true rfl) dX11_text_24 (fun H locs G => ?_)
      have G : zS T A s.heap s [[(x, .inr (10, [.ref t0, .ref ia, .ref im, .ref rd, .ref po, .ref co, .ref tr, .ref wa, .ref wb, .ref fi, .ref cd]))], [(a1p, .inl (T.2 1, 600, .inl f1p))], [(a3p, .inl (T.2 3, 2, .inr (.inr (.inr (.inr f3p)))))], [(a4p, .inl (T.2 4, 2, .inr (.inr (.inr (.inr f4p)))))], [(a5p, .inl (T.2 5, 2, .inr (.inr (.inr (.inr f5p)))))], w1p, w2p, w3p, w4p, w5p, w6p, v, w1, w2, w3, [(t0, .inr (8, [.ref a1p, .int 0, .int 0, .int (-1), .ref a2p, .ref a3p, .ref a4p, .ref a5p]))], [(a2p, .inl (T.2 0, 3, .inl (fun _ => 0)))]] _ _ := G
      refine lv_aload_n hx hb dX11_text_27 rfl (lv_at hl 2 rfl) ?_
      refine z_get C G clX11 0 rfl 0 (by decide) m_fl_RX11_10 rfl dX11_text_28 ?_
      refine lv_iconst (v := 0) hx hb dX11_text_31 (by decide) ?_
      refine z_put C G clX9 15 rfl 2 (by decide) m_fl_RX11_85 rfl rfl rfl (Nat.le_of_ble_eq_true rfl) dX11_text_32 (fun H locs G => ?_)
      have G : zS T A s.heap s [[(x, .inr (10, [.ref t0, .ref ia, .ref im, .ref rd, .ref po, .ref co, .ref tr, .ref wa, .ref wb, .ref fi, .ref cd]))], [(a1p, .inl (T.2 1, 600, .inl f1p))], [(a3p, .inl (T.2 3, 2, .inr (.inr (.inr (.inr f3p)))))], [(a4p, .inl (T.2 4, 2, .inr (.inr (.inr (.inr f4p)))))], [(a5p, .inl (T.2 5, 2, .inr (.inr (.inr (.inr f5p)))))], w1p, w2p, w3p, w4p, w5p, w6p, v, w1, w2, w3, [(t0, .inr (8, [.ref a1p, .int 0, .int 0, .int (-1), .ref a2p, .ref a3p, .ref a4p, .ref a5p]))], [(a2p, .inl (T.2 0, 3, .inl (fun _ => 0)))]] _ _ := G
      refine lv_aload_n hx hb dX11_text_35 rfl (lv_at hl 2 rfl) ?_
      refine z_get C G clX11 0 rfl 0 (by decide) m_fl_RX11_10 rfl dX11_text_36 ?_
      refine lv_iconst (v := (-1)) hx hb dX11_text_39 (by decide) ?_
      refine z_put C G clX9 15 rfl 3 (by decide) m_fl_RX11_88 rfl rfl rfl (Nat.le_of_ble_eq_true rfl) dX11_text_40 (fun H locs G => ?_)
      have G : zS T A s.heap s [[(x, .inr (10, [.ref t0, .ref ia, .ref im, .ref rd, .ref po, .ref co, .ref tr, .ref wa, .ref wb, .ref fi, .ref cd]))], [(a1p, .inl (T.2 1, 600, .inl f1p))], [(a3p, .inl (T.2 3, 2, .inr (.inr (.inr (.inr f3p)))))], [(a4p, .inl (T.2 4, 2, .inr (.inr (.inr (.inr f4p)))))], [(a5p, .inl (T.2 5, 2, .inr (.inr (.inr (.inr f5p)))))], w1p, w2p, w3p, w4p, w5p, w6p, v, w1, w2, w3, [(t0, .inr (8, [.ref a1p, .int 0, .int 0, .int (-1), .ref a2p, .ref a3p, .ref a4p, .ref a5p]))], [(a2p, .inl (T.2 0, 3, .inl (fun _ => 0)))]] _ _ := G
      refine lv_iload_n hx hb dX11_text_43 rfl (lv_at hl 1 rfl) ?_
      refine lv_bipush (v := (-2)) hx hb dX11_text_44 (by decide) ?_
      refine lv_icmp_ne (tgt := 52) hx hb dX11_text_46 (by decide) (fun _ => ?_) (fun q => absurd q (by decide))
      refine lv_aload_n hx hb dX11_text_52 rfl (lv_at hl 2 rfl) ?_
      refine z_get C G clX11 0 rfl 3 (by decide) m_fl_RX11_27 rfl dX11_text_53 ?_
      refine lv_aload_n hx hb dX11_text_56 rfl (lv_at hl 2 rfl) ?_
      refine z_get C G clX11 0 rfl 0 (by decide) m_fl_RX11_10 rfl dX11_text_57 ?_
      refine z_get C G clX9 15 rfl 0 (by decide) m_fl_RX11_91 rfl dX11_text_60 ?_
      refine lv_iload hx hb dX11_text_63 (lv_at hl 0 rfl) ?_
      refine lv_iload_n hx hb dX11_text_65 rfl (lv_at hl 3 rfl) ?_
      refine z_Vv (bc := [v, [(a1p, .inl (T.2 1, 600, .inl f1p))]]) (br := [[(x, .inr (10, [.ref t0, .ref ia, .ref im, .ref rd, .ref po, .ref co, .ref tr, .ref wa, .ref wb, .ref fi, .ref cd]))], [(a3p, .inl (T.2 3, 2, .inr (.inr (.inr (.inr f3p)))))], [(a4p, .inl (T.2 4, 2, .inr (.inr (.inr (.inr f4p)))))], [(a5p, .inl (T.2 5, 2, .inr (.inr (.inr (.inr f5p)))))], w1p, w2p, w3p, w4p, w5p, w6p, w1, w2, w3, [(t0, .inr (8, [.ref a1p, .int 0, .int 0, .int (-1), .ref a2p, .ref a3p, .ref a4p, .ref a5p]))], [(a2p, .inl (T.2 0, 3, .inl (fun _ => 0)))]]) (As := [.ref a1p, .int 0, .int 0]) (rest := []) C G (c_read0 l T rd v a1p f1p 0 hv) (kV_RX11_95 C.2.2.2.2 (Nat.le_of_ble_eq_true rfl) (Nat.le_of_ble_eq_true rfl)) [11, 1] [0, 2, 3, 4, 5, 6, 7, 8, 9, 10, 12, 13, 14, 15, 16] rfl rfl (ci := 7) (qc := (RX7, TX7, 13)) rfl rfl (List.mem_flatten.mpr ⟨_, List.mem_of_getElem? (i := 0) rfl, (bReader_mem hv).choose_spec⟩) rfl rfl hl.1 dX11_text_66 (Nat.le_of_ble_eq_true rfl) (Nat.le_of_ble_eq_true rfl) (fun b1 H locs hw G => ?_)
      obtain ⟨l0_7, d0_8, g0_9, r6_10, w1_11, w2_12, w3_13, rfl, h_14, h_15, h_16⟩ := hw
      have G : zS T A s.heap s [[(x, .inr (10, [.ref t0, .ref ia, .ref im, .ref rd, .ref po, .ref co, .ref tr, .ref wa, .ref wb, .ref fi, .ref cd]))], [(a3p, .inl (T.2 3, 2, .inr (.inr (.inr (.inr f3p)))))], [(a4p, .inl (T.2 4, 2, .inr (.inr (.inr (.inr f4p)))))], [(a5p, .inl (T.2 5, 2, .inr (.inr (.inr (.inr f5p)))))], w1p, w2p, w3p, w4p, w5p, w6p, w1, w2, w3, [(t0, .inr (8, [.ref a1p, .int 0, .int 0, .int (-1), .ref a2p, .ref a3p, .ref a4p, .ref a5p]))], [(a2p, .inl (T.2 0, 3, .inl (fun _ => 0)))], [(rd, .inr (7, [.ref l0_7, .ref d0_8, .ref g0_9, .int 0, .int (-1), .ref a1p, .int 0, .int 0, .int 0, .int 0, .int r6_10, .int 0, .int 0]))], w1_11, w2_12, w3_13, [(a1p, .inl (T.2 1, 600, .inl f1p))]] _ _ := G
      refine lv_aload_n hx hb dX11_text_69 rfl (lv_at hl 2 rfl) ?_
      refine z_get C G clX11 0 rfl 0 (by decide) m_fl_RX11_10 rfl dX11_text_70 ?_
      refine lv_aload_n hx hb dX11_text_73 rfl (lv_at hl 2 rfl) ?_
      refine z_get C G clX11 0 rfl 3 (by decide) m_fl_RX11_27 rfl dX11_text_74 ?_
      refine z_get C G clX7 15 rfl 3 (by decide) m_fl_RX11_99 rfl dX11_text_77 ?_
      refine z_put C G clX9 13 rfl 2 (by decide) m_fl_RX11_85 rfl rfl rfl (Nat.le_of_ble_eq_true rfl) dX11_text_80 (fun H locs G => ?_)
      have G : zS T A s.heap s [[(x, .inr (10, [.ref t0, .ref ia, .ref im, .ref rd, .ref po, .ref co, .ref tr, .ref wa, .ref wb, .ref fi, .ref cd]))], [(a3p, .inl (T.2 3, 2, .inr (.inr (.inr (.inr f3p)))))], [(a4p, .inl (T.2 4, 2, .inr (.inr (.inr (.inr f4p)))))], [(a5p, .inl (T.2 5, 2, .inr (.inr (.inr (.inr f5p)))))], w1p, w2p, w3p, w4p, w5p, w6p, w1, w2, w3, [(t0, .inr (8, [.ref a1p, .int 0, .int 0, .int (-1), .ref a2p, .ref a3p, .ref a4p, .ref a5p]))], [(a2p, .inl (T.2 0, 3, .inl (fun _ => 0)))], [(rd, .inr (7, [.ref l0_7, .ref d0_8, .ref g0_9, .int 0, .int (-1), .ref a1p, .int 0, .int 0, .int 0, .int 0, .int r6_10, .int 0, .int 0]))], w1_11, w2_12, w3_13, [(a1p, .inl (T.2 1, 600, .inl f1p))]] _ _ := G
      refine lv_aload_n hx hb dX11_text_83 rfl (lv_at hl 2 rfl) ?_
      refine z_get C G clX11 0 rfl 0 (by decide) m_fl_RX11_10 rfl dX11_text_84 ?_
      refine lv_aload_n hx hb dX11_text_87 rfl (lv_at hl 2 rfl) ?_
      refine z_get C G clX11 0 rfl 3 (by decide) m_fl_RX11_27 rfl dX11_text_88 ?_
      refine z_get C G clX7 15 rfl 4 (by decide) m_fl_RX11_100 rfl dX11_text_91 ?_
      refine z_put C G clX9 13 rfl 3 (by decide) m_fl_RX11_88 rfl rfl rfl (Nat.le_of_ble_eq_true rfl) dX11_text_94 (fun H locs G => ?_)
      have G : zS T A s.heap s [[(x, .inr (10, [.ref t0, .ref ia, .ref im, .ref rd, .ref po, .ref co, .ref tr, .ref wa, .ref wb, .ref fi, .ref cd]))], [(a3p, .inl (T.2 3, 2, .inr (.inr (.inr (.inr f3p)))))], [(a4p, .inl (T.2 4, 2, .inr (.inr (.inr (.inr f4p)))))], [(a5p, .inl (T.2 5, 2, .inr (.inr (.inr (.inr f5p)))))], w1p, w2p, w3p, w4p, w5p, w6p, w1, w2, w3, [(t0, .inr (8, [.ref a1p, .int 0, .int 0, .int (-1), .ref a2p, .ref a3p, .ref a4p, .ref a5p]))], [(a2p, .inl (T.2 0, 3, .inl (fun _ => 0)))], [(rd, .inr (7, [.ref l0_7, .ref d0_8, .ref g0_9, .int 0, .int (-1), .ref a1p, .int 0, .int 0, .int 0, .int 0, .int r6_10, .int 0, .int 0]))], w1_11, w2_12, w3_13, [(a1p, .inl (T.2 1, 600, .inl f1p))]] _ _ := G
      refine lv_aload_n hx hb dX11_text_97 rfl (lv_at hl 2 rfl) ?_
      refine z_get C G clX11 0 rfl 3 (by decide) m_fl_RX11_27 rfl dX11_text_98 ?_
      refine z_get C G clX7 15 rfl 3 (by decide) m_fl_RX11_99 rfl dX11_text_101 ?_
      refine lv_if_eq (tgt := 109) hx hb dX11_text_104 (by decide) (fun _ => ?_) (fun q => absurd (by decide) q)
      refine lv_aload_n hx hb dX11_text_109 rfl (lv_at hl 2 rfl) ?_
      refine z_get C G clX11 0 rfl 0 (by decide) m_fl_RX11_10 rfl dX11_text_110 ?_
      refine lv_iload_n hx hb dX11_text_113 rfl (lv_at hl 3 rfl) ?_
      refine lv_iload_n hx hb dX11_text_114 rfl (lv_at hl 1 rfl) ?_
      refine lv_aload_n hx hb dX11_text_115 rfl (lv_at hl 2 rfl) ?_
      refine z_get C G clX11 0 rfl 3 (by decide) m_fl_RX11_27 rfl dX11_text_116 ?_
      refine z_Vv (bc := [[(t0, .inr (8, [.ref a1p, .int 0, .int 0, .int (-1), .ref a2p, .ref a3p, .ref a4p, .ref a5p]))], [(a1p, .inl (T.2 1, 600, .inl f1p))], [(a2p, .inl (T.2 0, 3, .inl (fun _ => 0)))], [(a3p, .inl (T.2 3, 2, .inr (.inr (.inr (.inr f3p)))))], [(a4p, .inl (T.2 4, 2, .inr (.inr (.inr (.inr f4p)))))], [(a5p, .inl (T.2 5, 2, .inr (.inr (.inr (.inr f5p)))))], w1p, w2p, w3p, w4p, w5p, w6p, [(rd, .inr (7, [.ref l0_7, .ref d0_8, .ref g0_9, .int 0, .int (-1), .ref a1p, .int 0, .int 0, .int 0, .int 0, .int r6_10, .int 0, .int 0]))], w1_11, w2_12, w3_13]) (br := [[(x, .inr (10, [.ref t0, .ref ia, .ref im, .ref rd, .ref po, .ref co, .ref tr, .ref wa, .ref wb, .ref fi, .ref cd]))], w1, w2, w3]) (As := [.int 0, .int 0, .ref rd]) (rest := []) C G (c_keep_0 l T t0 0 0 (-1) a1p a2p a3p a4p a5p f1p f3p f4p f5p l0p l1p d0p d1p g0p g1p w1p w2p w3p w4p w5p w6p rd l0_7 d0_8 g0_9 a1p r6_10 w1_11 w2_12 w3_13 hw0p hw1p hw2p hw3p hw4p hw5p he0p he1p he2p he3p he4p he5p h_14 h_15 h_16) (kV_RX11_101 C.2.2.2.2 (Nat.le_of_ble_eq_true rfl) (Nat.le_of_ble_eq_true rfl)) [13, 19, 14, 1, 2, 3, 4, 5, 6, 7, 8, 9, 15, 16, 17, 18] [0, 10, 11, 12] rfl rfl (ci := 8) (qc := (RX9, TX9, 8)) rfl rfl (List.mem_flatten.mpr ⟨_, List.mem_of_getElem? (i := 0) rfl, List.mem_cons_self⟩) rfl rfl hl.1 dX11_text_119 (Nat.le_of_ble_eq_true rfl) (Nat.le_of_ble_eq_true rfl) (fun b1 H locs hw G => ?_)
      obtain rfl := hw
      have G : zS T A s.heap s [[(x, .inr (10, [.ref t0, .ref ia, .ref im, .ref rd, .ref po, .ref co, .ref tr, .ref wa, .ref wb, .ref fi, .ref cd]))], w1, w2, w3] _ _ := G
      refine lv_aload_n hx hb dX11_text_122 rfl (lv_at hl 2 rfl) ?_
      refine lv_iload_n hx hb dX11_text_123 rfl (lv_at hl 3 rfl) ?_
      refine lv_if_ne (tgt := 131) hx hb dX11_text_124 (by decide) (fun q => absurd (by decide) q) (fun _ => ?_)
      refine lv_iconst (v := 1) hx hb dX11_text_127 (by decide) ?_
      refine lv_goto (tgt := 132) hx hb dX11_text_128 (by decide) ?_
      refine z_Vv (bc := [[(x, .inr (10, [.ref t0, .ref ia, .ref im, .ref rd, .ref po, .ref co, .ref tr, .ref wa, .ref wb, .ref fi, .ref cd]))], w1, w2, w3]) (br := []) (As := [.int 1]) (rest := []) C G (c_forget0 l T x t0 ia im rd po co tr wa wb fi cd w1 w2 w3 1 hw1 hw2 hw3) (kV_RX11_105 C.2.2.2.2 (Nat.le_of_ble_eq_true rfl) (Nat.le_of_ble_eq_true rfl)) [0, 1, 2, 3] [] rfl rfl (ci := 10) (qc := (RX11, TX11, 11)) rfl rfl (List.mem_flatten.mpr ⟨_, List.mem_of_getElem? (i := 0) rfl, List.mem_cons_self⟩) rfl rfl hl.1 dX11_text_132 (Nat.le_of_ble_eq_true rfl) (Nat.le_of_ble_eq_true rfl) (fun b1 H locs hw G => ?_)
      obtain rfl := hw
      have G : zS T A s.heap s [] _ _ := G
      refine lv_iload_n hx hb dX11_text_135 rfl (lv_at hl 1 rfl) ?_
      exact z_iret C hr hlocks G (Nat.le_of_ble_eq_true rfl) (Nat.le_of_ble_eq_true rfl) dX11_text_136 ⟨rfl, (by unfold zRes; rw [if_pos ⟨by decide, by decide, h_5⟩])⟩
    · refine lv_istore_n (lv' := [(3, .int 0), (0, .ref x), (1, .int 1), (2, .int at_)]) hx hb dX11_text_9 rfl hl (by decide) rfl (fun ls hl => ?_)
      refine lv_aload_n hx hb dX11_text_10 rfl (lv_at hl 1 rfl) ?_
      refine z_get C G clX11 0 rfl 0 (by decide) m_fl_RX11_10 rfl dX11_text_11 ?_
      refine z_get C G clX9 15 rfl 1 (by decide) m_fl_RX11_73 rfl dX11_text_14 ?_
      refine lv_istore (lv' := [(4, .int 0), (3, .int 0), (0, .ref x), (1, .int 1), (2, .int at_)]) hx hb dX11_text_17 hl (by decide) rfl (fun ls hl => ?_)
      refine lv_aload_n hx hb dX11_text_19 rfl (lv_at hl 2 rfl) ?_
      refine z_get C G clX11 0 rfl 0 (by decide) m_fl_RX11_10 rfl dX11_text_20 ?_
      refine lv_iconst (v := 0) hx hb dX11_text_23 (by decide) ?_
      refine z_put C G clX9 15 rfl 1 (by decide) m_fl_RX11_73 rfl rfl rfl (Nat.le_of_ble_eq_true rfl) dX11_text_24 (fun H locs G => ?_)
      have G : zS T A s.heap s [[(x, .inr (10, [.ref t0, .ref ia, .ref im, .ref rd, .ref po, .ref co, .ref tr, .ref wa, .ref wb, .ref fi, .ref cd]))], [(a1p, .inl (T.2 1, 600, .inl f1p))], [(a3p, .inl (T.2 3, 2, .inr (.inr (.inr (.inr f3p)))))], [(a4p, .inl (T.2 4, 2, .inr (.inr (.inr (.inr f4p)))))], [(a5p, .inl (T.2 5, 2, .inr (.inr (.inr (.inr f5p)))))], w1p, w2p, w3p, w4p, w5p, w6p, v, w1, w2, w3, [(t0, .inr (8, [.ref a1p, .int 0, .int 0, .int (-1), .ref a2p, .ref a3p, .ref a4p, .ref a5p]))], [(a2p, .inl (T.2 0, 3, .inl (fun _ => 0)))]] _ _ := G
      refine lv_aload_n hx hb dX11_text_27 rfl (lv_at hl 2 rfl) ?_
      refine z_get C G clX11 0 rfl 0 (by decide) m_fl_RX11_10 rfl dX11_text_28 ?_
      refine lv_iconst (v := 0) hx hb dX11_text_31 (by decide) ?_
      refine z_put C G clX9 15 rfl 2 (by decide) m_fl_RX11_85 rfl rfl rfl (Nat.le_of_ble_eq_true rfl) dX11_text_32 (fun H locs G => ?_)
      have G : zS T A s.heap s [[(x, .inr (10, [.ref t0, .ref ia, .ref im, .ref rd, .ref po, .ref co, .ref tr, .ref wa, .ref wb, .ref fi, .ref cd]))], [(a1p, .inl (T.2 1, 600, .inl f1p))], [(a3p, .inl (T.2 3, 2, .inr (.inr (.inr (.inr f3p)))))], [(a4p, .inl (T.2 4, 2, .inr (.inr (.inr (.inr f4p)))))], [(a5p, .inl (T.2 5, 2, .inr (.inr (.inr (.inr f5p)))))], w1p, w2p, w3p, w4p, w5p, w6p, v, w1, w2, w3, [(t0, .inr (8, [.ref a1p, .int 0, .int 0, .int (-1), .ref a2p, .ref a3p, .ref a4p, .ref a5p]))], [(a2p, .inl (T.2 0, 3, .inl (fun _ => 0)))]] _ _ := G
      refine lv_aload_n hx hb dX11_text_35 rfl (lv_at hl 2 rfl) ?_
      refine z_get C G clX11 0 rfl 0 (by decide) m_fl_RX11_10 rfl dX11_text_36 ?_
      refine lv_iconst (v := (-1)) hx hb dX11_text_39 (by decide) ?_
      refine z_put C G clX9 15 rfl 3 (by decide) m_fl_RX11_88 rfl rfl rfl (Nat.le_of_ble_eq_true rfl) dX11_text_40 (fun H locs G => ?_)
      have G : zS T A s.heap s [[(x, .inr (10, [.ref t0, .ref ia, .ref im, .ref rd, .ref po, .ref co, .ref tr, .ref wa, .ref wb, .ref fi, .ref cd]))], [(a1p, .inl (T.2 1, 600, .inl f1p))], [(a3p, .inl (T.2 3, 2, .inr (.inr (.inr (.inr f3p)))))], [(a4p, .inl (T.2 4, 2, .inr (.inr (.inr (.inr f4p)))))], [(a5p, .inl (T.2 5, 2, .inr (.inr (.inr (.inr f5p)))))], w1p, w2p, w3p, w4p, w5p, w6p, v, w1, w2, w3, [(t0, .inr (8, [.ref a1p, .int 0, .int 0, .int (-1), .ref a2p, .ref a3p, .ref a4p, .ref a5p]))], [(a2p, .inl (T.2 0, 3, .inl (fun _ => 0)))]] _ _ := G
      refine lv_iload_n hx hb dX11_text_43 rfl (lv_at hl 1 rfl) ?_
      refine lv_bipush (v := (-2)) hx hb dX11_text_44 (by decide) ?_
      refine lv_icmp_ne (tgt := 52) hx hb dX11_text_46 (by decide) (fun _ => ?_) (fun q => absurd q (by decide))
      refine lv_aload_n hx hb dX11_text_52 rfl (lv_at hl 2 rfl) ?_
      refine z_get C G clX11 0 rfl 3 (by decide) m_fl_RX11_27 rfl dX11_text_53 ?_
      refine lv_aload_n hx hb dX11_text_56 rfl (lv_at hl 2 rfl) ?_
      refine z_get C G clX11 0 rfl 0 (by decide) m_fl_RX11_10 rfl dX11_text_57 ?_
      refine z_get C G clX9 15 rfl 0 (by decide) m_fl_RX11_91 rfl dX11_text_60 ?_
      refine lv_iload hx hb dX11_text_63 (lv_at hl 0 rfl) ?_
      refine lv_iload_n hx hb dX11_text_65 rfl (lv_at hl 3 rfl) ?_
      refine z_Vv (bc := [v, [(a1p, .inl (T.2 1, 600, .inl f1p))]]) (br := [[(x, .inr (10, [.ref t0, .ref ia, .ref im, .ref rd, .ref po, .ref co, .ref tr, .ref wa, .ref wb, .ref fi, .ref cd]))], [(a3p, .inl (T.2 3, 2, .inr (.inr (.inr (.inr f3p)))))], [(a4p, .inl (T.2 4, 2, .inr (.inr (.inr (.inr f4p)))))], [(a5p, .inl (T.2 5, 2, .inr (.inr (.inr (.inr f5p)))))], w1p, w2p, w3p, w4p, w5p, w6p, w1, w2, w3, [(t0, .inr (8, [.ref a1p, .int 0, .int 0, .int (-1), .ref a2p, .ref a3p, .ref a4p, .ref a5p]))], [(a2p, .inl (T.2 0, 3, .inl (fun _ => 0)))]]) (As := [.ref a1p, .int 0, .int 1]) (rest := []) C G (c_read0 l T rd v a1p f1p 1 hv) (kV_RX11_95 C.2.2.2.2 (Nat.le_of_ble_eq_true rfl) (Nat.le_of_ble_eq_true rfl)) [11, 1] [0, 2, 3, 4, 5, 6, 7, 8, 9, 10, 12, 13, 14, 15, 16] rfl rfl (ci := 7) (qc := (RX7, TX7, 13)) rfl rfl (List.mem_flatten.mpr ⟨_, List.mem_of_getElem? (i := 0) rfl, (bReader_mem hv).choose_spec⟩) rfl rfl hl.1 dX11_text_66 (Nat.le_of_ble_eq_true rfl) (Nat.le_of_ble_eq_true rfl) (fun b1 H locs hw G => ?_)
      obtain ⟨l0_20, d0_21, g0_22, r6_23, w1_24, w2_25, w3_26, rfl, h_27, h_28, h_29⟩ := hw
      have G : zS T A s.heap s [[(x, .inr (10, [.ref t0, .ref ia, .ref im, .ref rd, .ref po, .ref co, .ref tr, .ref wa, .ref wb, .ref fi, .ref cd]))], [(a3p, .inl (T.2 3, 2, .inr (.inr (.inr (.inr f3p)))))], [(a4p, .inl (T.2 4, 2, .inr (.inr (.inr (.inr f4p)))))], [(a5p, .inl (T.2 5, 2, .inr (.inr (.inr (.inr f5p)))))], w1p, w2p, w3p, w4p, w5p, w6p, w1, w2, w3, [(t0, .inr (8, [.ref a1p, .int 0, .int 0, .int (-1), .ref a2p, .ref a3p, .ref a4p, .ref a5p]))], [(a2p, .inl (T.2 0, 3, .inl (fun _ => 0)))], [(rd, .inr (7, [.ref l0_20, .ref d0_21, .ref g0_22, .int 0, .int (-1), .ref a1p, .int 0, .int 0, .int 0, .int 0, .int r6_23, .int 0, .int 0]))], w1_24, w2_25, w3_26, [(a1p, .inl (T.2 1, 600, .inl f1p))]] _ _ := G
      refine lv_aload_n hx hb dX11_text_69 rfl (lv_at hl 2 rfl) ?_
      refine z_get C G clX11 0 rfl 0 (by decide) m_fl_RX11_10 rfl dX11_text_70 ?_
      refine lv_aload_n hx hb dX11_text_73 rfl (lv_at hl 2 rfl) ?_
      refine z_get C G clX11 0 rfl 3 (by decide) m_fl_RX11_27 rfl dX11_text_74 ?_
      refine z_get C G clX7 15 rfl 3 (by decide) m_fl_RX11_99 rfl dX11_text_77 ?_
      refine z_put C G clX9 13 rfl 2 (by decide) m_fl_RX11_85 rfl rfl rfl (Nat.le_of_ble_eq_true rfl) dX11_text_80 (fun H locs G => ?_)
      have G : zS T A s.heap s [[(x, .inr (10, [.ref t0, .ref ia, .ref im, .ref rd, .ref po, .ref co, .ref tr, .ref wa, .ref wb, .ref fi, .ref cd]))], [(a3p, .inl (T.2 3, 2, .inr (.inr (.inr (.inr f3p)))))], [(a4p, .inl (T.2 4, 2, .inr (.inr (.inr (.inr f4p)))))], [(a5p, .inl (T.2 5, 2, .inr (.inr (.inr (.inr f5p)))))], w1p, w2p, w3p, w4p, w5p, w6p, w1, w2, w3, [(t0, .inr (8, [.ref a1p, .int 0, .int 0, .int (-1), .ref a2p, .ref a3p, .ref a4p, .ref a5p]))], [(a2p, .inl (T.2 0, 3, .inl (fun _ => 0)))], [(rd, .inr (7, [.ref l0_20, .ref d0_21, .ref g0_22, .int 0, .int (-1), .ref a1p, .int 0, .int 0, .int 0, .int 0, .int r6_23, .int 0, .int 0]))], w1_24, w2_25, w3_26, [(a1p, .inl (T.2 1, 600, .inl f1p))]] _ _ := G
      refine lv_aload_n hx hb dX11_text_83 rfl (lv_at hl 2 rfl) ?_
      refine z_get C G clX11 0 rfl 0 (by decide) m_fl_RX11_10 rfl dX11_text_84 ?_
      refine lv_aload_n hx hb dX11_text_87 rfl (lv_at hl 2 rfl) ?_
      refine z_get C G clX11 0 rfl 3 (by decide) m_fl_RX11_27 rfl dX11_text_88 ?_
      refine z_get C G clX7 15 rfl 4 (by decide) m_fl_RX11_100 rfl dX11_text_91 ?_
      refine z_put C G clX9 13 rfl 3 (by decide) m_fl_RX11_88 rfl rfl rfl (Nat.le_of_ble_eq_true rfl) dX11_text_94 (fun H locs G => ?_)
      have G : zS T A s.heap s [[(x, .inr (10, [.ref t0, .ref ia, .ref im, .ref rd, .ref po, .ref co, .ref tr, .ref wa, .ref wb, .ref fi, .ref cd]))], [(a3p, .inl (T.2 3, 2, .inr (.inr (.inr (.inr f3p)))))], [(a4p, .inl (T.2 4, 2, .inr (.inr (.inr (.inr f4p)))))], [(a5p, .inl (T.2 5, 2, .inr (.inr (.inr (.inr f5p)))))], w1p, w2p, w3p, w4p, w5p, w6p, w1, w2, w3, [(t0, .inr (8, [.ref a1p, .int 0, .int 0, .int (-1), .ref a2p, .ref a3p, .ref a4p, .ref a5p]))], [(a2p, .inl (T.2 0, 3, .inl (fun _ => 0)))], [(rd, .inr (7, [.ref l0_20, .ref d0_21, .ref g0_22, .int 0, .int (-1), .ref a1p, .int 0, .int 0, .int 0, .int 0, .int r6_23, .int 0, .int 0]))], w1_24, w2_25, w3_26, [(a1p, .inl (T.2 1, 600, .inl f1p))]] _ _ := G
      refine lv_aload_n hx hb dX11_text_97 rfl (lv_at hl 2 rfl) ?_
      refine z_get C G clX11 0 rfl 3 (by decide) m_fl_RX11_27 rfl dX11_text_98 ?_
      refine z_get C G clX7 15 rfl 3 (by decide) m_fl_RX11_99 rfl dX11_text_101 ?_
      refine lv_if_eq (tgt := 109) hx hb dX11_text_104 (by decide) (fun _ => ?_) (fun q => absurd (by decide) q)
      refine lv_aload_n hx hb dX11_text_109 rfl (lv_at hl 2 rfl) ?_
      refine z_get C G clX11 0 rfl 0 (by decide) m_fl_RX11_10 rfl dX11_text_110 ?_
      refine lv_iload_n hx hb dX11_text_113 rfl (lv_at hl 3 rfl) ?_
      refine lv_iload_n hx hb dX11_text_114 rfl (lv_at hl 1 rfl) ?_
      refine lv_aload_n hx hb dX11_text_115 rfl (lv_at hl 2 rfl) ?_
      refine z_get C G clX11 0 rfl 3 (by decide) m_fl_RX11_27 rfl dX11_text_116 ?_
      refine z_Vv (bc := [[(t0, .inr (8, [.ref a1p, .int 0, .int 0, .int (-1), .ref a2p, .ref a3p, .ref a4p, .ref a5p]))], [(a1p, .inl (T.2 1, 600, .inl f1p))], [(a2p, .inl (T.2 0, 3, .inl (fun _ => 0)))], [(a3p, .inl (T.2 3, 2, .inr (.inr (.inr (.inr f3p)))))], [(a4p, .inl (T.2 4, 2, .inr (.inr (.inr (.inr f4p)))))], [(a5p, .inl (T.2 5, 2, .inr (.inr (.inr (.inr f5p)))))], w1p, w2p, w3p, w4p, w5p, w6p, [(rd, .inr (7, [.ref l0_20, .ref d0_21, .ref g0_22, .int 0, .int (-1), .ref a1p, .int 0, .int 0, .int 0, .int 0, .int r6_23, .int 0, .int 0]))], w1_24, w2_25, w3_26]) (br := [[(x, .inr (10, [.ref t0, .ref ia, .ref im, .ref rd, .ref po, .ref co, .ref tr, .ref wa, .ref wb, .ref fi, .ref cd]))], w1, w2, w3]) (As := [.int 1, .int 0, .ref rd]) (rest := []) C G (c_keep_1 l T t0 0 0 (-1) a1p a2p a3p a4p a5p f1p f3p f4p f5p l0p l1p d0p d1p g0p g1p w1p w2p w3p w4p w5p w6p rd l0_20 d0_21 g0_22 a1p r6_23 w1_24 w2_25 w3_26 hw0p hw1p hw2p hw3p hw4p hw5p he0p he1p he2p he3p he4p he5p h_27 h_28 h_29) (kV_RX11_101 C.2.2.2.2 (Nat.le_of_ble_eq_true rfl) (Nat.le_of_ble_eq_true rfl)) [13, 19, 14, 1, 2, 3, 4, 5, 6, 7, 8, 9, 15, 16, 17, 18] [0, 10, 11, 12] rfl rfl (ci := 8) (qc := (RX9, TX9, 8)) rfl rfl (List.mem_flatten.mpr ⟨_, List.mem_of_getElem? (i := 0) rfl, List.mem_cons_self⟩) rfl rfl hl.1 dX11_text_119 (Nat.le_of_ble_eq_true rfl) (Nat.le_of_ble_eq_true rfl) (fun b1 H locs hw G => ?_)
      obtain rfl := hw
      have G : zS T A s.heap s [[(x, .inr (10, [.ref t0, .ref ia, .ref im, .ref rd, .ref po, .ref co, .ref tr, .ref wa, .ref wb, .ref fi, .ref cd]))], w1, w2, w3] _ _ := G
      refine lv_aload_n hx hb dX11_text_122 rfl (lv_at hl 2 rfl) ?_
      refine lv_iload_n hx hb dX11_text_123 rfl (lv_at hl 3 rfl) ?_
      refine lv_if_ne (tgt := 131) hx hb dX11_text_124 (by decide) (fun _ => ?_) (fun q => absurd q (by decide))
      refine lv_iconst (v := 0) hx hb dX11_text_131 (by decide) ?_
      refine z_Vv (bc := [[(x, .inr (10, [.ref t0, .ref ia, .ref im, .ref rd, .ref po, .ref co, .ref tr, .ref wa, .ref wb, .ref fi, .ref cd]))], w1, w2, w3]) (br := []) (As := [.int 0]) (rest := []) C G (c_forget0 l T x t0 ia im rd po co tr wa wb fi cd w1 w2 w3 0 hw1 hw2 hw3) (kV_RX11_105 C.2.2.2.2 (Nat.le_of_ble_eq_true rfl) (Nat.le_of_ble_eq_true rfl)) [0, 1, 2, 3] [] rfl rfl (ci := 10) (qc := (RX11, TX11, 11)) rfl rfl (List.mem_flatten.mpr ⟨_, List.mem_of_getElem? (i := 0) rfl, List.mem_cons_self⟩) rfl rfl hl.1 dX11_text_132 (Nat.le_of_ble_eq_true rfl) (Nat.le_of_ble_eq_true rfl) (fun b1 H locs hw G => ?_)
      obtain rfl := hw
      have G : zS T A s.heap s [] _ _ := G
      refine lv_iload_n hx hb dX11_text_135 rfl (lv_at hl 1 rfl) ?_
      exact z_iret C hr hlocks G (Nat.le_of_ble_eq_true rfl) (Nat.le_of_ble_eq_true rfl) dX11_text_136 ⟨rfl, (by unfold zRes; rw [if_pos ⟨by decide, by decide, h_5⟩])⟩
    · refine lv_istore_n (lv' := [(3, .int 0), (0, .ref x), (1, .int 2), (2, .int at_)]) hx hb dX11_text_9 rfl hl (by decide) rfl (fun ls hl => ?_)
      refine lv_aload_n hx hb dX11_text_10 rfl (lv_at hl 1 rfl) ?_
      refine z_get C G clX11 0 rfl 0 (by decide) m_fl_RX11_10 rfl dX11_text_11 ?_
      refine z_get C G clX9 15 rfl 1 (by decide) m_fl_RX11_73 rfl dX11_text_14 ?_
      refine lv_istore (lv' := [(4, .int 0), (3, .int 0), (0, .ref x), (1, .int 2), (2, .int at_)]) hx hb dX11_text_17 hl (by decide) rfl (fun ls hl => ?_)
      refine lv_aload_n hx hb dX11_text_19 rfl (lv_at hl 2 rfl) ?_
      refine z_get C G clX11 0 rfl 0 (by decide) m_fl_RX11_10 rfl dX11_text_20 ?_
      refine lv_iconst (v := 0) hx hb dX11_text_23 (by decide) ?_
      refine z_put C G clX9 15 rfl 1 (by decide) m_fl_RX11_73 rfl rfl rfl (Nat.le_of_ble_eq_true rfl) dX11_text_24 (fun H locs G => ?_)
      have G : zS T A s.heap s [[(x, .inr (10, [.ref t0, .ref ia, .ref im, .ref rd, .ref po, .ref co, .ref tr, .ref wa, .ref wb, .ref fi, .ref cd]))], [(a1p, .inl (T.2 1, 600, .inl f1p))], [(a3p, .inl (T.2 3, 2, .inr (.inr (.inr (.inr f3p)))))], [(a4p, .inl (T.2 4, 2, .inr (.inr (.inr (.inr f4p)))))], [(a5p, .inl (T.2 5, 2, .inr (.inr (.inr (.inr f5p)))))], w1p, w2p, w3p, w4p, w5p, w6p, v, w1, w2, w3, [(t0, .inr (8, [.ref a1p, .int 0, .int 0, .int (-1), .ref a2p, .ref a3p, .ref a4p, .ref a5p]))], [(a2p, .inl (T.2 0, 3, .inl (fun _ => 0)))]] _ _ := G
      refine lv_aload_n hx hb dX11_text_27 rfl (lv_at hl 2 rfl) ?_
      refine z_get C G clX11 0 rfl 0 (by decide) m_fl_RX11_10 rfl dX11_text_28 ?_
      refine lv_iconst (v := 0) hx hb dX11_text_31 (by decide) ?_
      refine z_put C G clX9 15 rfl 2 (by decide) m_fl_RX11_85 rfl rfl rfl (Nat.le_of_ble_eq_true rfl) dX11_text_32 (fun H locs G => ?_)
      have G : zS T A s.heap s [[(x, .inr (10, [.ref t0, .ref ia, .ref im, .ref rd, .ref po, .ref co, .ref tr, .ref wa, .ref wb, .ref fi, .ref cd]))], [(a1p, .inl (T.2 1, 600, .inl f1p))], [(a3p, .inl (T.2 3, 2, .inr (.inr (.inr (.inr f3p)))))], [(a4p, .inl (T.2 4, 2, .inr (.inr (.inr (.inr f4p)))))], [(a5p, .inl (T.2 5, 2, .inr (.inr (.inr (.inr f5p)))))], w1p, w2p, w3p, w4p, w5p, w6p, v, w1, w2, w3, [(t0, .inr (8, [.ref a1p, .int 0, .int 0, .int (-1), .ref a2p, .ref a3p, .ref a4p, .ref a5p]))], [(a2p, .inl (T.2 0, 3, .inl (fun _ => 0)))]] _ _ := G
      refine lv_aload_n hx hb dX11_text_35 rfl (lv_at hl 2 rfl) ?_
      refine z_get C G clX11 0 rfl 0 (by decide) m_fl_RX11_10 rfl dX11_text_36 ?_
      refine lv_iconst (v := (-1)) hx hb dX11_text_39 (by decide) ?_
      refine z_put C G clX9 15 rfl 3 (by decide) m_fl_RX11_88 rfl rfl rfl (Nat.le_of_ble_eq_true rfl) dX11_text_40 (fun H locs G => ?_)
      have G : zS T A s.heap s [[(x, .inr (10, [.ref t0, .ref ia, .ref im, .ref rd, .ref po, .ref co, .ref tr, .ref wa, .ref wb, .ref fi, .ref cd]))], [(a1p, .inl (T.2 1, 600, .inl f1p))], [(a3p, .inl (T.2 3, 2, .inr (.inr (.inr (.inr f3p)))))], [(a4p, .inl (T.2 4, 2, .inr (.inr (.inr (.inr f4p)))))], [(a5p, .inl (T.2 5, 2, .inr (.inr (.inr (.inr f5p)))))], w1p, w2p, w3p, w4p, w5p, w6p, v, w1, w2, w3, [(t0, .inr (8, [.ref a1p, .int 0, .int 0, .int (-1), .ref a2p, .ref a3p, .ref a4p, .ref a5p]))], [(a2p, .inl (T.2 0, 3, .inl (fun _ => 0)))]] _ _ := G
      refine lv_iload_n hx hb dX11_text_43 rfl (lv_at hl 1 rfl) ?_
      refine lv_bipush (v := (-2)) hx hb dX11_text_44 (by decide) ?_
      refine lv_icmp_ne (tgt := 52) hx hb dX11_text_46 (by decide) (fun _ => ?_) (fun q => absurd q (by decide))
      refine lv_aload_n hx hb dX11_text_52 rfl (lv_at hl 2 rfl) ?_
      refine z_get C G clX11 0 rfl 3 (by decide) m_fl_RX11_27 rfl dX11_text_53 ?_
      refine lv_aload_n hx hb dX11_text_56 rfl (lv_at hl 2 rfl) ?_
      refine z_get C G clX11 0 rfl 0 (by decide) m_fl_RX11_10 rfl dX11_text_57 ?_
      refine z_get C G clX9 15 rfl 0 (by decide) m_fl_RX11_91 rfl dX11_text_60 ?_
      refine lv_iload hx hb dX11_text_63 (lv_at hl 0 rfl) ?_
      refine lv_iload_n hx hb dX11_text_65 rfl (lv_at hl 3 rfl) ?_
      refine z_Vv (bc := [v, [(a1p, .inl (T.2 1, 600, .inl f1p))]]) (br := [[(x, .inr (10, [.ref t0, .ref ia, .ref im, .ref rd, .ref po, .ref co, .ref tr, .ref wa, .ref wb, .ref fi, .ref cd]))], [(a3p, .inl (T.2 3, 2, .inr (.inr (.inr (.inr f3p)))))], [(a4p, .inl (T.2 4, 2, .inr (.inr (.inr (.inr f4p)))))], [(a5p, .inl (T.2 5, 2, .inr (.inr (.inr (.inr f5p)))))], w1p, w2p, w3p, w4p, w5p, w6p, w1, w2, w3, [(t0, .inr (8, [.ref a1p, .int 0, .int 0, .int (-1), .ref a2p, .ref a3p, .ref a4p, .ref a5p]))], [(a2p, .inl (T.2 0, 3, .inl (fun _ => 0)))]]) (As := [.ref a1p, .int 0, .int 2]) (rest := []) C G (c_read0 l T rd v a1p f1p 2 hv) (kV_RX11_95 C.2.2.2.2 (Nat.le_of_ble_eq_true rfl) (Nat.le_of_ble_eq_true rfl)) [11, 1] [0, 2, 3, 4, 5, 6, 7, 8, 9, 10, 12, 13, 14, 15, 16] rfl rfl (ci := 7) (qc := (RX7, TX7, 13)) rfl rfl (List.mem_flatten.mpr ⟨_, List.mem_of_getElem? (i := 0) rfl, (bReader_mem hv).choose_spec⟩) rfl rfl hl.1 dX11_text_66 (Nat.le_of_ble_eq_true rfl) (Nat.le_of_ble_eq_true rfl) (fun b1 H locs hw G => ?_)
      obtain ⟨l0_33, d0_34, g0_35, r6_36, w1_37, w2_38, w3_39, rfl, h_40, h_41, h_42⟩ := hw
      have G : zS T A s.heap s [[(x, .inr (10, [.ref t0, .ref ia, .ref im, .ref rd, .ref po, .ref co, .ref tr, .ref wa, .ref wb, .ref fi, .ref cd]))], [(a3p, .inl (T.2 3, 2, .inr (.inr (.inr (.inr f3p)))))], [(a4p, .inl (T.2 4, 2, .inr (.inr (.inr (.inr f4p)))))], [(a5p, .inl (T.2 5, 2, .inr (.inr (.inr (.inr f5p)))))], w1p, w2p, w3p, w4p, w5p, w6p, w1, w2, w3, [(t0, .inr (8, [.ref a1p, .int 0, .int 0, .int (-1), .ref a2p, .ref a3p, .ref a4p, .ref a5p]))], [(a2p, .inl (T.2 0, 3, .inl (fun _ => 0)))], [(rd, .inr (7, [.ref l0_33, .ref d0_34, .ref g0_35, .int 0, .int (-1), .ref a1p, .int 0, .int 0, .int 0, .int 0, .int r6_36, .int 0, .int 0]))], w1_37, w2_38, w3_39, [(a1p, .inl (T.2 1, 600, .inl f1p))]] _ _ := G
      refine lv_aload_n hx hb dX11_text_69 rfl (lv_at hl 2 rfl) ?_
      refine z_get C G clX11 0 rfl 0 (by decide) m_fl_RX11_10 rfl dX11_text_70 ?_
      refine lv_aload_n hx hb dX11_text_73 rfl (lv_at hl 2 rfl) ?_
      refine z_get C G clX11 0 rfl 3 (by decide) m_fl_RX11_27 rfl dX11_text_74 ?_
      refine z_get C G clX7 15 rfl 3 (by decide) m_fl_RX11_99 rfl dX11_text_77 ?_
      refine z_put C G clX9 13 rfl 2 (by decide) m_fl_RX11_85 rfl rfl rfl (Nat.le_of_ble_eq_true rfl) dX11_text_80 (fun H locs G => ?_)
      have G : zS T A s.heap s [[(x, .inr (10, [.ref t0, .ref ia, .ref im, .ref rd, .ref po, .ref co, .ref tr, .ref wa, .ref wb, .ref fi, .ref cd]))], [(a3p, .inl (T.2 3, 2, .inr (.inr (.inr (.inr f3p)))))], [(a4p, .inl (T.2 4, 2, .inr (.inr (.inr (.inr f4p)))))], [(a5p, .inl (T.2 5, 2, .inr (.inr (.inr (.inr f5p)))))], w1p, w2p, w3p, w4p, w5p, w6p, w1, w2, w3, [(t0, .inr (8, [.ref a1p, .int 0, .int 0, .int (-1), .ref a2p, .ref a3p, .ref a4p, .ref a5p]))], [(a2p, .inl (T.2 0, 3, .inl (fun _ => 0)))], [(rd, .inr (7, [.ref l0_33, .ref d0_34, .ref g0_35, .int 0, .int (-1), .ref a1p, .int 0, .int 0, .int 0, .int 0, .int r6_36, .int 0, .int 0]))], w1_37, w2_38, w3_39, [(a1p, .inl (T.2 1, 600, .inl f1p))]] _ _ := G
      refine lv_aload_n hx hb dX11_text_83 rfl (lv_at hl 2 rfl) ?_
      refine z_get C G clX11 0 rfl 0 (by decide) m_fl_RX11_10 rfl dX11_text_84 ?_
      refine lv_aload_n hx hb dX11_text_87 rfl (lv_at hl 2 rfl) ?_
      refine z_get C G clX11 0 rfl 3 (by decide) m_fl_RX11_27 rfl dX11_text_88 ?_
      refine z_get C G clX7 15 rfl 4 (by decide) m_fl_RX11_100 rfl dX11_text_91 ?_
      refine z_put C G clX9 13 rfl 3 (by decide) m_fl_RX11_88 rfl rfl rfl (Nat.le_of_ble_eq_true rfl) dX11_text_94 (fun H locs G => ?_)
      have G : zS T A s.heap s [[(x, .inr (10, [.ref t0, .ref ia, .ref im, .ref rd, .ref po, .ref co, .ref tr, .ref wa, .ref wb, .ref fi, .ref cd]))], [(a3p, .inl (T.2 3, 2, .inr (.inr (.inr (.inr f3p)))))], [(a4p, .inl (T.2 4, 2, .inr (.inr (.inr (.inr f4p)))))], [(a5p, .inl (T.2 5, 2, .inr (.inr (.inr (.inr f5p)))))], w1p, w2p, w3p, w4p, w5p, w6p, w1, w2, w3, [(t0, .inr (8, [.ref a1p, .int 0, .int 0, .int (-1), .ref a2p, .ref a3p, .ref a4p, .ref a5p]))], [(a2p, .inl (T.2 0, 3, .inl (fun _ => 0)))], [(rd, .inr (7, [.ref l0_33, .ref d0_34, .ref g0_35, .int 0, .int (-1), .ref a1p, .int 0, .int 0, .int 0, .int 0, .int r6_36, .int 0, .int 0]))], w1_37, w2_38, w3_39, [(a1p, .inl (T.2 1, 600, .inl f1p))]] _ _ := G
      refine lv_aload_n hx hb dX11_text_97 rfl (lv_at hl 2 rfl) ?_
      refine z_get C G clX11 0 rfl 3 (by decide) m_fl_RX11_27 rfl dX11_text_98 ?_
      refine z_get C G clX7 15 rfl 3 (by decide) m_fl_RX11_99 rfl dX11_text_101 ?_
      refine lv_if_eq (tgt := 109) hx hb dX11_text_104 (by decide) (fun _ => ?_) (fun q => absurd (by decide) q)
      refine lv_aload_n hx hb dX11_text_109 rfl (lv_at hl 2 rfl) ?_
      refine z_get C G clX11 0 rfl 0 (by decide) m_fl_RX11_10 rfl dX11_text_110 ?_
      refine lv_iload_n hx hb dX11_text_113 rfl (lv_at hl 3 rfl) ?_
      refine lv_iload_n hx hb dX11_text_114 rfl (lv_at hl 1 rfl) ?_
      refine lv_aload_n hx hb dX11_text_115 rfl (lv_at hl 2 rfl) ?_
      refine z_get C G clX11 0 rfl 3 (by decide) m_fl_RX11_27 rfl dX11_text_116 ?_
      refine z_Vv (bc := [[(t0, .inr (8, [.ref a1p, .int 0, .int 0, .int (-1), .ref a2p, .ref a3p, .ref a4p, .ref a5p]))], [(a1p, .inl (T.2 1, 600, .inl f1p))], [(a2p, .inl (T.2 0, 3, .inl (fun _ => 0)))], [(a3p, .inl (T.2 3, 2, .inr (.inr (.inr (.inr f3p)))))], [(a4p, .inl (T.2 4, 2, .inr (.inr (.inr (.inr f4p)))))], [(a5p, .inl (T.2 5, 2, .inr (.inr (.inr (.inr f5p)))))], w1p, w2p, w3p, w4p, w5p, w6p, [(rd, .inr (7, [.ref l0_33, .ref d0_34, .ref g0_35, .int 0, .int (-1), .ref a1p, .int 0, .int 0, .int 0, .int 0, .int r6_36, .int 0, .int 0]))], w1_37, w2_38, w3_39]) (br := [[(x, .inr (10, [.ref t0, .ref ia, .ref im, .ref rd, .ref po, .ref co, .ref tr, .ref wa, .ref wb, .ref fi, .ref cd]))], w1, w2, w3]) (As := [.int 2, .int 0, .ref rd]) (rest := []) C G (c_keep_2 l T t0 0 0 (-1) a1p a2p a3p a4p a5p f1p f3p f4p f5p l0p l1p d0p d1p g0p g1p w1p w2p w3p w4p w5p w6p rd l0_33 d0_34 g0_35 a1p r6_36 w1_37 w2_38 w3_39 hw0p hw1p hw2p hw3p hw4p hw5p he0p he1p he2p he3p he4p he5p h_40 h_41 h_42) (kV_RX11_101 C.2.2.2.2 (Nat.le_of_ble_eq_true rfl) (Nat.le_of_ble_eq_true rfl)) [13, 19, 14, 1, 2, 3, 4, 5, 6, 7, 8, 9, 15, 16, 17, 18] [0, 10, 11, 12] rfl rfl (ci := 8) (qc := (RX9, TX9, 8)) rfl rfl (List.mem_flatten.mpr ⟨_, List.mem_of_getElem? (i := 0) rfl, List.mem_cons_self⟩) rfl rfl hl.1 dX11_text_119 (Nat.le_of_ble_eq_true rfl) (Nat.le_of_ble_eq_true rfl) (fun b1 H locs hw G => ?_)
      obtain rfl := hw
      have G : zS T A s.heap s [[(x, .inr (10, [.ref t0, .ref ia, .ref im, .ref rd, .ref po, .ref co, .ref tr, .ref wa, .ref wb, .ref fi, .ref cd]))], w1, w2, w3] _ _ := G
      refine lv_aload_n hx hb dX11_text_122 rfl (lv_at hl 2 rfl) ?_
      refine lv_iload_n hx hb dX11_text_123 rfl (lv_at hl 3 rfl) ?_
      refine lv_if_ne (tgt := 131) hx hb dX11_text_124 (by decide) (fun _ => ?_) (fun q => absurd q (by decide))
      refine lv_iconst (v := 0) hx hb dX11_text_131 (by decide) ?_
      refine z_Vv (bc := [[(x, .inr (10, [.ref t0, .ref ia, .ref im, .ref rd, .ref po, .ref co, .ref tr, .ref wa, .ref wb, .ref fi, .ref cd]))], w1, w2, w3]) (br := []) (As := [.int 0]) (rest := []) C G (c_forget0 l T x t0 ia im rd po co tr wa wb fi cd w1 w2 w3 0 hw1 hw2 hw3) (kV_RX11_105 C.2.2.2.2 (Nat.le_of_ble_eq_true rfl) (Nat.le_of_ble_eq_true rfl)) [0, 1, 2, 3] [] rfl rfl (ci := 10) (qc := (RX11, TX11, 11)) rfl rfl (List.mem_flatten.mpr ⟨_, List.mem_of_getElem? (i := 0) rfl, List.mem_cons_self⟩) rfl rfl hl.1 dX11_text_132 (Nat.le_of_ble_eq_true rfl) (Nat.le_of_ble_eq_true rfl) (fun b1 H locs hw G => ?_)
      obtain rfl := hw
      have G : zS T A s.heap s [] _ _ := G
      refine lv_iload_n hx hb dX11_text_135 rfl (lv_at hl 1 rfl) ?_
      exact z_iret C hr hlocks G (Nat.le_of_ble_eq_true rfl) (Nat.le_of_ble_eq_true rfl) dX11_text_136 ⟨rfl, (by unfold zRes; rw [if_pos ⟨by decide, by decide, h_5⟩])⟩
  · have h_6 : (so.toInt < 0 ∨ 2 < so.toInt ∨ ¬ at_.toInt = -1) := h_6
    refine lv_istore_n (lv' := [(3, .int (-2)), (0, .ref x), (1, .int so), (2, .int at_)]) hx hb dX11_text_9 rfl hl (by decide) rfl (fun ls hl => ?_)
    refine lv_aload_n hx hb dX11_text_10 rfl (lv_at hl 1 rfl) ?_
    refine z_get C G clX11 0 rfl 0 (by decide) m_fl_RX11_10 rfl dX11_text_11 ?_
    refine z_get C G clX9 15 rfl 1 (by decide) m_fl_RX11_73 rfl dX11_text_14 ?_
    refine lv_istore (lv' := [(4, .int 0), (3, .int (-2)), (0, .ref x), (1, .int so), (2, .int at_)]) hx hb dX11_text_17 hl (by decide) rfl (fun ls hl => ?_)
    refine lv_aload_n hx hb dX11_text_19 rfl (lv_at hl 2 rfl) ?_
    refine z_get C G clX11 0 rfl 0 (by decide) m_fl_RX11_10 rfl dX11_text_20 ?_
    refine lv_iconst (v := 0) hx hb dX11_text_23 (by decide) ?_
    refine z_put C G clX9 15 rfl 1 (by decide) m_fl_RX11_73 rfl rfl rfl (Nat.le_of_ble_eq_true rfl) dX11_text_24 (fun H locs G => ?_)
    have G : zS T A s.heap s [[(x, .inr (10, [.ref t0, .ref ia, .ref im, .ref rd, .ref po, .ref co, .ref tr, .ref wa, .ref wb, .ref fi, .ref cd]))], [(a1p, .inl (T.2 1, 600, .inl f1p))], [(a3p, .inl (T.2 3, 2, .inr (.inr (.inr (.inr f3p)))))], [(a4p, .inl (T.2 4, 2, .inr (.inr (.inr (.inr f4p)))))], [(a5p, .inl (T.2 5, 2, .inr (.inr (.inr (.inr f5p)))))], w1p, w2p, w3p, w4p, w5p, w6p, v, w1, w2, w3, [(t0, .inr (8, [.ref a1p, .int 0, .int 0, .int (-1), .ref a2p, .ref a3p, .ref a4p, .ref a5p]))], [(a2p, .inl (T.2 0, 3, .inl (fun _ => 0)))]] _ _ := G
    refine lv_aload_n hx hb dX11_text_27 rfl (lv_at hl 2 rfl) ?_
    refine z_get C G clX11 0 rfl 0 (by decide) m_fl_RX11_10 rfl dX11_text_28 ?_
    refine lv_iconst (v := 0) hx hb dX11_text_31 (by decide) ?_
    refine z_put C G clX9 15 rfl 2 (by decide) m_fl_RX11_85 rfl rfl rfl (Nat.le_of_ble_eq_true rfl) dX11_text_32 (fun H locs G => ?_)
    have G : zS T A s.heap s [[(x, .inr (10, [.ref t0, .ref ia, .ref im, .ref rd, .ref po, .ref co, .ref tr, .ref wa, .ref wb, .ref fi, .ref cd]))], [(a1p, .inl (T.2 1, 600, .inl f1p))], [(a3p, .inl (T.2 3, 2, .inr (.inr (.inr (.inr f3p)))))], [(a4p, .inl (T.2 4, 2, .inr (.inr (.inr (.inr f4p)))))], [(a5p, .inl (T.2 5, 2, .inr (.inr (.inr (.inr f5p)))))], w1p, w2p, w3p, w4p, w5p, w6p, v, w1, w2, w3, [(t0, .inr (8, [.ref a1p, .int 0, .int 0, .int (-1), .ref a2p, .ref a3p, .ref a4p, .ref a5p]))], [(a2p, .inl (T.2 0, 3, .inl (fun _ => 0)))]] _ _ := G
    refine lv_aload_n hx hb dX11_text_35 rfl (lv_at hl 2 rfl) ?_
    refine z_get C G clX11 0 rfl 0 (by decide) m_fl_RX11_10 rfl dX11_text_36 ?_
    refine lv_iconst (v := (-1)) hx hb dX11_text_39 (by decide) ?_
    refine z_put C G clX9 15 rfl 3 (by decide) m_fl_RX11_88 rfl rfl rfl (Nat.le_of_ble_eq_true rfl) dX11_text_40 (fun H locs G => ?_)
    have G : zS T A s.heap s [[(x, .inr (10, [.ref t0, .ref ia, .ref im, .ref rd, .ref po, .ref co, .ref tr, .ref wa, .ref wb, .ref fi, .ref cd]))], [(a1p, .inl (T.2 1, 600, .inl f1p))], [(a3p, .inl (T.2 3, 2, .inr (.inr (.inr (.inr f3p)))))], [(a4p, .inl (T.2 4, 2, .inr (.inr (.inr (.inr f4p)))))], [(a5p, .inl (T.2 5, 2, .inr (.inr (.inr (.inr f5p)))))], w1p, w2p, w3p, w4p, w5p, w6p, v, w1, w2, w3, [(t0, .inr (8, [.ref a1p, .int 0, .int 0, .int (-1), .ref a2p, .ref a3p, .ref a4p, .ref a5p]))], [(a2p, .inl (T.2 0, 3, .inl (fun _ => 0)))]] _ _ := G
    refine lv_iload_n hx hb dX11_text_43 rfl (lv_at hl 1 rfl) ?_
    refine lv_bipush (v := (-2)) hx hb dX11_text_44 (by decide) ?_
    refine lv_icmp_ne (tgt := 52) hx hb dX11_text_46 (by decide) (fun q => absurd (by decide) q) (fun _ => ?_)
    refine lv_bipush (v := (-2)) hx hb dX11_text_49 (by decide) ?_
    have G := G.sub (bs' := []) [] rfl
    exact z_iret C hr hlocks G (Nat.le_of_ble_eq_true rfl) (Nat.le_of_ble_eq_true rfl) dX11_text_51 ⟨rfl, (by unfold zRes; rw [if_neg (by omega)])⟩
set_option maxHeartbeats 4000000 in
set_option maxRecDepth 100000 in
/-- feed: on a new object -/
theorem c_x_feed (l : Launch) (T : zTy) (x : Nat) (t0 : Nat) (ia : Nat) (im : Nat) (rd : Nat) (po : Nat) (co : Nat) (tr : Nat) (wa : Nat) (wb : Nat) (fi : Nat) (cd : Nat) (a1p : Nat) (a2p : Nat) (a3p : Nat) (a4p : Nat) (a5p : Nat) (f1p : Nat → Int32) (p1 : Int32) (p2 : Int32) (p3 : Int32) (p4 : Int32) (p5 : Int32) : zMi l T yX11_feed cX11_feed 6 (some .int) 3 0 0 [.ref x, .int p1, .int p2, .int p3, .int p4, .int p5] [[(x, .inr (10, [.ref t0, .ref ia, .ref im, .ref rd, .ref po, .ref co, .ref tr, .ref wa, .ref wb, .ref fi, .ref cd]))], [(t0, .inr (8, [.ref a1p, .int 0, .int 0, .int (-1), .ref a2p, .ref a3p, .ref a4p, .ref a5p]))], [(a1p, .inl (T.2 1, 600, .inl f1p))]] (fun (r : Int32) bs => bs = [] ∧ r = 20) := by
  refine zMi_of (own := RX11) (by decide) rfl (Nat.le_of_ble_eq_true rfl) ?_
  intro p e s m args below meth c A ls C hr hlocks hnm hAe G hl
  have hx := C.1
  have hb := C.2.1
  have hl : lv_has ls 6 [(0, .ref x), (1, .int p1), (2, .int p2), (3, .int p3), (4, .int p4), (5, .int p5)] := hl
  refine lv_aload_n hx hb dX11_feed_0 rfl (lv_at hl 0 rfl) ?_
  refine z_get C G clX11 0 rfl 0 (by decide) m_fl_RX11_10 rfl dX11_feed_1 ?_
  refine z_get C G clX9 1 rfl 1 (by decide) m_fl_RX11_73 rfl dX11_feed_4 ?_
  refine lv_bipush (v := 20) hx hb dX11_feed_7 (by decide) ?_
  refine lv_iadd hx hb dX11_feed_9 ?_
  refine lv_topi (fun y_1 ey_1 => ?_)
  obtain rfl : y_1 = 20 := ey_1.trans (by decide)
  refine lv_sipush (v := 600) hx hb dX11_feed_10 (by decide) ?_
  refine lv_icmp_le (tgt := 18) hx hb dX11_feed_13 (by decide) (fun _ => ?_) (fun q => absurd (by decide) q)
  refine lv_aload_n hx hb dX11_feed_18 rfl (lv_at hl 0 rfl) ?_
  refine z_get C G clX11 0 rfl 0 (by decide) m_fl_RX11_10 rfl dX11_feed_19 ?_
  refine lv_iload_n hx hb dX11_feed_22 rfl (lv_at hl 1 rfl) ?_
  refine z_Vv (bc := [[(t0, .inr (8, [.ref a1p, .int 0, .int 0, .int (-1), .ref a2p, .ref a3p, .ref a4p, .ref a5p]))], [(a1p, .inl (T.2 1, 600, .inl f1p))]]) (br := [[(x, .inr (10, [.ref t0, .ref ia, .ref im, .ref rd, .ref po, .ref co, .ref tr, .ref wa, .ref wb, .ref fi, .ref cd]))]]) (As := [.int p1]) (rest := []) C G (c_append l T t0 a1p a2p a3p a4p a5p 0 0 (-1) f1p p1 (by first | assumption | omega | rfl)) (kV_RX11_77 C.2.2.2.2 (Nat.le_of_ble_eq_true rfl) (Nat.le_of_ble_eq_true rfl)) [1, 2] [0] rfl rfl (ci := 8) (qc := (RX9, TX9, 8)) rfl rfl (List.mem_flatten.mpr ⟨_, List.mem_of_getElem? (i := 0) rfl, List.mem_cons_self⟩) rfl rfl hl.1 dX11_feed_23 (Nat.le_of_ble_eq_true rfl) (Nat.le_of_ble_eq_true rfl) (fun b1 H locs hw G => ?_)
  obtain ⟨g_2, rfl⟩ := hw
  have G : zS T A s.heap s [[(x, .inr (10, [.ref t0, .ref ia, .ref im, .ref rd, .ref po, .ref co, .ref tr, .ref wa, .ref wb, .ref fi, .ref cd]))], [(t0, .inr (8, [.ref a1p, .int (nI (0 + 4)), .int 0, .int (-1), .ref a2p, .ref a3p, .ref a4p, .ref a5p]))], [(a1p, .inl (T.2 1, 600, .inl g_2))]] _ _ := G
  refine lv_aload_n hx hb dX11_feed_26 rfl (lv_at hl 0 rfl) ?_
  refine z_get C G clX11 0 rfl 0 (by decide) m_fl_RX11_10 rfl dX11_feed_27 ?_
  refine lv_iload_n hx hb dX11_feed_30 rfl (lv_at hl 2 rfl) ?_
  refine z_Vv (bc := [[(t0, .inr (8, [.ref a1p, .int (nI (0 + 4)), .int 0, .int (-1), .ref a2p, .ref a3p, .ref a4p, .ref a5p]))], [(a1p, .inl (T.2 1, 600, .inl g_2))]]) (br := [[(x, .inr (10, [.ref t0, .ref ia, .ref im, .ref rd, .ref po, .ref co, .ref tr, .ref wa, .ref wb, .ref fi, .ref cd]))]]) (As := [.int p2]) (rest := []) C G (c_append l T t0 a1p a2p a3p a4p a5p (0 + 4) 0 (-1) g_2 p2 (by first | assumption | omega | rfl)) (kV_RX11_77 C.2.2.2.2 (Nat.le_of_ble_eq_true rfl) (Nat.le_of_ble_eq_true rfl)) [1, 2] [0] rfl rfl (ci := 8) (qc := (RX9, TX9, 8)) rfl rfl (List.mem_flatten.mpr ⟨_, List.mem_of_getElem? (i := 0) rfl, List.mem_cons_self⟩) rfl rfl hl.1 dX11_feed_31 (Nat.le_of_ble_eq_true rfl) (Nat.le_of_ble_eq_true rfl) (fun b1 H locs hw G => ?_)
  obtain ⟨g_4, rfl⟩ := hw
  have G : zS T A s.heap s [[(x, .inr (10, [.ref t0, .ref ia, .ref im, .ref rd, .ref po, .ref co, .ref tr, .ref wa, .ref wb, .ref fi, .ref cd]))], [(t0, .inr (8, [.ref a1p, .int (nI ((0 + 4) + 4)), .int 0, .int (-1), .ref a2p, .ref a3p, .ref a4p, .ref a5p]))], [(a1p, .inl (T.2 1, 600, .inl g_4))]] _ _ := G
  refine lv_aload_n hx hb dX11_feed_34 rfl (lv_at hl 0 rfl) ?_
  refine z_get C G clX11 0 rfl 0 (by decide) m_fl_RX11_10 rfl dX11_feed_35 ?_
  refine lv_iload_n hx hb dX11_feed_38 rfl (lv_at hl 3 rfl) ?_
  refine z_Vv (bc := [[(t0, .inr (8, [.ref a1p, .int (nI ((0 + 4) + 4)), .int 0, .int (-1), .ref a2p, .ref a3p, .ref a4p, .ref a5p]))], [(a1p, .inl (T.2 1, 600, .inl g_4))]]) (br := [[(x, .inr (10, [.ref t0, .ref ia, .ref im, .ref rd, .ref po, .ref co, .ref tr, .ref wa, .ref wb, .ref fi, .ref cd]))]]) (As := [.int p3]) (rest := []) C G (c_append l T t0 a1p a2p a3p a4p a5p ((0 + 4) + 4) 0 (-1) g_4 p3 (by first | assumption | omega | rfl)) (kV_RX11_77 C.2.2.2.2 (Nat.le_of_ble_eq_true rfl) (Nat.le_of_ble_eq_true rfl)) [1, 2] [0] rfl rfl (ci := 8) (qc := (RX9, TX9, 8)) rfl rfl (List.mem_flatten.mpr ⟨_, List.mem_of_getElem? (i := 0) rfl, List.mem_cons_self⟩) rfl rfl hl.1 dX11_feed_39 (Nat.le_of_ble_eq_true rfl) (Nat.le_of_ble_eq_true rfl) (fun b1 H locs hw G => ?_)
  obtain ⟨g_6, rfl⟩ := hw
  have G : zS T A s.heap s [[(x, .inr (10, [.ref t0, .ref ia, .ref im, .ref rd, .ref po, .ref co, .ref tr, .ref wa, .ref wb, .ref fi, .ref cd]))], [(t0, .inr (8, [.ref a1p, .int (nI (((0 + 4) + 4) + 4)), .int 0, .int (-1), .ref a2p, .ref a3p, .ref a4p, .ref a5p]))], [(a1p, .inl (T.2 1, 600, .inl g_6))]] _ _ := G
  refine lv_aload_n hx hb dX11_feed_42 rfl (lv_at hl 0 rfl) ?_
  refine z_get C G clX11 0 rfl 0 (by decide) m_fl_RX11_10 rfl dX11_feed_43 ?_
  refine lv_iload hx hb dX11_feed_46 (lv_at hl 4 rfl) ?_
  refine z_Vv (bc := [[(t0, .inr (8, [.ref a1p, .int (nI (((0 + 4) + 4) + 4)), .int 0, .int (-1), .ref a2p, .ref a3p, .ref a4p, .ref a5p]))], [(a1p, .inl (T.2 1, 600, .inl g_6))]]) (br := [[(x, .inr (10, [.ref t0, .ref ia, .ref im, .ref rd, .ref po, .ref co, .ref tr, .ref wa, .ref wb, .ref fi, .ref cd]))]]) (As := [.int p4]) (rest := []) C G (c_append l T t0 a1p a2p a3p a4p a5p (((0 + 4) + 4) + 4) 0 (-1) g_6 p4 (by first | assumption | omega | rfl)) (kV_RX11_77 C.2.2.2.2 (Nat.le_of_ble_eq_true rfl) (Nat.le_of_ble_eq_true rfl)) [1, 2] [0] rfl rfl (ci := 8) (qc := (RX9, TX9, 8)) rfl rfl (List.mem_flatten.mpr ⟨_, List.mem_of_getElem? (i := 0) rfl, List.mem_cons_self⟩) rfl rfl hl.1 dX11_feed_48 (Nat.le_of_ble_eq_true rfl) (Nat.le_of_ble_eq_true rfl) (fun b1 H locs hw G => ?_)
  obtain ⟨g_8, rfl⟩ := hw
  have G : zS T A s.heap s [[(x, .inr (10, [.ref t0, .ref ia, .ref im, .ref rd, .ref po, .ref co, .ref tr, .ref wa, .ref wb, .ref fi, .ref cd]))], [(t0, .inr (8, [.ref a1p, .int (nI ((((0 + 4) + 4) + 4) + 4)), .int 0, .int (-1), .ref a2p, .ref a3p, .ref a4p, .ref a5p]))], [(a1p, .inl (T.2 1, 600, .inl g_8))]] _ _ := G
  refine lv_aload_n hx hb dX11_feed_51 rfl (lv_at hl 0 rfl) ?_
  refine z_get C G clX11 0 rfl 0 (by decide) m_fl_RX11_10 rfl dX11_feed_52 ?_
  refine lv_iload hx hb dX11_feed_55 (lv_at hl 5 rfl) ?_
  refine z_Vv (bc := [[(t0, .inr (8, [.ref a1p, .int (nI ((((0 + 4) + 4) + 4) + 4)), .int 0, .int (-1), .ref a2p, .ref a3p, .ref a4p, .ref a5p]))], [(a1p, .inl (T.2 1, 600, .inl g_8))]]) (br := [[(x, .inr (10, [.ref t0, .ref ia, .ref im, .ref rd, .ref po, .ref co, .ref tr, .ref wa, .ref wb, .ref fi, .ref cd]))]]) (As := [.int p5]) (rest := []) C G (c_append l T t0 a1p a2p a3p a4p a5p ((((0 + 4) + 4) + 4) + 4) 0 (-1) g_8 p5 (by first | assumption | omega | rfl)) (kV_RX11_77 C.2.2.2.2 (Nat.le_of_ble_eq_true rfl) (Nat.le_of_ble_eq_true rfl)) [1, 2] [0] rfl rfl (ci := 8) (qc := (RX9, TX9, 8)) rfl rfl (List.mem_flatten.mpr ⟨_, List.mem_of_getElem? (i := 0) rfl, List.mem_cons_self⟩) rfl rfl hl.1 dX11_feed_57 (Nat.le_of_ble_eq_true rfl) (Nat.le_of_ble_eq_true rfl) (fun b1 H locs hw G => ?_)
  obtain ⟨g_10, rfl⟩ := hw
  have G : zS T A s.heap s [[(x, .inr (10, [.ref t0, .ref ia, .ref im, .ref rd, .ref po, .ref co, .ref tr, .ref wa, .ref wb, .ref fi, .ref cd]))], [(t0, .inr (8, [.ref a1p, .int (nI (((((0 + 4) + 4) + 4) + 4) + 4)), .int 0, .int (-1), .ref a2p, .ref a3p, .ref a4p, .ref a5p]))], [(a1p, .inl (T.2 1, 600, .inl g_10))]] _ _ := G
  refine lv_aload_n hx hb dX11_feed_60 rfl (lv_at hl 0 rfl) ?_
  refine z_get C G clX11 0 rfl 0 (by decide) m_fl_RX11_10 rfl dX11_feed_61 ?_
  refine z_get C G clX9 1 rfl 1 (by decide) m_fl_RX11_73 rfl dX11_feed_64 ?_
  have G := G.sub (bs' := []) [] rfl
  exact z_iret C hr hlocks G (Nat.le_of_ble_eq_true rfl) (Nat.le_of_ble_eq_true rfl) dX11_feed_67 ⟨rfl, (by decide)⟩
set_option maxHeartbeats 4000000 in
set_option maxRecDepth 100000 in
/-- end: on a new object -/
theorem c_x_end (l : Launch) (T : zTy) (x : Nat) (t0 : Nat) (ia : Nat) (im : Nat) (rd : Nat) (po : Nat) (co : Nat) (tr : Nat) (wa : Nat) (wb : Nat) (fi : Nat) (cd : Nat) (a1p : Nat) (a2p : Nat) (a3p : Nat) (a4p : Nat) (a5p : Nat) (n : Int32) : zMi l T yX11_end cX11_end 2 (some .int) 3 0 0 [.ref x, .int n] [[(x, .inr (10, [.ref t0, .ref ia, .ref im, .ref rd, .ref po, .ref co, .ref tr, .ref wa, .ref wb, .ref fi, .ref cd]))], [(t0, .inr (8, [.ref a1p, .int 0, .int 0, .int (-1), .ref a2p, .ref a3p, .ref a4p, .ref a5p]))]] (fun (r : Int32) bs => bs = [] ∧ r = zEnd n) := by
  refine zMi_of (own := RX11) (by decide) rfl (Nat.le_of_ble_eq_true rfl) ?_
  intro p e s m args below meth c A ls C hr hlocks hnm hAe G hl
  have hx := C.1
  have hb := C.2.1
  have hl : lv_has ls 2 [(0, .ref x), (1, .int n)] := hl
  refine lv_iload_n hx hb dX11_end_0 rfl (lv_at hl 1 rfl) ?_
  refine lv_if_lt (tgt := 15) hx hb dX11_end_1 (by decide) (fun c_1 => ?_) (fun c_1 => ?_)
  · have c_1n : n.toInt < (0 : Int) := (fa_lt _ _).mp c_1
    refine lv_iconst (v := (-1)) hx hb dX11_end_15 (by decide) ?_
    have G := G.sub (bs' := []) [] rfl
    exact z_iret C hr hlocks G (Nat.le_of_ble_eq_true rfl) (Nat.le_of_ble_eq_true rfl) dX11_end_16 ⟨rfl, (by unfold zEnd; rw [if_neg (by omega)])⟩
  · have c_1n : ¬ n.toInt < (0 : Int) := fun q => c_1 ((fa_lt _ _).mpr q)
    refine lv_iload_n hx hb dX11_end_4 rfl (lv_at hl 1 rfl) ?_
    refine lv_aload_n hx hb dX11_end_5 rfl (lv_at hl 0 rfl) ?_
    refine z_get C G clX11 0 rfl 0 (by decide) m_fl_RX11_10 rfl dX11_end_6 ?_
    refine z_get C G clX9 1 rfl 1 (by decide) m_fl_RX11_73 rfl dX11_end_9 ?_
    refine lv_icmp_le (tgt := 17) hx hb dX11_end_12 (by decide) (fun c_2 => ?_) (fun c_2 => ?_)
    · have c_2n : n.toInt ≤ (0 : Int) := (fa_le _ _).mp c_2
      refine lv_aload_n hx hb dX11_end_17 rfl (lv_at hl 0 rfl) ?_
      refine z_get C G clX11 0 rfl 0 (by decide) m_fl_RX11_10 rfl dX11_end_18 ?_
      refine lv_iload_n hx hb dX11_end_21 rfl (lv_at hl 1 rfl) ?_
      refine z_put C G clX9 1 rfl 1 (by decide) m_fl_RX11_73 rfl rfl rfl (Nat.le_of_ble_eq_true rfl) dX11_end_22 (fun H locs G => ?_)
      have G : zS T A s.heap s [[(x, .inr (10, [.ref t0, .ref ia, .ref im, .ref rd, .ref po, .ref co, .ref tr, .ref wa, .ref wb, .ref fi, .ref cd]))], [(t0, .inr (8, [.ref a1p, .int n, .int 0, .int (-1), .ref a2p, .ref a3p, .ref a4p, .ref a5p]))]] _ _ := G
      refine lv_iload_n hx hb dX11_end_25 rfl (lv_at hl 1 rfl) ?_
      have G := G.sub (bs' := []) [] rfl
      exact z_iret C hr hlocks G (Nat.le_of_ble_eq_true rfl) (Nat.le_of_ble_eq_true rfl) dX11_end_26 ⟨rfl, (by unfold zEnd; rw [if_pos (by omega)]; exact (fa_eq _ _).mpr (by show n.toInt = 0; omega))⟩
    · have c_2n : ¬ n.toInt ≤ (0 : Int) := fun q => c_2 ((fa_le _ _).mpr q)
      refine lv_iconst (v := (-1)) hx hb dX11_end_15 (by decide) ?_
      have G := G.sub (bs' := []) [] rfl
      exact z_iret C hr hlocks G (Nat.le_of_ble_eq_true rfl) (Nat.le_of_ble_eq_true rfl) dX11_end_16 ⟨rfl, (by unfold zEnd; rw [if_neg (by omega)])⟩
set_option maxHeartbeats 4000000 in
set_option maxRecDepth 100000 in
/-- fault: on a new object -/
theorem c_x_fault (l : Launch) (T : zTy) (x : Nat) (t0 : Nat) (ia : Nat) (im : Nat) (rd : Nat) (po : Nat) (co : Nat) (tr : Nat) (wa : Nat) (wb : Nat) (fi : Nat) (cd : Nat) (a1p : Nat) (a2p : Nat) (a3p : Nat) (a4p : Nat) (a5p : Nat) (n : Int32) : zMi l T yX11_fault cX11_fault 2 (some .int) 3 0 0 [.ref x, .int n] [[(x, .inr (10, [.ref t0, .ref ia, .ref im, .ref rd, .ref po, .ref co, .ref tr, .ref wa, .ref wb, .ref fi, .ref cd]))], [(t0, .inr (8, [.ref a1p, .int 0, .int 0, .int (-1), .ref a2p, .ref a3p, .ref a4p, .ref a5p]))]] (fun (r : Int32) bs => bs = [] ∧ r = zFault n) := by
  refine zMi_of (own := RX11) (by decide) rfl (Nat.le_of_ble_eq_true rfl) ?_
  intro p e s m args below meth c A ls C hr hlocks hnm hAe G hl
  have hx := C.1
  have hb := C.2.1
  have hl : lv_has ls 2 [(0, .ref x), (1, .int n)] := hl
  refine lv_iload_n hx hb dX11_fault_0 rfl (lv_at hl 1 rfl) ?_
  refine lv_if_ne (tgt := 14) hx hb dX11_fault_1 (by decide) (fun c_1 => ?_) (fun c_1 => ?_)
  · have c_1n : ¬ n.toInt = (0 : Int) := fun q => c_1 ((fa_eq _ _).mpr q)
    refine lv_iload_n hx hb dX11_fault_14 rfl (lv_at hl 1 rfl) ?_
    refine lv_iconst (v := 1) hx hb dX11_fault_15 (by decide) ?_
    refine lv_icmp_ne (tgt := 29) hx hb dX11_fault_16 (by decide) (fun c_2 => ?_) (fun c_2 => ?_)
    · have c_2n : ¬ n.toInt = (1 : Int) := fun q => c_2 ((fa_eq _ _).mpr q)
      refine lv_iconst (v := (-1)) hx hb dX11_fault_29 (by decide) ?_
      have G := G.sub (bs' := []) [] rfl
      exact z_iret C hr hlocks G (Nat.le_of_ble_eq_true rfl) (Nat.le_of_ble_eq_true rfl) dX11_fault_30 ⟨rfl, (by unfold zFault; rw [if_neg (by omega)])⟩
    · have c_2n : n.toInt = (1 : Int) := (fa_eq _ _).mp c_2
      refine lv_aload_n hx hb dX11_fault_19 rfl (lv_at hl 0 rfl) ?_
      refine z_get C G clX11 0 rfl 0 (by decide) m_fl_RX11_10 rfl dX11_fault_20 ?_
      refine z_get C G clX9 1 rfl 3 (by decide) m_fl_RX11_88 rfl dX11_fault_23 ?_
      refine lv_goto (tgt := 30) hx hb dX11_fault_26 (by decide) ?_
      have G := G.sub (bs' := []) [] rfl
      exact z_iret C hr hlocks G (Nat.le_of_ble_eq_true rfl) (Nat.le_of_ble_eq_true rfl) dX11_fault_30 ⟨rfl, (by unfold zFault; rw [if_neg (by omega)])⟩
  · have c_1n : n.toInt = (0 : Int) := (fa_eq _ _).mp c_1
    refine lv_aload_n hx hb dX11_fault_4 rfl (lv_at hl 0 rfl) ?_
    refine z_get C G clX11 0 rfl 0 (by decide) m_fl_RX11_10 rfl dX11_fault_5 ?_
    refine z_get C G clX9 1 rfl 2 (by decide) m_fl_RX11_85 rfl dX11_fault_8 ?_
    refine lv_goto (tgt := 30) hx hb dX11_fault_11 (by decide) ?_
    have G := G.sub (bs' := []) [] rfl
    exact z_iret C hr hlocks G (Nat.le_of_ble_eq_true rfl) (Nat.le_of_ble_eq_true rfl) dX11_fault_30 ⟨rfl, (by unfold zFault; rw [if_pos (by omega)])⟩
set_option maxHeartbeats 4000000 in
set_option maxRecDepth 100000 in
/-- count: on a new object -/
theorem c_x_count (l : Launch) (T : zTy) (x : Nat) (t0 : Nat) (ia : Nat) (im : Nat) (rd : Nat) (po : Nat) (co : Nat) (tr : Nat) (wa : Nat) (wb : Nat) (fi : Nat) (cd : Nat) (a1p : Nat) (a2p : Nat) (a3p : Nat) (a4p : Nat) (a5p : Nat) (n : Int32) : zMi l T yX11_count cX11_count 2 (some .int) 3 0 0 [.ref x, .int n] [[(x, .inr (10, [.ref t0, .ref ia, .ref im, .ref rd, .ref po, .ref co, .ref tr, .ref wa, .ref wb, .ref fi, .ref cd]))], [(t0, .inr (8, [.ref a1p, .int 0, .int 0, .int (-1), .ref a2p, .ref a3p, .ref a4p, .ref a5p]))], [(a2p, .inl (T.2 0, 3, .inl (fun _ => 0)))]] (fun (r : Int32) bs => bs = [] ∧ r = zCount n) := by
  refine zMi_of (own := RX11) (by decide) rfl (Nat.le_of_ble_eq_true rfl) ?_
  intro p e s m args below meth c A ls C hr hlocks hnm hAe G hl
  have hx := C.1
  have hb := C.2.1
  have hl : lv_has ls 2 [(0, .ref x), (1, .int n)] := hl
  refine lv_iload_n hx hb dX11_count_0 rfl (lv_at hl 1 rfl) ?_
  refine lv_if_lt (tgt := 21) hx hb dX11_count_1 (by decide) (fun c_1 => ?_) (fun c_1 => ?_)
  · have c_1n : n.toInt < (0 : Int) := (fa_lt _ _).mp c_1
    refine lv_bipush (v := (-2)) hx hb dX11_count_21 (by decide) ?_
    have G := G.sub (bs' := []) [] rfl
    exact z_iret C hr hlocks G (Nat.le_of_ble_eq_true rfl) (Nat.le_of_ble_eq_true rfl) dX11_count_23 ⟨rfl, (by unfold zCount; rw [if_neg (by omega)])⟩
  · have c_1n : ¬ n.toInt < (0 : Int) := fun q => c_1 ((fa_lt _ _).mpr q)
    refine lv_iload_n hx hb dX11_count_4 rfl (lv_at hl 1 rfl) ?_
    refine lv_iconst (v := 2) hx hb dX11_count_5 (by decide) ?_
    refine lv_icmp_gt (tgt := 21) hx hb dX11_count_6 (by decide) (fun c_2 => ?_) (fun c_2 => ?_)
    · have c_2n : (2 : Int) < n.toInt := (fa_lt _ _).mp c_2
      refine lv_bipush (v := (-2)) hx hb dX11_count_21 (by decide) ?_
      have G := G.sub (bs' := []) [] rfl
      exact z_iret C hr hlocks G (Nat.le_of_ble_eq_true rfl) (Nat.le_of_ble_eq_true rfl) dX11_count_23 ⟨rfl, (by unfold zCount; rw [if_neg (by omega)])⟩
    · have c_2n : ¬ (2 : Int) < n.toInt := fun q => c_2 ((fa_lt _ _).mpr q)
      refine lv_aload_n hx hb dX11_count_9 rfl (lv_at hl 0 rfl) ?_
      refine z_get C G clX11 0 rfl 0 (by decide) m_fl_RX11_10 rfl dX11_count_10 ?_
      refine z_get C G clX9 1 rfl 4 (by decide) m_fl_RX11_114 rfl dX11_count_13 ?_
      refine lv_iload_n hx hb dX11_count_16 rfl (lv_at hl 1 rfl) ?_
      refine z_ild C G 2 rfl (vp_in_iff.mpr ⟨by omega, by omega⟩) dX11_count_17 ?_
      refine lv_topi (fun v_3 ev_3 => ?_)
      subst ev_3
      refine lv_goto (tgt := 23) hx hb dX11_count_18 (by decide) ?_
      have G := G.sub (bs' := []) [] rfl
      exact z_iret C hr hlocks G (Nat.le_of_ble_eq_true rfl) (Nat.le_of_ble_eq_true rfl) dX11_count_23 ⟨rfl, (by unfold zCount; rw [if_pos (by omega)])⟩
set_option maxHeartbeats 4000000 in
set_option maxRecDepth 100000 in
/-- image: on a new object -/
theorem c_x_image (l : Launch) (T : zTy) (x : Nat) (t0 : Nat) (ia : Nat) (im : Nat) (rd : Nat) (po : Nat) (co : Nat) (tr : Nat) (wa : Nat) (wb : Nat) (fi : Nat) (cd : Nat) (a1p : Nat) (a2p : Nat) (a3p : Nat) (a4p : Nat) (a5p : Nat) (f1p : Nat → Int32) (f3p : Nat → Option Nat) (f4p : Nat → Option Nat) (f5p : Nat → Option Nat) (l0p : Nat) (l1p : Nat) (d0p : Nat) (d1p : Nat) (g0p : Nat) (g1p : Nat) (w1p : va_W) (w2p : va_W) (w3p : va_W) (w4p : va_W) (w5p : va_W) (w6p : va_W) (fq : Nat → Option Nat) (i0 : Nat) (i1 : Nat) (i2 : Nat) (u0 : va_W) (u1 : va_W) (u2 : va_W) (n : Int32) (hw0p : bLand T l0p w1p) (hw1p : bLand T l1p w2p) (hw2p : bDay T d0p w3p) (hw3p : bDay T d1p w4p) (hw4p : bLog T g0p w5p) (hw5p : bLog T g1p w6p) (he0p : f3p 0 = some l0p) (he1p : f3p 1 = some l1p) (he2p : f4p 0 = some d0p) (he3p : f4p 1 = some d1p) (he4p : f5p 0 = some g0p) (he5p : f5p 1 = some g1p) (hi0 : fq 0 = some i0) (hi1 : fq 1 = some i1) (hi2 : fq 2 = some i2) (hu0 : bTold T i0 u0) (hu1 : bTold T i1 u1) (hu2 : bTold T i2 u2) : zMi l T yX11_image cX11_image 2 (some .boolean) 5 0 0 [.ref x, .int n] [[(x, .inr (10, [.ref t0, .ref ia, .ref im, .ref rd, .ref po, .ref co, .ref tr, .ref wa, .ref wb, .ref fi, .ref cd]))], [(t0, .inr (8, [.ref a1p, .int 0, .int 0, .int (-1), .ref a2p, .ref a3p, .ref a4p, .ref a5p]))], [(a1p, .inl (T.2 1, 600, .inl f1p))], [(a2p, .inl (T.2 0, 3, .inl (fun _ => 0)))], [(a3p, .inl (T.2 3, 2, .inr (.inr (.inr (.inr f3p)))))], [(a4p, .inl (T.2 4, 2, .inr (.inr (.inr (.inr f4p)))))], [(a5p, .inl (T.2 5, 2, .inr (.inr (.inr (.inr f5p)))))], w1p, w2p, w3p, w4p, w5p, w6p, [(ia, .inl (T.2 6, 3, .inr (.inr (.inr (.inr fq)))))], u0, u1, u2, [(im, .inl (T.2 2, 3, .inl (fun _ => 0)))]] (fun (r : Int32) bs => bs = [] ∧ r = zImage n) := by
  refine zMi_of (own := RX11) (by decide) rfl (Nat.le_of_ble_eq_true rfl) ?_
  intro p e s m args below meth c A ls C hr hlocks hnm hAe G hl
  have hx := C.1
  have hb := C.2.1
  have hl : lv_has ls 2 [(0, .ref x), (1, .int n)] := hl
  refine lv_iload_n hx hb dX11_image_0 rfl (lv_at hl 1 rfl) ?_
  refine lv_if_lt (tgt := 9) hx hb dX11_image_1 (by decide) (fun c_1 => ?_) (fun c_1 => ?_)
  · have c_1n : n.toInt < (0 : Int) := (fa_lt _ _).mp c_1
    refine lv_iconst (v := 0) hx hb dX11_image_9 (by decide) ?_
    have G := G.sub (bs' := []) [] rfl
    exact z_zret C hr hlocks G (Nat.le_of_ble_eq_true rfl) (Nat.le_of_ble_eq_true rfl) dX11_image_10 rfl ⟨rfl, (by unfold zImage; rw [if_neg (by omega)])⟩
  · have c_1n : ¬ n.toInt < (0 : Int) := fun q => c_1 ((fa_lt _ _).mpr q)
    refine lv_iload_n hx hb dX11_image_4 rfl (lv_at hl 1 rfl) ?_
    refine lv_iconst (v := 3) hx hb dX11_image_5 (by decide) ?_
    refine lv_icmp_lt (tgt := 11) hx hb dX11_image_6 (by decide) (fun c_2 => ?_) (fun c_2 => ?_)
    · have c_2n : n.toInt < (3 : Int) := (fa_lt _ _).mp c_2
      rcases z_three (so := n) (by omega) (by omega) with rfl | rfl | rfl
      · obtain ⟨a1_3, a2_4, a3_5, a4_6, a5_7, v0_8, v1_9, v2_10, f1_11, f2_12, f3_13, f4_14, f5_15, l0_16, l1_17, d0_18, d1_19, g0_20, g1_21, w1_22, w2_23, w3_24, w4_25, w5_26, w6_27, rfl, h_28, h_29, h_30, h_31, h_32, h_33, h_34, h_35, h_36, h_37, h_38, h_39⟩ := hu0
        have G : zS T A s.heap s [[(x, .inr (10, [.ref t0, .ref ia, .ref im, .ref rd, .ref po, .ref co, .ref tr, .ref wa, .ref wb, .ref fi, .ref cd]))], [(t0, .inr (8, [.ref a1p, .int 0, .int 0, .int (-1), .ref a2p, .ref a3p, .ref a4p, .ref a5p]))], [(a1p, .inl (T.2 1, 600, .inl f1p))], [(a2p, .inl (T.2 0, 3, .inl (fun _ => 0)))], [(a3p, .inl (T.2 3, 2, .inr (.inr (.inr (.inr f3p)))))], [(a4p, .inl (T.2 4, 2, .inr (.inr (.inr (.inr f4p)))))], [(a5p, .inl (T.2 5, 2, .inr (.inr (.inr (.inr f5p)))))], w1p, w2p, w3p, w4p, w5p, w6p, [(ia, .inl (T.2 6, 3, .inr (.inr (.inr (.inr fq)))))], [(i0, .inr (8, [.ref a1_3, .int v0_8, .int v1_9, .int v2_10, .ref a2_4, .ref a3_5, .ref a4_6, .ref a5_7]))], [(a1_3, .inl (T.2 1, 600, .inl f1_11))], [(a2_4, .inl (T.2 0, 3, .inl f2_12))], [(a3_5, .inl (T.2 3, 2, .inr (.inr (.inr (.inr f3_13)))))], [(a4_6, .inl (T.2 4, 2, .inr (.inr (.inr (.inr f4_14)))))], [(a5_7, .inl (T.2 5, 2, .inr (.inr (.inr (.inr f5_15)))))], w1_22, w2_23, w3_24, w4_25, w5_26, w6_27, u1, u2, [(im, .inl (T.2 2, 3, .inl (fun _ => 0)))]] _ _ := G.re (by simp only [List.flatten_cons, List.flatten_append, List.flatten_nil, List.append_assoc, List.cons_append, List.nil_append, List.append_nil])
        refine lv_aload_n hx hb dX11_image_11 rfl (lv_at hl 0 rfl) ?_
        refine z_get C G clX11 0 rfl 1 (by decide) m_fl_RX11_16 rfl dX11_image_12 ?_
        refine lv_iload_n hx hb dX11_image_15 rfl (lv_at hl 1 rfl) ?_
        refine z_ald C G 13 6 rfl rfl (vp_in_nI (n := 0) (by decide) (by decide)) dX11_image_16 ?_
        rw [show fq ((0 : Int32).toNatClampNeg) = some i0 from hi0]
        refine lv_aload_n hx hb dX11_image_17 rfl (lv_at hl 0 rfl) ?_
        refine z_get C G clX11 0 rfl 0 (by decide) m_fl_RX11_10 rfl dX11_image_18 ?_
        refine z_Vv (bc := [[(i0, .inr (8, [.ref a1_3, .int v0_8, .int v1_9, .int v2_10, .ref a2_4, .ref a3_5, .ref a4_6, .ref a5_7]))], [(a1_3, .inl (T.2 1, 600, .inl f1_11))], [(a2_4, .inl (T.2 0, 3, .inl f2_12))], [(a3_5, .inl (T.2 3, 2, .inr (.inr (.inr (.inr f3_13)))))], [(a4_6, .inl (T.2 4, 2, .inr (.inr (.inr (.inr f4_14)))))], [(a5_7, .inl (T.2 5, 2, .inr (.inr (.inr (.inr f5_15)))))], w1_22, w2_23, w3_24, w4_25, w5_26, w6_27, [(t0, .inr (8, [.ref a1p, .int 0, .int 0, .int (-1), .ref a2p, .ref a3p, .ref a4p, .ref a5p]))], [(a1p, .inl (T.2 1, 600, .inl f1p))], [(a2p, .inl (T.2 0, 3, .inl (fun _ => 0)))], [(a3p, .inl (T.2 3, 2, .inr (.inr (.inr (.inr f3p)))))], [(a4p, .inl (T.2 4, 2, .inr (.inr (.inr (.inr f4p)))))], [(a5p, .inl (T.2 5, 2, .inr (.inr (.inr (.inr f5p)))))], w1p, w2p, w3p, w4p, w5p, w6p]) (br := [[(x, .inr (10, [.ref t0, .ref ia, .ref im, .ref rd, .ref po, .ref co, .ref tr, .ref wa, .ref wb, .ref fi, .ref cd]))], [(ia, .inl (T.2 6, 3, .inr (.inr (.inr (.inr fq)))))], u1, u2, [(im, .inl (T.2 2, 3, .inl (fun _ => 0)))]]) (As := [.ref t0]) (rest := []) C G (c_Told_takeAll l T i0 t0 a1_3 a2_4 a3_5 a4_6 a5_7 v0_8 v1_9 v2_10 f1_11 f2_12 f3_13 f4_14 f5_15 l0_16 l1_17 d0_18 d1_19 g0_20 g1_21 w1_22 w2_23 w3_24 w4_25 w5_26 w6_27 a1p a2p a3p a4p a5p 0 0 (-1) f1p (fun _ => 0) f3p f4p f5p l0p l1p d0p d1p g0p g1p w1p w2p w3p w4p w5p w6p h_28 h_29 h_30 h_31 h_32 h_33 h_34 h_35 h_36 h_37 h_38 h_39 hw0p hw1p hw2p hw3p hw4p hw5p he0p he1p he2p he3p he4p he5p) (kV_RX11_117 C.2.2.2.2 (Nat.le_of_ble_eq_true rfl) (Nat.le_of_ble_eq_true rfl)) [14, 15, 16, 17, 18, 19, 20, 21, 22, 23, 24, 25, 1, 2, 3, 4, 5, 6, 7, 8, 9, 10, 11, 12] [0, 13, 26, 27, 28] rfl rfl (ci := 8) (qc := (RX9, TX9, 8)) rfl rfl (List.mem_flatten.mpr ⟨_, List.mem_of_getElem? (i := 0) rfl, List.mem_cons_self⟩) rfl rfl hl.1 dX11_image_21 (Nat.le_of_ble_eq_true rfl) (Nat.le_of_ble_eq_true rfl) (fun b1 H locs hw G => ?_)
        obtain rfl := hw
        have G : zS T A s.heap s [[(x, .inr (10, [.ref t0, .ref ia, .ref im, .ref rd, .ref po, .ref co, .ref tr, .ref wa, .ref wb, .ref fi, .ref cd]))], [(ia, .inl (T.2 6, 3, .inr (.inr (.inr (.inr fq)))))], u1, u2, [(im, .inl (T.2 2, 3, .inl (fun _ => 0)))]] _ _ := G
        refine lv_aload_n hx hb dX11_image_24 rfl (lv_at hl 0 rfl) ?_
        refine z_get C G clX11 0 rfl 2 (by decide) m_fl_RX11_20 rfl dX11_image_25 ?_
        refine lv_iload_n hx hb dX11_image_28 rfl (lv_at hl 1 rfl) ?_
        refine lv_iconst (v := 1) hx hb dX11_image_29 (by decide) ?_
        refine z_zst C G 4 rfl (vp_in_nI (n := 0) (by decide) (by decide)) dX11_image_30 (fun H locs G => ?_)
        have G : zS T A s.heap s [[(x, .inr (10, [.ref t0, .ref ia, .ref im, .ref rd, .ref po, .ref co, .ref tr, .ref wa, .ref wb, .ref fi, .ref cd]))], [(ia, .inl (T.2 6, 3, .inr (.inr (.inr (.inr fq)))))], u1, u2, [(im, .inl (T.2 2, 3, .inl (upd (fun _ => 0) 0 (vp_nar .boolean 1))))]] _ _ := G
        refine lv_iconst (v := 1) hx hb dX11_image_31 (by decide) ?_
        have G := G.sub (bs' := []) [] rfl
        exact z_zret C hr hlocks G (Nat.le_of_ble_eq_true rfl) (Nat.le_of_ble_eq_true rfl) dX11_image_32 rfl ⟨rfl, (by decide)⟩
      · obtain ⟨a1_41, a2_42, a3_43, a4_44, a5_45, v0_46, v1_47, v2_48, f1_49, f2_50, f3_51, f4_52, f5_53, l0_54, l1_55, d0_56, d1_57, g0_58, g1_59, w1_60, w2_61, w3_62, w4_63, w5_64, w6_65, rfl, h_66, h_67, h_68, h_69, h_70, h_71, h_72, h_73, h_74, h_75, h_76, h_77⟩ := hu1
        have G : zS T A s.heap s [[(x, .inr (10, [.ref t0, .ref ia, .ref im, .ref rd, .ref po, .ref co, .ref tr, .ref wa, .ref wb, .ref fi, .ref cd]))], [(t0, .inr (8, [.ref a1p, .int 0, .int 0, .int (-1), .ref a2p, .ref a3p, .ref a4p, .ref a5p]))], [(a1p, .inl (T.2 1, 600, .inl f1p))], [(a2p, .inl (T.2 0, 3, .inl (fun _ => 0)))], [(a3p, .inl (T.2 3, 2, .inr (.inr (.inr (.inr f3p)))))], [(a4p, .inl (T.2 4, 2, .inr (.inr (.inr (.inr f4p)))))], [(a5p, .inl (T.2 5, 2, .inr (.inr (.inr (.inr f5p)))))], w1p, w2p, w3p, w4p, w5p, w6p, [(ia, .inl (T.2 6, 3, .inr (.inr (.inr (.inr fq)))))], u0, [(i1, .inr (8, [.ref a1_41, .int v0_46, .int v1_47, .int v2_48, .ref a2_42, .ref a3_43, .ref a4_44, .ref a5_45]))], [(a1_41, .inl (T.2 1, 600, .inl f1_49))], [(a2_42, .inl (T.2 0, 3, .inl f2_50))], [(a3_43, .inl (T.2 3, 2, .inr (.inr (.inr (.inr f3_51)))))], [(a4_44, .inl (T.2 4, 2, .inr (.inr (.inr (.inr f4_52)))))], [(a5_45, .inl (T.2 5, 2, .inr (.inr (.inr (.inr f5_53)))))], w1_60, w2_61, w3_62, w4_63, w5_64, w6_65, u2, [(im, .inl (T.2 2, 3, .inl (fun _ => 0)))]] _ _ := G.re (by simp only [List.flatten_cons, List.flatten_append, List.flatten_nil, List.append_assoc, List.cons_append, List.nil_append, List.append_nil])
        refine lv_aload_n hx hb dX11_image_11 rfl (lv_at hl 0 rfl) ?_
        refine z_get C G clX11 0 rfl 1 (by decide) m_fl_RX11_16 rfl dX11_image_12 ?_
        refine lv_iload_n hx hb dX11_image_15 rfl (lv_at hl 1 rfl) ?_
        refine z_ald C G 13 6 rfl rfl (vp_in_nI (n := 1) (by decide) (by decide)) dX11_image_16 ?_
        rw [show fq ((1 : Int32).toNatClampNeg) = some i1 from hi1]
        refine lv_aload_n hx hb dX11_image_17 rfl (lv_at hl 0 rfl) ?_
        refine z_get C G clX11 0 rfl 0 (by decide) m_fl_RX11_10 rfl dX11_image_18 ?_
        refine z_Vv (bc := [[(i1, .inr (8, [.ref a1_41, .int v0_46, .int v1_47, .int v2_48, .ref a2_42, .ref a3_43, .ref a4_44, .ref a5_45]))], [(a1_41, .inl (T.2 1, 600, .inl f1_49))], [(a2_42, .inl (T.2 0, 3, .inl f2_50))], [(a3_43, .inl (T.2 3, 2, .inr (.inr (.inr (.inr f3_51)))))], [(a4_44, .inl (T.2 4, 2, .inr (.inr (.inr (.inr f4_52)))))], [(a5_45, .inl (T.2 5, 2, .inr (.inr (.inr (.inr f5_53)))))], w1_60, w2_61, w3_62, w4_63, w5_64, w6_65, [(t0, .inr (8, [.ref a1p, .int 0, .int 0, .int (-1), .ref a2p, .ref a3p, .ref a4p, .ref a5p]))], [(a1p, .inl (T.2 1, 600, .inl f1p))], [(a2p, .inl (T.2 0, 3, .inl (fun _ => 0)))], [(a3p, .inl (T.2 3, 2, .inr (.inr (.inr (.inr f3p)))))], [(a4p, .inl (T.2 4, 2, .inr (.inr (.inr (.inr f4p)))))], [(a5p, .inl (T.2 5, 2, .inr (.inr (.inr (.inr f5p)))))], w1p, w2p, w3p, w4p, w5p, w6p]) (br := [[(x, .inr (10, [.ref t0, .ref ia, .ref im, .ref rd, .ref po, .ref co, .ref tr, .ref wa, .ref wb, .ref fi, .ref cd]))], [(ia, .inl (T.2 6, 3, .inr (.inr (.inr (.inr fq)))))], u0, u2, [(im, .inl (T.2 2, 3, .inl (fun _ => 0)))]]) (As := [.ref t0]) (rest := []) C G (c_Told_takeAll l T i1 t0 a1_41 a2_42 a3_43 a4_44 a5_45 v0_46 v1_47 v2_48 f1_49 f2_50 f3_51 f4_52 f5_53 l0_54 l1_55 d0_56 d1_57 g0_58 g1_59 w1_60 w2_61 w3_62 w4_63 w5_64 w6_65 a1p a2p a3p a4p a5p 0 0 (-1) f1p (fun _ => 0) f3p f4p f5p l0p l1p d0p d1p g0p g1p w1p w2p w3p w4p w5p w6p h_66 h_67 h_68 h_69 h_70 h_71 h_72 h_73 h_74 h_75 h_76 h_77 hw0p hw1p hw2p hw3p hw4p hw5p he0p he1p he2p he3p he4p he5p) (kV_RX11_117 C.2.2.2.2 (Nat.le_of_ble_eq_true rfl) (Nat.le_of_ble_eq_true rfl)) [15, 16, 17, 18, 19, 20, 21, 22, 23, 24, 25, 26, 1, 2, 3, 4, 5, 6, 7, 8, 9, 10, 11, 12] [0, 13, 14, 27, 28] rfl rfl (ci := 8) (qc := (RX9, TX9, 8)) rfl rfl (List.mem_flatten.mpr ⟨_, List.mem_of_getElem? (i := 0) rfl, List.mem_cons_self⟩) rfl rfl hl.1 dX11_image_21 (Nat.le_of_ble_eq_true rfl) (Nat.le_of_ble_eq_true rfl) (fun b1 H locs hw G => ?_)
        obtain rfl := hw
        have G : zS T A s.heap s [[(x, .inr (10, [.ref t0, .ref ia, .ref im, .ref rd, .ref po, .ref co, .ref tr, .ref wa, .ref wb, .ref fi, .ref cd]))], [(ia, .inl (T.2 6, 3, .inr (.inr (.inr (.inr fq)))))], u0, u2, [(im, .inl (T.2 2, 3, .inl (fun _ => 0)))]] _ _ := G
        refine lv_aload_n hx hb dX11_image_24 rfl (lv_at hl 0 rfl) ?_
        refine z_get C G clX11 0 rfl 2 (by decide) m_fl_RX11_20 rfl dX11_image_25 ?_
        refine lv_iload_n hx hb dX11_image_28 rfl (lv_at hl 1 rfl) ?_
        refine lv_iconst (v := 1) hx hb dX11_image_29 (by decide) ?_
        refine z_zst C G 4 rfl (vp_in_nI (n := 1) (by decide) (by decide)) dX11_image_30 (fun H locs G => ?_)
        have G : zS T A s.heap s [[(x, .inr (10, [.ref t0, .ref ia, .ref im, .ref rd, .ref po, .ref co, .ref tr, .ref wa, .ref wb, .ref fi, .ref cd]))], [(ia, .inl (T.2 6, 3, .inr (.inr (.inr (.inr fq)))))], u0, u2, [(im, .inl (T.2 2, 3, .inl (upd (fun _ => 0) 1 (vp_nar .boolean 1))))]] _ _ := G
        refine lv_iconst (v := 1) hx hb dX11_image_31 (by decide) ?_
        have G := G.sub (bs' := []) [] rfl
        exact z_zret C hr hlocks G (Nat.le_of_ble_eq_true rfl) (Nat.le_of_ble_eq_true rfl) dX11_image_32 rfl ⟨rfl, (by decide)⟩
      · obtain ⟨a1_79, a2_80, a3_81, a4_82, a5_83, v0_84, v1_85, v2_86, f1_87, f2_88, f3_89, f4_90, f5_91, l0_92, l1_93, d0_94, d1_95, g0_96, g1_97, w1_98, w2_99, w3_100, w4_101, w5_102, w6_103, rfl, h_104, h_105, h_106, h_107, h_108, h_109, h_110, h_111, h_112, h_113, h_114, h_115⟩ := hu2
        have G : zS T A s.heap s [[(x, .inr (10, [.ref t0, .ref ia, .ref im, .ref rd, .ref po, .ref co, .ref tr, .ref wa, .ref wb, .ref fi, .ref cd]))], [(t0, .inr (8, [.ref a1p, .int 0, .int 0, .int (-1), .ref a2p, .ref a3p, .ref a4p, .ref a5p]))], [(a1p, .inl (T.2 1, 600, .inl f1p))], [(a2p, .inl (T.2 0, 3, .inl (fun _ => 0)))], [(a3p, .inl (T.2 3, 2, .inr (.inr (.inr (.inr f3p)))))], [(a4p, .inl (T.2 4, 2, .inr (.inr (.inr (.inr f4p)))))], [(a5p, .inl (T.2 5, 2, .inr (.inr (.inr (.inr f5p)))))], w1p, w2p, w3p, w4p, w5p, w6p, [(ia, .inl (T.2 6, 3, .inr (.inr (.inr (.inr fq)))))], u0, u1, [(i2, .inr (8, [.ref a1_79, .int v0_84, .int v1_85, .int v2_86, .ref a2_80, .ref a3_81, .ref a4_82, .ref a5_83]))], [(a1_79, .inl (T.2 1, 600, .inl f1_87))], [(a2_80, .inl (T.2 0, 3, .inl f2_88))], [(a3_81, .inl (T.2 3, 2, .inr (.inr (.inr (.inr f3_89)))))], [(a4_82, .inl (T.2 4, 2, .inr (.inr (.inr (.inr f4_90)))))], [(a5_83, .inl (T.2 5, 2, .inr (.inr (.inr (.inr f5_91)))))], w1_98, w2_99, w3_100, w4_101, w5_102, w6_103, [(im, .inl (T.2 2, 3, .inl (fun _ => 0)))]] _ _ := G.re (by simp only [List.flatten_cons, List.flatten_append, List.flatten_nil, List.append_assoc, List.cons_append, List.nil_append, List.append_nil])
        refine lv_aload_n hx hb dX11_image_11 rfl (lv_at hl 0 rfl) ?_
        refine z_get C G clX11 0 rfl 1 (by decide) m_fl_RX11_16 rfl dX11_image_12 ?_
        refine lv_iload_n hx hb dX11_image_15 rfl (lv_at hl 1 rfl) ?_
        refine z_ald C G 13 6 rfl rfl (vp_in_nI (n := 2) (by decide) (by decide)) dX11_image_16 ?_
        rw [show fq ((2 : Int32).toNatClampNeg) = some i2 from hi2]
        refine lv_aload_n hx hb dX11_image_17 rfl (lv_at hl 0 rfl) ?_
        refine z_get C G clX11 0 rfl 0 (by decide) m_fl_RX11_10 rfl dX11_image_18 ?_
        refine z_Vv (bc := [[(i2, .inr (8, [.ref a1_79, .int v0_84, .int v1_85, .int v2_86, .ref a2_80, .ref a3_81, .ref a4_82, .ref a5_83]))], [(a1_79, .inl (T.2 1, 600, .inl f1_87))], [(a2_80, .inl (T.2 0, 3, .inl f2_88))], [(a3_81, .inl (T.2 3, 2, .inr (.inr (.inr (.inr f3_89)))))], [(a4_82, .inl (T.2 4, 2, .inr (.inr (.inr (.inr f4_90)))))], [(a5_83, .inl (T.2 5, 2, .inr (.inr (.inr (.inr f5_91)))))], w1_98, w2_99, w3_100, w4_101, w5_102, w6_103, [(t0, .inr (8, [.ref a1p, .int 0, .int 0, .int (-1), .ref a2p, .ref a3p, .ref a4p, .ref a5p]))], [(a1p, .inl (T.2 1, 600, .inl f1p))], [(a2p, .inl (T.2 0, 3, .inl (fun _ => 0)))], [(a3p, .inl (T.2 3, 2, .inr (.inr (.inr (.inr f3p)))))], [(a4p, .inl (T.2 4, 2, .inr (.inr (.inr (.inr f4p)))))], [(a5p, .inl (T.2 5, 2, .inr (.inr (.inr (.inr f5p)))))], w1p, w2p, w3p, w4p, w5p, w6p]) (br := [[(x, .inr (10, [.ref t0, .ref ia, .ref im, .ref rd, .ref po, .ref co, .ref tr, .ref wa, .ref wb, .ref fi, .ref cd]))], [(ia, .inl (T.2 6, 3, .inr (.inr (.inr (.inr fq)))))], u0, u1, [(im, .inl (T.2 2, 3, .inl (fun _ => 0)))]]) (As := [.ref t0]) (rest := []) C G (c_Told_takeAll l T i2 t0 a1_79 a2_80 a3_81 a4_82 a5_83 v0_84 v1_85 v2_86 f1_87 f2_88 f3_89 f4_90 f5_91 l0_92 l1_93 d0_94 d1_95 g0_96 g1_97 w1_98 w2_99 w3_100 w4_101 w5_102 w6_103 a1p a2p a3p a4p a5p 0 0 (-1) f1p (fun _ => 0) f3p f4p f5p l0p l1p d0p d1p g0p g1p w1p w2p w3p w4p w5p w6p h_104 h_105 h_106 h_107 h_108 h_109 h_110 h_111 h_112 h_113 h_114 h_115 hw0p hw1p hw2p hw3p hw4p hw5p he0p he1p he2p he3p he4p he5p) (kV_RX11_117 C.2.2.2.2 (Nat.le_of_ble_eq_true rfl) (Nat.le_of_ble_eq_true rfl)) [16, 17, 18, 19, 20, 21, 22, 23, 24, 25, 26, 27, 1, 2, 3, 4, 5, 6, 7, 8, 9, 10, 11, 12] [0, 13, 14, 15, 28] rfl rfl (ci := 8) (qc := (RX9, TX9, 8)) rfl rfl (List.mem_flatten.mpr ⟨_, List.mem_of_getElem? (i := 0) rfl, List.mem_cons_self⟩) rfl rfl hl.1 dX11_image_21 (Nat.le_of_ble_eq_true rfl) (Nat.le_of_ble_eq_true rfl) (fun b1 H locs hw G => ?_)
        obtain rfl := hw
        have G : zS T A s.heap s [[(x, .inr (10, [.ref t0, .ref ia, .ref im, .ref rd, .ref po, .ref co, .ref tr, .ref wa, .ref wb, .ref fi, .ref cd]))], [(ia, .inl (T.2 6, 3, .inr (.inr (.inr (.inr fq)))))], u0, u1, [(im, .inl (T.2 2, 3, .inl (fun _ => 0)))]] _ _ := G
        refine lv_aload_n hx hb dX11_image_24 rfl (lv_at hl 0 rfl) ?_
        refine z_get C G clX11 0 rfl 2 (by decide) m_fl_RX11_20 rfl dX11_image_25 ?_
        refine lv_iload_n hx hb dX11_image_28 rfl (lv_at hl 1 rfl) ?_
        refine lv_iconst (v := 1) hx hb dX11_image_29 (by decide) ?_
        refine z_zst C G 4 rfl (vp_in_nI (n := 2) (by decide) (by decide)) dX11_image_30 (fun H locs G => ?_)
        have G : zS T A s.heap s [[(x, .inr (10, [.ref t0, .ref ia, .ref im, .ref rd, .ref po, .ref co, .ref tr, .ref wa, .ref wb, .ref fi, .ref cd]))], [(ia, .inl (T.2 6, 3, .inr (.inr (.inr (.inr fq)))))], u0, u1, [(im, .inl (T.2 2, 3, .inl (upd (fun _ => 0) 2 (vp_nar .boolean 1))))]] _ _ := G
        refine lv_iconst (v := 1) hx hb dX11_image_31 (by decide) ?_
        have G := G.sub (bs' := []) [] rfl
        exact z_zret C hr hlocks G (Nat.le_of_ble_eq_true rfl) (Nat.le_of_ble_eq_true rfl) dX11_image_32 rfl ⟨rfl, (by decide)⟩
    · have c_2n : ¬ n.toInt < (3 : Int) := fun q => c_2 ((fa_lt _ _).mpr q)
      refine lv_iconst (v := 0) hx hb dX11_image_9 (by decide) ?_
      have G := G.sub (bs' := []) [] rfl
      exact z_zret C hr hlocks G (Nat.le_of_ble_eq_true rfl) (Nat.le_of_ble_eq_true rfl) dX11_image_10 rfl ⟨rfl, (by unfold zImage; rw [if_neg (by omega)])⟩
set_option maxHeartbeats 4000000 in
set_option maxRecDepth 100000 in
/-- again: on a new object -/
theorem c_x_again (l : Launch) (T : zTy) (x : Nat) (t0 : Nat) (ia : Nat) (im : Nat) (rd : Nat) (po : Nat) (co : Nat) (tr : Nat) (wa : Nat) (wb : Nat) (fi : Nat) (cd : Nat) (n : Int32) : zMi l T yX11_again cX11_again 2 (some .boolean) 5 0 0 [.ref x, .int n] [[(x, .inr (10, [.ref t0, .ref ia, .ref im, .ref rd, .ref po, .ref co, .ref tr, .ref wa, .ref wb, .ref fi, .ref cd]))], [(im, .inl (T.2 2, 3, .inl (fun _ => 0)))]] (fun (r : Int32) bs => bs = [] ∧ r = 0) := by
  refine zMi_of (own := RX11) (by decide) rfl (Nat.le_of_ble_eq_true rfl) ?_
  intro p e s m args below meth c A ls C hr hlocks hnm hAe G hl
  have hx := C.1
  have hb := C.2.1
  have hl : lv_has ls 2 [(0, .ref x), (1, .int n)] := hl
  refine lv_iload_n hx hb dX11_again_0 rfl (lv_at hl 1 rfl) ?_
  refine lv_if_lt (tgt := 18) hx hb dX11_again_1 (by decide) (fun c_1 => ?_) (fun c_1 => ?_)
  · have c_1n : n.toInt < (0 : Int) := (fa_lt _ _).mp c_1
    refine lv_iconst (v := 0) hx hb dX11_again_18 (by decide) ?_
    have G := G.sub (bs' := []) [] rfl
    exact z_zret C hr hlocks G (Nat.le_of_ble_eq_true rfl) (Nat.le_of_ble_eq_true rfl) dX11_again_19 rfl ⟨rfl, rfl⟩
  · have c_1n : ¬ n.toInt < (0 : Int) := fun q => c_1 ((fa_lt _ _).mpr q)
    refine lv_iload_n hx hb dX11_again_4 rfl (lv_at hl 1 rfl) ?_
    refine lv_iconst (v := 3) hx hb dX11_again_5 (by decide) ?_
    refine lv_icmp_ge (tgt := 18) hx hb dX11_again_6 (by decide) (fun c_2 => ?_) (fun c_2 => ?_)
    · have c_2n : (3 : Int) ≤ n.toInt := (fa_le _ _).mp c_2
      refine lv_iconst (v := 0) hx hb dX11_again_18 (by decide) ?_
      have G := G.sub (bs' := []) [] rfl
      exact z_zret C hr hlocks G (Nat.le_of_ble_eq_true rfl) (Nat.le_of_ble_eq_true rfl) dX11_again_19 rfl ⟨rfl, rfl⟩
    · have c_2n : ¬ (3 : Int) ≤ n.toInt := fun q => c_2 ((fa_le _ _).mpr q)
      refine lv_aload_n hx hb dX11_again_9 rfl (lv_at hl 0 rfl) ?_
      refine z_get C G clX11 0 rfl 2 (by decide) m_fl_RX11_20 rfl dX11_again_10 ?_
      refine lv_iload_n hx hb dX11_again_13 rfl (lv_at hl 1 rfl) ?_
      refine z_zld C G 1 rfl (vp_in_iff.mpr ⟨by omega, by omega⟩) dX11_again_14 ?_
      refine lv_topi (fun v_3 ev_3 => ?_)
      subst ev_3
      refine lv_if_ne (tgt := 20) hx hb dX11_again_15 (by decide) (fun q => absurd (by decide) q) (fun _ => ?_)
      refine lv_iconst (v := 0) hx hb dX11_again_18 (by decide) ?_
      have G := G.sub (bs' := []) [] rfl
      exact z_zret C hr hlocks G (Nat.le_of_ble_eq_true rfl) (Nat.le_of_ble_eq_true rfl) dX11_again_19 rfl ⟨rfl, rfl⟩
set_option maxHeartbeats 4000000 in
set_option maxRecDepth 100000 in
/-- fit: false -/
theorem c_x_fit (l : Launch) (T : zTy) (x : Nat) (t0 : Nat) (ia : Nat) (im : Nat) (rd : Nat) (po : Nat) (co : Nat) (tr : Nat) (wa : Nat) (wb : Nat) (fi : Nat) (cd : Nat) (a1p : Nat) (a2p : Nat) (a3p : Nat) (a4p : Nat) (a5p : Nat) (p1 : Int32) (p2 : Int32) : zMi l T yX11_fit cX11_fit 5 (some .boolean) 4 0 0 [.ref x, .int p1, .int p2] [[(x, .inr (10, [.ref t0, .ref ia, .ref im, .ref rd, .ref po, .ref co, .ref tr, .ref wa, .ref wb, .ref fi, .ref cd]))], [(t0, .inr (8, [.ref a1p, .int 0, .int 0, .int (-1), .ref a2p, .ref a3p, .ref a4p, .ref a5p]))], [(a2p, .inl (T.2 0, 3, .inl (fun _ => 0)))]] (fun (r : Int32) bs => bs = [[(x, .inr (10, [.ref t0, .ref ia, .ref im, .ref rd, .ref po, .ref co, .ref tr, .ref wa, .ref wb, .ref fi, .ref cd]))], [(t0, .inr (8, [.ref a1p, .int 0, .int 0, .int (-1), .ref a2p, .ref a3p, .ref a4p, .ref a5p]))], [(a2p, .inl (T.2 0, 3, .inl (fun _ => 0)))]] ∧ r = 0) := by
  refine zMi_of (own := RX11) (by decide) rfl (Nat.le_of_ble_eq_true rfl) ?_
  intro p e s m args below meth c A ls C hr hlocks hnm hAe G hl
  have hx := C.1
  have hb := C.2.1
  have hl : lv_has ls 5 [(0, .ref x), (1, .int p1), (2, .int p2)] := hl
  refine lv_aload_n hx hb dX11_fit_0 rfl (lv_at hl 0 rfl) ?_
  refine z_get C G clX11 0 rfl 0 (by decide) m_fl_RX11_10 rfl dX11_fit_1 ?_
  refine lv_iload_n hx hb dX11_fit_4 rfl (lv_at hl 1 rfl) ?_
  refine z_Vq (bc := [[(t0, .inr (8, [.ref a1p, .int 0, .int 0, .int (-1), .ref a2p, .ref a3p, .ref a4p, .ref a5p]))], [(a2p, .inl (T.2 0, 3, .inl (fun _ => 0)))]]) (br := [[(x, .inr (10, [.ref t0, .ref ia, .ref im, .ref rd, .ref po, .ref co, .ref tr, .ref wa, .ref wb, .ref fi, .ref cd]))]]) (As := [.int p1]) (rest := []) C G (c_landAt0 l T t0 a1p a2p a3p a4p a5p 0 0 (-1) p1) (kV_RX11_121 C.2.2.2.2 (Nat.le_of_ble_eq_true rfl) (Nat.le_of_ble_eq_true rfl)) [1, 2] [0] rfl rfl (ci := 8) (qc := (RX9, TX9, 8)) rfl rfl (List.mem_flatten.mpr ⟨_, List.mem_of_getElem? (i := 0) rfl, List.mem_cons_self⟩) rfl rfl hl.1 dX11_fit_5 (Nat.le_of_ble_eq_true rfl) (Nat.le_of_ble_eq_true rfl) (fun r_2 b1 H locs hw G => ?_)
  obtain ⟨rfl, h_1⟩ := hw
  have G : zS T A s.heap s [[(x, .inr (10, [.ref t0, .ref ia, .ref im, .ref rd, .ref po, .ref co, .ref tr, .ref wa, .ref wb, .ref fi, .ref cd]))], [(t0, .inr (8, [.ref a1p, .int 0, .int 0, .int (-1), .ref a2p, .ref a3p, .ref a4p, .ref a5p]))], [(a2p, .inl (T.2 0, 3, .inl (fun _ => 0)))]] _ _ := G
  subst h_1
  refine lv_astore_nN (lv' := [(3, .null), (0, .ref x), (1, .int p1), (2, .int p2)]) hx hb dX11_fit_8 rfl hl (by decide) rfl (fun ls hl => ?_)
  refine lv_aload_n hx hb dX11_fit_9 rfl (lv_at hl 1 rfl) ?_
  refine z_get C G clX11 0 rfl 0 (by decide) m_fl_RX11_10 rfl dX11_fit_10 ?_
  refine lv_iload_n hx hb dX11_fit_13 rfl (lv_at hl 3 rfl) ?_
  refine z_Vq (bc := [[(t0, .inr (8, [.ref a1p, .int 0, .int 0, .int (-1), .ref a2p, .ref a3p, .ref a4p, .ref a5p]))], [(a2p, .inl (T.2 0, 3, .inl (fun _ => 0)))]]) (br := [[(x, .inr (10, [.ref t0, .ref ia, .ref im, .ref rd, .ref po, .ref co, .ref tr, .ref wa, .ref wb, .ref fi, .ref cd]))]]) (As := [.int p2]) (rest := []) C G (c_logAt0 l T t0 a1p a2p a3p a4p a5p 0 0 (-1) p2) (kV_RX11_138 C.2.2.2.2 (Nat.le_of_ble_eq_true rfl) (Nat.le_of_ble_eq_true rfl)) [1, 2] [0] rfl rfl (ci := 8) (qc := (RX9, TX9, 8)) rfl rfl (List.mem_flatten.mpr ⟨_, List.mem_of_getElem? (i := 0) rfl, List.mem_cons_self⟩) rfl rfl hl.1 dX11_fit_14 (Nat.le_of_ble_eq_true rfl) (Nat.le_of_ble_eq_true rfl) (fun r_4 b1 H locs hw G => ?_)
  obtain ⟨rfl, h_3⟩ := hw
  have G : zS T A s.heap s [[(x, .inr (10, [.ref t0, .ref ia, .ref im, .ref rd, .ref po, .ref co, .ref tr, .ref wa, .ref wb, .ref fi, .ref cd]))], [(t0, .inr (8, [.ref a1p, .int 0, .int 0, .int (-1), .ref a2p, .ref a3p, .ref a4p, .ref a5p]))], [(a2p, .inl (T.2 0, 3, .inl (fun _ => 0)))]] _ _ := G
  subst h_3
  refine lv_astoreN (lv' := [(4, .null), (3, .null), (0, .ref x), (1, .int p1), (2, .int p2)]) hx hb dX11_fit_17 hl (by decide) rfl (fun ls hl => ?_)
  refine lv_aload_nN hx hb dX11_fit_19 rfl (lv_at hl 1 rfl) ?_
  refine lv_ifnullN (tgt := 28) hx hb dX11_fit_20 (by decide) ?_
  refine lv_iconst (v := 0) hx hb dX11_fit_28 (by decide) ?_
  exact z_zret C hr hlocks G (Nat.le_of_ble_eq_true rfl) (Nat.le_of_ble_eq_true rfl) dX11_fit_29 rfl ⟨rfl, rfl⟩
set_option maxHeartbeats 4000000 in
set_option maxRecDepth 100000 in
/-- land: on a new object -/
theorem c_x_land (l : Launch) (T : zTy) (x : Nat) (t0 : Nat) (ia : Nat) (im : Nat) (rd : Nat) (po : Nat) (co : Nat) (tr : Nat) (wa : Nat) (wb : Nat) (fi : Nat) (cd : Nat) (a1p : Nat) (a2p : Nat) (a3p : Nat) (a4p : Nat) (a5p : Nat) (p1 : Int32) (p2 : Int32) : zMi l T yX11_land cX11_land 4 (some .int) 5 0 0 [.ref x, .int p1, .int p2] [[(x, .inr (10, [.ref t0, .ref ia, .ref im, .ref rd, .ref po, .ref co, .ref tr, .ref wa, .ref wb, .ref fi, .ref cd]))], [(t0, .inr (8, [.ref a1p, .int 0, .int 0, .int (-1), .ref a2p, .ref a3p, .ref a4p, .ref a5p]))], [(a2p, .inl (T.2 0, 3, .inl (fun _ => 0)))]] (fun (r : Int32) bs => bs = [] ∧ r = (-1)) := by
  refine zMi_of (own := RX11) (by decide) rfl (Nat.le_of_ble_eq_true rfl) ?_
  intro p e s m args below meth c A ls C hr hlocks hnm hAe G hl
  have hx := C.1
  have hb := C.2.1
  have hl : lv_has ls 4 [(0, .ref x), (1, .int p1), (2, .int p2)] := hl
  refine lv_aload_n hx hb dX11_land_0 rfl (lv_at hl 0 rfl) ?_
  refine z_get C G clX11 0 rfl 0 (by decide) m_fl_RX11_10 rfl dX11_land_1 ?_
  refine lv_iload_n hx hb dX11_land_4 rfl (lv_at hl 1 rfl) ?_
  refine z_Vq (bc := [[(t0, .inr (8, [.ref a1p, .int 0, .int 0, .int (-1), .ref a2p, .ref a3p, .ref a4p, .ref a5p]))], [(a2p, .inl (T.2 0, 3, .inl (fun _ => 0)))]]) (br := [[(x, .inr (10, [.ref t0, .ref ia, .ref im, .ref rd, .ref po, .ref co, .ref tr, .ref wa, .ref wb, .ref fi, .ref cd]))]]) (As := [.int p1]) (rest := []) C G (c_landAt0 l T t0 a1p a2p a3p a4p a5p 0 0 (-1) p1) (kV_RX11_121 C.2.2.2.2 (Nat.le_of_ble_eq_true rfl) (Nat.le_of_ble_eq_true rfl)) [1, 2] [0] rfl rfl (ci := 8) (qc := (RX9, TX9, 8)) rfl rfl (List.mem_flatten.mpr ⟨_, List.mem_of_getElem? (i := 0) rfl, List.mem_cons_self⟩) rfl rfl hl.1 dX11_land_5 (Nat.le_of_ble_eq_true rfl) (Nat.le_of_ble_eq_true rfl) (fun r_2 b1 H locs hw G => ?_)
  obtain ⟨rfl, h_1⟩ := hw
  have G : zS T A s.heap s [[(x, .inr (10, [.ref t0, .ref ia, .ref im, .ref rd, .ref po, .ref co, .ref tr, .ref wa, .ref wb, .ref fi, .ref cd]))], [(t0, .inr (8, [.ref a1p, .int 0, .int 0, .int (-1), .ref a2p, .ref a3p, .ref a4p, .ref a5p]))], [(a2p, .inl (T.2 0, 3, .inl (fun _ => 0)))]] _ _ := G
  subst h_1
  refine lv_astore_nN (lv' := [(3, .null), (0, .ref x), (1, .int p1), (2, .int p2)]) hx hb dX11_land_8 rfl hl (by decide) rfl (fun ls hl => ?_)
  refine lv_aload_nN hx hb dX11_land_9 rfl (lv_at hl 0 rfl) ?_
  refine lv_ifnonnullN hx hb dX11_land_10 ?_
  refine lv_iconst (v := (-1)) hx hb dX11_land_13 (by decide) ?_
  refine lv_goto (tgt := 22) hx hb dX11_land_14 (by decide) ?_
  have G := G.sub (bs' := []) [] rfl
  exact z_iret C hr hlocks G (Nat.le_of_ble_eq_true rfl) (Nat.le_of_ble_eq_true rfl) dX11_land_22 ⟨rfl, rfl⟩
set_option maxHeartbeats 4000000 in
set_option maxRecDepth 100000 in
/-- deed: on a new object -/
theorem c_x_deed (l : Launch) (T : zTy) (x : Nat) (t0 : Nat) (ia : Nat) (im : Nat) (rd : Nat) (po : Nat) (co : Nat) (tr : Nat) (wa : Nat) (wb : Nat) (fi : Nat) (cd : Nat) (a1p : Nat) (a2p : Nat) (a3p : Nat) (a4p : Nat) (a5p : Nat) (p1 : Int32) (p2 : Int32) (p3 : Int32) : zMi l T yX11_deed cX11_deed 5 (some .int) 5 0 0 [.ref x, .int p1, .int p2, .int p3] [[(x, .inr (10, [.ref t0, .ref ia, .ref im, .ref rd, .ref po, .ref co, .ref tr, .ref wa, .ref wb, .ref fi, .ref cd]))], [(t0, .inr (8, [.ref a1p, .int 0, .int 0, .int (-1), .ref a2p, .ref a3p, .ref a4p, .ref a5p]))], [(a2p, .inl (T.2 0, 3, .inl (fun _ => 0)))]] (fun (r : Int32) bs => bs = [] ∧ r = (-2)) := by
  refine zMi_of (own := RX11) (by decide) rfl (Nat.le_of_ble_eq_true rfl) ?_
  intro p e s m args below meth c A ls C hr hlocks hnm hAe G hl
  have hx := C.1
  have hb := C.2.1
  have hl : lv_has ls 5 [(0, .ref x), (1, .int p1), (2, .int p2), (3, .int p3)] := hl
  refine lv_aload_n hx hb dX11_deed_0 rfl (lv_at hl 0 rfl) ?_
  refine z_get C G clX11 0 rfl 0 (by decide) m_fl_RX11_10 rfl dX11_deed_1 ?_
  refine lv_iload_n hx hb dX11_deed_4 rfl (lv_at hl 1 rfl) ?_
  refine z_Vq (bc := [[(t0, .inr (8, [.ref a1p, .int 0, .int 0, .int (-1), .ref a2p, .ref a3p, .ref a4p, .ref a5p]))], [(a2p, .inl (T.2 0, 3, .inl (fun _ => 0)))]]) (br := [[(x, .inr (10, [.ref t0, .ref ia, .ref im, .ref rd, .ref po, .ref co, .ref tr, .ref wa, .ref wb, .ref fi, .ref cd]))]]) (As := [.int p1]) (rest := []) C G (c_dayAt0 l T t0 a1p a2p a3p a4p a5p 0 0 (-1) p1) (kV_RX11_130 C.2.2.2.2 (Nat.le_of_ble_eq_true rfl) (Nat.le_of_ble_eq_true rfl)) [1, 2] [0] rfl rfl (ci := 8) (qc := (RX9, TX9, 8)) rfl rfl (List.mem_flatten.mpr ⟨_, List.mem_of_getElem? (i := 0) rfl, List.mem_cons_self⟩) rfl rfl hl.1 dX11_deed_5 (Nat.le_of_ble_eq_true rfl) (Nat.le_of_ble_eq_true rfl) (fun r_2 b1 H locs hw G => ?_)
  obtain ⟨rfl, h_1⟩ := hw
  have G : zS T A s.heap s [[(x, .inr (10, [.ref t0, .ref ia, .ref im, .ref rd, .ref po, .ref co, .ref tr, .ref wa, .ref wb, .ref fi, .ref cd]))], [(t0, .inr (8, [.ref a1p, .int 0, .int 0, .int (-1), .ref a2p, .ref a3p, .ref a4p, .ref a5p]))], [(a2p, .inl (T.2 0, 3, .inl (fun _ => 0)))]] _ _ := G
  subst h_1
  refine lv_astoreN (lv' := [(4, .null), (0, .ref x), (1, .int p1), (2, .int p2), (3, .int p3)]) hx hb dX11_deed_8 hl (by decide) rfl (fun ls hl => ?_)
  refine lv_aloadN hx hb dX11_deed_10 (lv_at hl 0 rfl) ?_
  refine lv_ifnonnullN hx hb dX11_deed_12 ?_
  refine lv_bipush (v := (-2)) hx hb dX11_deed_15 (by decide) ?_
  refine lv_goto (tgt := 27) hx hb dX11_deed_17 (by decide) ?_
  have G := G.sub (bs' := []) [] rfl
  exact z_iret C hr hlocks G (Nat.le_of_ble_eq_true rfl) (Nat.le_of_ble_eq_true rfl) dX11_deed_27 ⟨rfl, rfl⟩
set_option maxHeartbeats 4000000 in
set_option maxRecDepth 100000 in
/-- stop: on a new object -/
theorem c_x_stop (l : Launch) (T : zTy) (x : Nat) (t0 : Nat) (ia : Nat) (im : Nat) (rd : Nat) (po : Nat) (co : Nat) (tr : Nat) (wa : Nat) (wb : Nat) (fi : Nat) (cd : Nat) (a1p : Nat) (a2p : Nat) (a3p : Nat) (a4p : Nat) (a5p : Nat) (p1 : Int32) (p2 : Int32) : zMi l T yX11_stop cX11_stop 5 (some .int) 5 0 0 [.ref x, .int p1, .int p2] [[(x, .inr (10, [.ref t0, .ref ia, .ref im, .ref rd, .ref po, .ref co, .ref tr, .ref wa, .ref wb, .ref fi, .ref cd]))], [(t0, .inr (8, [.ref a1p, .int 0, .int 0, .int (-1), .ref a2p, .ref a3p, .ref a4p, .ref a5p]))], [(a2p, .inl (T.2 0, 3, .inl (fun _ => 0)))]] (fun (r : Int32) bs => bs = [] ∧ r = (-1)) := by
  refine zMi_of (own := RX11) (by decide) rfl (Nat.le_of_ble_eq_true rfl) ?_
  intro p e s m args below meth c A ls C hr hlocks hnm hAe G hl
  have hx := C.1
  have hb := C.2.1
  have hl : lv_has ls 5 [(0, .ref x), (1, .int p1), (2, .int p2)] := hl
  refine lv_aload_n hx hb dX11_stop_0 rfl (lv_at hl 0 rfl) ?_
  refine z_get C G clX11 0 rfl 0 (by decide) m_fl_RX11_10 rfl dX11_stop_1 ?_
  refine lv_iload_n hx hb dX11_stop_4 rfl (lv_at hl 1 rfl) ?_
  refine z_Vq (bc := [[(t0, .inr (8, [.ref a1p, .int 0, .int 0, .int (-1), .ref a2p, .ref a3p, .ref a4p, .ref a5p]))], [(a2p, .inl (T.2 0, 3, .inl (fun _ => 0)))]]) (br := [[(x, .inr (10, [.ref t0, .ref ia, .ref im, .ref rd, .ref po, .ref co, .ref tr, .ref wa, .ref wb, .ref fi, .ref cd]))]]) (As := [.int p1]) (rest := []) C G (c_landAt0 l T t0 a1p a2p a3p a4p a5p 0 0 (-1) p1) (kV_RX11_121 C.2.2.2.2 (Nat.le_of_ble_eq_true rfl) (Nat.le_of_ble_eq_true rfl)) [1, 2] [0] rfl rfl (ci := 8) (qc := (RX9, TX9, 8)) rfl rfl (List.mem_flatten.mpr ⟨_, List.mem_of_getElem? (i := 0) rfl, List.mem_cons_self⟩) rfl rfl hl.1 dX11_stop_5 (Nat.le_of_ble_eq_true rfl) (Nat.le_of_ble_eq_true rfl) (fun r_2 b1 H locs hw G => ?_)
  obtain ⟨rfl, h_1⟩ := hw
  have G : zS T A s.heap s [[(x, .inr (10, [.ref t0, .ref ia, .ref im, .ref rd, .ref po, .ref co, .ref tr, .ref wa, .ref wb, .ref fi, .ref cd]))], [(t0, .inr (8, [.ref a1p, .int 0, .int 0, .int (-1), .ref a2p, .ref a3p, .ref a4p, .ref a5p]))], [(a2p, .inl (T.2 0, 3, .inl (fun _ => 0)))]] _ _ := G
  subst h_1
  refine lv_astore_nN (lv' := [(3, .null), (0, .ref x), (1, .int p1), (2, .int p2)]) hx hb dX11_stop_8 rfl hl (by decide) rfl (fun ls hl => ?_)
  refine lv_aload_n hx hb dX11_stop_9 rfl (lv_at hl 1 rfl) ?_
  refine z_get C G clX11 0 rfl 0 (by decide) m_fl_RX11_10 rfl dX11_stop_10 ?_
  refine lv_iload_n hx hb dX11_stop_13 rfl (lv_at hl 3 rfl) ?_
  refine z_Vq (bc := [[(t0, .inr (8, [.ref a1p, .int 0, .int 0, .int (-1), .ref a2p, .ref a3p, .ref a4p, .ref a5p]))], [(a2p, .inl (T.2 0, 3, .inl (fun _ => 0)))]]) (br := [[(x, .inr (10, [.ref t0, .ref ia, .ref im, .ref rd, .ref po, .ref co, .ref tr, .ref wa, .ref wb, .ref fi, .ref cd]))]]) (As := [.int p2]) (rest := []) C G (c_dayAt0 l T t0 a1p a2p a3p a4p a5p 0 0 (-1) p2) (kV_RX11_130 C.2.2.2.2 (Nat.le_of_ble_eq_true rfl) (Nat.le_of_ble_eq_true rfl)) [1, 2] [0] rfl rfl (ci := 8) (qc := (RX9, TX9, 8)) rfl rfl (List.mem_flatten.mpr ⟨_, List.mem_of_getElem? (i := 0) rfl, List.mem_cons_self⟩) rfl rfl hl.1 dX11_stop_14 (Nat.le_of_ble_eq_true rfl) (Nat.le_of_ble_eq_true rfl) (fun r_4 b1 H locs hw G => ?_)
  obtain ⟨rfl, h_3⟩ := hw
  have G : zS T A s.heap s [[(x, .inr (10, [.ref t0, .ref ia, .ref im, .ref rd, .ref po, .ref co, .ref tr, .ref wa, .ref wb, .ref fi, .ref cd]))], [(t0, .inr (8, [.ref a1p, .int 0, .int 0, .int (-1), .ref a2p, .ref a3p, .ref a4p, .ref a5p]))], [(a2p, .inl (T.2 0, 3, .inl (fun _ => 0)))]] _ _ := G
  subst h_3
  refine lv_astoreN (lv' := [(4, .null), (3, .null), (0, .ref x), (1, .int p1), (2, .int p2)]) hx hb dX11_stop_17 hl (by decide) rfl (fun ls hl => ?_)
  refine lv_aload_nN hx hb dX11_stop_19 rfl (lv_at hl 1 rfl) ?_
  refine lv_ifnullN (tgt := 28) hx hb dX11_stop_20 (by decide) ?_
  refine lv_iconst (v := (-1)) hx hb dX11_stop_28 (by decide) ?_
  refine lv_goto (tgt := 44) hx hb dX11_stop_29 (by decide) ?_
  have G := G.sub (bs' := []) [] rfl
  exact z_iret C hr hlocks G (Nat.le_of_ble_eq_true rfl) (Nat.le_of_ble_eq_true rfl) dX11_stop_44 ⟨rfl, rfl⟩
set_option maxHeartbeats 4000000 in
set_option maxRecDepth 100000 in
/-- state: on a new object -/
theorem c_x_state (l : Launch) (T : zTy) (x : Nat) (t0 : Nat) (ia : Nat) (im : Nat) (rd : Nat) (po : Nat) (co : Nat) (tr : Nat) (wa : Nat) (wb : Nat) (fi : Nat) (cd : Nat) (a1p : Nat) (a2p : Nat) (a3p : Nat) (a4p : Nat) (a5p : Nat) (p1 : Int32) (p2 : Int32) (p3 : Int32) (p4 : Int32) : zMi l T yX11_state cX11_state 7 (some .int) 5 0 0 [.ref x, .int p1, .int p2, .int p3, .int p4] [[(x, .inr (10, [.ref t0, .ref ia, .ref im, .ref rd, .ref po, .ref co, .ref tr, .ref wa, .ref wb, .ref fi, .ref cd]))], [(t0, .inr (8, [.ref a1p, .int 0, .int 0, .int (-1), .ref a2p, .ref a3p, .ref a4p, .ref a5p]))], [(a2p, .inl (T.2 0, 3, .inl (fun _ => 0)))]] (fun (r : Int32) bs => bs = [] ∧ r = (-2)) := by
  refine zMi_of (own := RX11) (by decide) rfl (Nat.le_of_ble_eq_true rfl) ?_
  intro p e s m args below meth c A ls C hr hlocks hnm hAe G hl
  have hx := C.1
  have hb := C.2.1
  have hl : lv_has ls 7 [(0, .ref x), (1, .int p1), (2, .int p2), (3, .int p3), (4, .int p4)] := hl
  refine lv_aload_n hx hb dX11_state_0 rfl (lv_at hl 0 rfl) ?_
  refine z_get C G clX11 0 rfl 0 (by decide) m_fl_RX11_10 rfl dX11_state_1 ?_
  refine lv_iload_n hx hb dX11_state_4 rfl (lv_at hl 1 rfl) ?_
  refine z_Vq (bc := [[(t0, .inr (8, [.ref a1p, .int 0, .int 0, .int (-1), .ref a2p, .ref a3p, .ref a4p, .ref a5p]))], [(a2p, .inl (T.2 0, 3, .inl (fun _ => 0)))]]) (br := [[(x, .inr (10, [.ref t0, .ref ia, .ref im, .ref rd, .ref po, .ref co, .ref tr, .ref wa, .ref wb, .ref fi, .ref cd]))]]) (As := [.int p1]) (rest := []) C G (c_landAt0 l T t0 a1p a2p a3p a4p a5p 0 0 (-1) p1) (kV_RX11_121 C.2.2.2.2 (Nat.le_of_ble_eq_true rfl) (Nat.le_of_ble_eq_true rfl)) [1, 2] [0] rfl rfl (ci := 8) (qc := (RX9, TX9, 8)) rfl rfl (List.mem_flatten.mpr ⟨_, List.mem_of_getElem? (i := 0) rfl, List.mem_cons_self⟩) rfl rfl hl.1 dX11_state_5 (Nat.le_of_ble_eq_true rfl) (Nat.le_of_ble_eq_true rfl) (fun r_2 b1 H locs hw G => ?_)
  obtain ⟨rfl, h_1⟩ := hw
  have G : zS T A s.heap s [[(x, .inr (10, [.ref t0, .ref ia, .ref im, .ref rd, .ref po, .ref co, .ref tr, .ref wa, .ref wb, .ref fi, .ref cd]))], [(t0, .inr (8, [.ref a1p, .int 0, .int 0, .int (-1), .ref a2p, .ref a3p, .ref a4p, .ref a5p]))], [(a2p, .inl (T.2 0, 3, .inl (fun _ => 0)))]] _ _ := G
  subst h_1
  refine lv_astoreN (lv' := [(5, .null), (0, .ref x), (1, .int p1), (2, .int p2), (3, .int p3), (4, .int p4)]) hx hb dX11_state_8 hl (by decide) rfl (fun ls hl => ?_)
  refine lv_aload_n hx hb dX11_state_10 rfl (lv_at hl 1 rfl) ?_
  refine z_get C G clX11 0 rfl 0 (by decide) m_fl_RX11_10 rfl dX11_state_11 ?_
  refine lv_iload_n hx hb dX11_state_14 rfl (lv_at hl 3 rfl) ?_
  refine z_Vq (bc := [[(t0, .inr (8, [.ref a1p, .int 0, .int 0, .int (-1), .ref a2p, .ref a3p, .ref a4p, .ref a5p]))], [(a2p, .inl (T.2 0, 3, .inl (fun _ => 0)))]]) (br := [[(x, .inr (10, [.ref t0, .ref ia, .ref im, .ref rd, .ref po, .ref co, .ref tr, .ref wa, .ref wb, .ref fi, .ref cd]))]]) (As := [.int p2]) (rest := []) C G (c_dayAt0 l T t0 a1p a2p a3p a4p a5p 0 0 (-1) p2) (kV_RX11_130 C.2.2.2.2 (Nat.le_of_ble_eq_true rfl) (Nat.le_of_ble_eq_true rfl)) [1, 2] [0] rfl rfl (ci := 8) (qc := (RX9, TX9, 8)) rfl rfl (List.mem_flatten.mpr ⟨_, List.mem_of_getElem? (i := 0) rfl, List.mem_cons_self⟩) rfl rfl hl.1 dX11_state_15 (Nat.le_of_ble_eq_true rfl) (Nat.le_of_ble_eq_true rfl) (fun r_4 b1 H locs hw G => ?_)
  obtain ⟨rfl, h_3⟩ := hw
  have G : zS T A s.heap s [[(x, .inr (10, [.ref t0, .ref ia, .ref im, .ref rd, .ref po, .ref co, .ref tr, .ref wa, .ref wb, .ref fi, .ref cd]))], [(t0, .inr (8, [.ref a1p, .int 0, .int 0, .int (-1), .ref a2p, .ref a3p, .ref a4p, .ref a5p]))], [(a2p, .inl (T.2 0, 3, .inl (fun _ => 0)))]] _ _ := G
  subst h_3
  refine lv_astoreN (lv' := [(6, .null), (5, .null), (0, .ref x), (1, .int p1), (2, .int p2), (3, .int p3), (4, .int p4)]) hx hb dX11_state_18 hl (by decide) rfl (fun ls hl => ?_)
  refine lv_aloadN hx hb dX11_state_20 (lv_at hl 1 rfl) ?_
  refine lv_ifnullN (tgt := 43) hx hb dX11_state_22 (by decide) ?_
  refine lv_bipush (v := (-2)) hx hb dX11_state_43 (by decide) ?_
  have G := G.sub (bs' := []) [] rfl
  exact z_iret C hr hlocks G (Nat.le_of_ble_eq_true rfl) (Nat.le_of_ble_eq_true rfl) dX11_state_45 ⟨rfl, rfl⟩
set_option maxHeartbeats 4000000 in
set_option maxRecDepth 100000 in
/-- walk: on a new object -/
theorem c_x_walk (l : Launch) (T : zTy) (x : Nat) (t0 : Nat) (ia : Nat) (im : Nat) (rd : Nat) (po : Nat) (co : Nat) (tr : Nat) (wa : Nat) (wb : Nat) (fi : Nat) (cd : Nat) (a1p : Nat) (a2p : Nat) (a3p : Nat) (a4p : Nat) (a5p : Nat) (p1 : Int32) (p2 : Int32) (p3 : Int32) : zMi l T yX11_walk cX11_walk 5 (some .int) 5 0 0 [.ref x, .int p1, .int p2, .int p3] [[(x, .inr (10, [.ref t0, .ref ia, .ref im, .ref rd, .ref po, .ref co, .ref tr, .ref wa, .ref wb, .ref fi, .ref cd]))], [(t0, .inr (8, [.ref a1p, .int 0, .int 0, .int (-1), .ref a2p, .ref a3p, .ref a4p, .ref a5p]))], [(a2p, .inl (T.2 0, 3, .inl (fun _ => 0)))]] (fun (r : Int32) bs => bs = [] ∧ r = (-2)) := by
  refine zMi_of (own := RX11) (by decide) rfl (Nat.le_of_ble_eq_true rfl) ?_
  intro p e s m args below meth c A ls C hr hlocks hnm hAe G hl
  have hx := C.1
  have hb := C.2.1
  have hl : lv_has ls 5 [(0, .ref x), (1, .int p1), (2, .int p2), (3, .int p3)] := hl
  refine lv_aload_n hx hb dX11_walk_0 rfl (lv_at hl 0 rfl) ?_
  refine z_get C G clX11 0 rfl 0 (by decide) m_fl_RX11_10 rfl dX11_walk_1 ?_
  refine lv_iload_n hx hb dX11_walk_4 rfl (lv_at hl 1 rfl) ?_
  refine z_Vq (bc := [[(t0, .inr (8, [.ref a1p, .int 0, .int 0, .int (-1), .ref a2p, .ref a3p, .ref a4p, .ref a5p]))], [(a2p, .inl (T.2 0, 3, .inl (fun _ => 0)))]]) (br := [[(x, .inr (10, [.ref t0, .ref ia, .ref im, .ref rd, .ref po, .ref co, .ref tr, .ref wa, .ref wb, .ref fi, .ref cd]))]]) (As := [.int p1]) (rest := []) C G (c_landAt0 l T t0 a1p a2p a3p a4p a5p 0 0 (-1) p1) (kV_RX11_121 C.2.2.2.2 (Nat.le_of_ble_eq_true rfl) (Nat.le_of_ble_eq_true rfl)) [1, 2] [0] rfl rfl (ci := 8) (qc := (RX9, TX9, 8)) rfl rfl (List.mem_flatten.mpr ⟨_, List.mem_of_getElem? (i := 0) rfl, List.mem_cons_self⟩) rfl rfl hl.1 dX11_walk_5 (Nat.le_of_ble_eq_true rfl) (Nat.le_of_ble_eq_true rfl) (fun r_2 b1 H locs hw G => ?_)
  obtain ⟨rfl, h_1⟩ := hw
  have G : zS T A s.heap s [[(x, .inr (10, [.ref t0, .ref ia, .ref im, .ref rd, .ref po, .ref co, .ref tr, .ref wa, .ref wb, .ref fi, .ref cd]))], [(t0, .inr (8, [.ref a1p, .int 0, .int 0, .int (-1), .ref a2p, .ref a3p, .ref a4p, .ref a5p]))], [(a2p, .inl (T.2 0, 3, .inl (fun _ => 0)))]] _ _ := G
  subst h_1
  refine lv_astoreN (lv' := [(4, .null), (0, .ref x), (1, .int p1), (2, .int p2), (3, .int p3)]) hx hb dX11_walk_8 hl (by decide) rfl (fun ls hl => ?_)
  refine lv_aloadN hx hb dX11_walk_10 (lv_at hl 0 rfl) ?_
  refine lv_ifnullN (tgt := 24) hx hb dX11_walk_12 (by decide) ?_
  refine lv_bipush (v := (-2)) hx hb dX11_walk_24 (by decide) ?_
  have G := G.sub (bs' := []) [] rfl
  exact z_iret C hr hlocks G (Nat.le_of_ble_eq_true rfl) (Nat.le_of_ble_eq_true rfl) dX11_walk_26 ⟨rfl, rfl⟩
set_option maxHeartbeats 4000000 in
set_option maxRecDepth 100000 in
/-- endOf: on a new object -/
theorem c_x_endOf (l : Launch) (T : zTy) (x : Nat) (t0 : Nat) (ia : Nat) (im : Nat) (rd : Nat) (po : Nat) (co : Nat) (tr : Nat) (wa : Nat) (wb : Nat) (fi : Nat) (cd : Nat) (a1p : Nat) (a2p : Nat) (a3p : Nat) (a4p : Nat) (a5p : Nat) (p1 : Int32) (p2 : Int32) : zMi l T yX11_endOf cX11_endOf 4 (some .int) 5 0 0 [.ref x, .int p1, .int p2] [[(x, .inr (10, [.ref t0, .ref ia, .ref im, .ref rd, .ref po, .ref co, .ref tr, .ref wa, .ref wb, .ref fi, .ref cd]))], [(t0, .inr (8, [.ref a1p, .int 0, .int 0, .int (-1), .ref a2p, .ref a3p, .ref a4p, .ref a5p]))], [(a2p, .inl (T.2 0, 3, .inl (fun _ => 0)))]] (fun (r : Int32) bs => bs = [] ∧ r = (-2)) := by
  refine zMi_of (own := RX11) (by decide) rfl (Nat.le_of_ble_eq_true rfl) ?_
  intro p e s m args below meth c A ls C hr hlocks hnm hAe G hl
  have hx := C.1
  have hb := C.2.1
  have hl : lv_has ls 4 [(0, .ref x), (1, .int p1), (2, .int p2)] := hl
  refine lv_aload_n hx hb dX11_endOf_0 rfl (lv_at hl 0 rfl) ?_
  refine z_get C G clX11 0 rfl 0 (by decide) m_fl_RX11_10 rfl dX11_endOf_1 ?_
  refine lv_iload_n hx hb dX11_endOf_4 rfl (lv_at hl 1 rfl) ?_
  refine z_Vq (bc := [[(t0, .inr (8, [.ref a1p, .int 0, .int 0, .int (-1), .ref a2p, .ref a3p, .ref a4p, .ref a5p]))], [(a2p, .inl (T.2 0, 3, .inl (fun _ => 0)))]]) (br := [[(x, .inr (10, [.ref t0, .ref ia, .ref im, .ref rd, .ref po, .ref co, .ref tr, .ref wa, .ref wb, .ref fi, .ref cd]))]]) (As := [.int p1]) (rest := []) C G (c_landAt0 l T t0 a1p a2p a3p a4p a5p 0 0 (-1) p1) (kV_RX11_121 C.2.2.2.2 (Nat.le_of_ble_eq_true rfl) (Nat.le_of_ble_eq_true rfl)) [1, 2] [0] rfl rfl (ci := 8) (qc := (RX9, TX9, 8)) rfl rfl (List.mem_flatten.mpr ⟨_, List.mem_of_getElem? (i := 0) rfl, List.mem_cons_self⟩) rfl rfl hl.1 dX11_endOf_5 (Nat.le_of_ble_eq_true rfl) (Nat.le_of_ble_eq_true rfl) (fun r_2 b1 H locs hw G => ?_)
  obtain ⟨rfl, h_1⟩ := hw
  have G : zS T A s.heap s [[(x, .inr (10, [.ref t0, .ref ia, .ref im, .ref rd, .ref po, .ref co, .ref tr, .ref wa, .ref wb, .ref fi, .ref cd]))], [(t0, .inr (8, [.ref a1p, .int 0, .int 0, .int (-1), .ref a2p, .ref a3p, .ref a4p, .ref a5p]))], [(a2p, .inl (T.2 0, 3, .inl (fun _ => 0)))]] _ _ := G
  subst h_1
  refine lv_astore_nN (lv' := [(3, .null), (0, .ref x), (1, .int p1), (2, .int p2)]) hx hb dX11_endOf_8 rfl hl (by decide) rfl (fun ls hl => ?_)
  refine lv_aload_nN hx hb dX11_endOf_9 rfl (lv_at hl 0 rfl) ?_
  refine lv_ifnonnullN hx hb dX11_endOf_10 ?_
  refine lv_bipush (v := (-2)) hx hb dX11_endOf_13 (by decide) ?_
  have G := G.sub (bs' := []) [] rfl
  exact z_iret C hr hlocks G (Nat.le_of_ble_eq_true rfl) (Nat.le_of_ble_eq_true rfl) dX11_endOf_15 ⟨rfl, rfl⟩
set_option maxHeartbeats 4000000 in
set_option maxRecDepth 100000 in
/-- come: on a new object -/
theorem c_x_come (l : Launch) (T : zTy) (x : Nat) (t0 : Nat) (ia : Nat) (im : Nat) (rd : Nat) (po : Nat) (co : Nat) (tr : Nat) (wa : Nat) (wb : Nat) (fi : Nat) (cd : Nat) (a1p : Nat) (a2p : Nat) (a3p : Nat) (a4p : Nat) (a5p : Nat) (p1 : Int32) (p2 : Int32) (p3 : Int32) : zMi l T yX11_come cX11_come 6 (some .int) 5 0 0 [.ref x, .int p1, .int p2, .int p3] [[(x, .inr (10, [.ref t0, .ref ia, .ref im, .ref rd, .ref po, .ref co, .ref tr, .ref wa, .ref wb, .ref fi, .ref cd]))], [(t0, .inr (8, [.ref a1p, .int 0, .int 0, .int (-1), .ref a2p, .ref a3p, .ref a4p, .ref a5p]))], [(a2p, .inl (T.2 0, 3, .inl (fun _ => 0)))]] (fun (r : Int32) bs => bs = [] ∧ r = (-1)) := by
  refine zMi_of (own := RX11) (by decide) rfl (Nat.le_of_ble_eq_true rfl) ?_
  intro p e s m args below meth c A ls C hr hlocks hnm hAe G hl
  have hx := C.1
  have hb := C.2.1
  have hl : lv_has ls 6 [(0, .ref x), (1, .int p1), (2, .int p2), (3, .int p3)] := hl
  refine lv_aload_n hx hb dX11_come_0 rfl (lv_at hl 0 rfl) ?_
  refine z_get C G clX11 0 rfl 0 (by decide) m_fl_RX11_10 rfl dX11_come_1 ?_
  refine lv_iload_n hx hb dX11_come_4 rfl (lv_at hl 1 rfl) ?_
  refine z_Vq (bc := [[(t0, .inr (8, [.ref a1p, .int 0, .int 0, .int (-1), .ref a2p, .ref a3p, .ref a4p, .ref a5p]))], [(a2p, .inl (T.2 0, 3, .inl (fun _ => 0)))]]) (br := [[(x, .inr (10, [.ref t0, .ref ia, .ref im, .ref rd, .ref po, .ref co, .ref tr, .ref wa, .ref wb, .ref fi, .ref cd]))]]) (As := [.int p1]) (rest := []) C G (c_landAt0 l T t0 a1p a2p a3p a4p a5p 0 0 (-1) p1) (kV_RX11_121 C.2.2.2.2 (Nat.le_of_ble_eq_true rfl) (Nat.le_of_ble_eq_true rfl)) [1, 2] [0] rfl rfl (ci := 8) (qc := (RX9, TX9, 8)) rfl rfl (List.mem_flatten.mpr ⟨_, List.mem_of_getElem? (i := 0) rfl, List.mem_cons_self⟩) rfl rfl hl.1 dX11_come_5 (Nat.le_of_ble_eq_true rfl) (Nat.le_of_ble_eq_true rfl) (fun r_2 b1 H locs hw G => ?_)
  obtain ⟨rfl, h_1⟩ := hw
  have G : zS T A s.heap s [[(x, .inr (10, [.ref t0, .ref ia, .ref im, .ref rd, .ref po, .ref co, .ref tr, .ref wa, .ref wb, .ref fi, .ref cd]))], [(t0, .inr (8, [.ref a1p, .int 0, .int 0, .int (-1), .ref a2p, .ref a3p, .ref a4p, .ref a5p]))], [(a2p, .inl (T.2 0, 3, .inl (fun _ => 0)))]] _ _ := G
  subst h_1
  refine lv_astoreN (lv' := [(4, .null), (0, .ref x), (1, .int p1), (2, .int p2), (3, .int p3)]) hx hb dX11_come_8 hl (by decide) rfl (fun ls hl => ?_)
  refine lv_aloadN hx hb dX11_come_10 (lv_at hl 0 rfl) ?_
  refine lv_ifnullN (tgt := 35) hx hb dX11_come_12 (by decide) ?_
  refine lv_iconst (v := (-1)) hx hb dX11_come_35 (by decide) ?_
  have G := G.sub (bs' := []) [] rfl
  exact z_iret C hr hlocks G (Nat.le_of_ble_eq_true rfl) (Nat.le_of_ble_eq_true rfl) dX11_come_36 ⟨rfl, rfl⟩
set_option maxHeartbeats 4000000 in
set_option maxRecDepth 100000 in
/-- period: on a new object -/
theorem c_x_period (l : Launch) (T : zTy) (x : Nat) (t0 : Nat) (ia : Nat) (im : Nat) (rd : Nat) (po : Nat) (co : Nat) (tr : Nat) (wa : Nat) (wb : Nat) (fi : Nat) (cd : Nat) (a1p : Nat) (a2p : Nat) (a3p : Nat) (a4p : Nat) (a5p : Nat) (p1 : Int32) (p2 : Int32) (p3 : Int32) : zMi l T yX11_period cX11_period 8 (some .int) 5 0 0 [.ref x, .int p1, .int p2, .int p3] [[(x, .inr (10, [.ref t0, .ref ia, .ref im, .ref rd, .ref po, .ref co, .ref tr, .ref wa, .ref wb, .ref fi, .ref cd]))], [(t0, .inr (8, [.ref a1p, .int 0, .int 0, .int (-1), .ref a2p, .ref a3p, .ref a4p, .ref a5p]))], [(a2p, .inl (T.2 0, 3, .inl (fun _ => 0)))]] (fun (r : Int32) bs => bs = [] ∧ r = (-1)) := by
  refine zMi_of (own := RX11) (by decide) rfl (Nat.le_of_ble_eq_true rfl) ?_
  intro p e s m args below meth c A ls C hr hlocks hnm hAe G hl
  have hx := C.1
  have hb := C.2.1
  have hl : lv_has ls 8 [(0, .ref x), (1, .int p1), (2, .int p2), (3, .int p3)] := hl
  refine lv_aload_n hx hb dX11_period_0 rfl (lv_at hl 0 rfl) ?_
  refine z_get C G clX11 0 rfl 0 (by decide) m_fl_RX11_10 rfl dX11_period_1 ?_
  refine lv_iload_n hx hb dX11_period_4 rfl (lv_at hl 1 rfl) ?_
  refine z_Vq (bc := [[(t0, .inr (8, [.ref a1p, .int 0, .int 0, .int (-1), .ref a2p, .ref a3p, .ref a4p, .ref a5p]))], [(a2p, .inl (T.2 0, 3, .inl (fun _ => 0)))]]) (br := [[(x, .inr (10, [.ref t0, .ref ia, .ref im, .ref rd, .ref po, .ref co, .ref tr, .ref wa, .ref wb, .ref fi, .ref cd]))]]) (As := [.int p1]) (rest := []) C G (c_landAt0 l T t0 a1p a2p a3p a4p a5p 0 0 (-1) p1) (kV_RX11_121 C.2.2.2.2 (Nat.le_of_ble_eq_true rfl) (Nat.le_of_ble_eq_true rfl)) [1, 2] [0] rfl rfl (ci := 8) (qc := (RX9, TX9, 8)) rfl rfl (List.mem_flatten.mpr ⟨_, List.mem_of_getElem? (i := 0) rfl, List.mem_cons_self⟩) rfl rfl hl.1 dX11_period_5 (Nat.le_of_ble_eq_true rfl) (Nat.le_of_ble_eq_true rfl) (fun r_2 b1 H locs hw G => ?_)
  obtain ⟨rfl, h_1⟩ := hw
  have G : zS T A s.heap s [[(x, .inr (10, [.ref t0, .ref ia, .ref im, .ref rd, .ref po, .ref co, .ref tr, .ref wa, .ref wb, .ref fi, .ref cd]))], [(t0, .inr (8, [.ref a1p, .int 0, .int 0, .int (-1), .ref a2p, .ref a3p, .ref a4p, .ref a5p]))], [(a2p, .inl (T.2 0, 3, .inl (fun _ => 0)))]] _ _ := G
  subst h_1
  refine lv_astoreN (lv' := [(4, .null), (0, .ref x), (1, .int p1), (2, .int p2), (3, .int p3)]) hx hb dX11_period_8 hl (by decide) rfl (fun ls hl => ?_)
  refine lv_aloadN hx hb dX11_period_10 (lv_at hl 0 rfl) ?_
  refine lv_ifnullN (tgt := 24) hx hb dX11_period_12 (by decide) ?_
  refine lv_iconst (v := (-1)) hx hb dX11_period_24 (by decide) ?_
  have G := G.sub (bs' := []) [] rfl
  exact z_iret C hr hlocks G (Nat.le_of_ble_eq_true rfl) (Nat.le_of_ble_eq_true rfl) dX11_period_25 ⟨rfl, rfl⟩
set_option maxHeartbeats 4000000 in
set_option maxRecDepth 100000 in
/-- set: on a new object -/
theorem c_x_set (l : Launch) (T : zTy) (x : Nat) (t0 : Nat) (ia : Nat) (im : Nat) (rd : Nat) (po : Nat) (co : Nat) (tr : Nat) (wa : Nat) (wb : Nat) (fi : Nat) (cd : Nat) (a1p : Nat) (a2p : Nat) (a3p : Nat) (a4p : Nat) (a5p : Nat) (p1 : Int32) (p2 : Int32) (p3 : Int32) (p4 : Int32) : zMi l T yX11_set cX11_set 10 (some .int) 5 0 0 [.ref x, .int p1, .int p2, .int p3, .int p4] [[(x, .inr (10, [.ref t0, .ref ia, .ref im, .ref rd, .ref po, .ref co, .ref tr, .ref wa, .ref wb, .ref fi, .ref cd]))], [(t0, .inr (8, [.ref a1p, .int 0, .int 0, .int (-1), .ref a2p, .ref a3p, .ref a4p, .ref a5p]))], [(a2p, .inl (T.2 0, 3, .inl (fun _ => 0)))]] (fun (r : Int32) bs => bs = [] ∧ r = (-1)) := by
  refine zMi_of (own := RX11) (by decide) rfl (Nat.le_of_ble_eq_true rfl) ?_
  intro p e s m args below meth c A ls C hr hlocks hnm hAe G hl
  have hx := C.1
  have hb := C.2.1
  have hl : lv_has ls 10 [(0, .ref x), (1, .int p1), (2, .int p2), (3, .int p3), (4, .int p4)] := hl
  refine lv_aload_n hx hb dX11_set_0 rfl (lv_at hl 0 rfl) ?_
  refine z_get C G clX11 0 rfl 0 (by decide) m_fl_RX11_10 rfl dX11_set_1 ?_
  refine lv_iload_n hx hb dX11_set_4 rfl (lv_at hl 1 rfl) ?_
  refine z_Vq (bc := [[(t0, .inr (8, [.ref a1p, .int 0, .int 0, .int (-1), .ref a2p, .ref a3p, .ref a4p, .ref a5p]))], [(a2p, .inl (T.2 0, 3, .inl (fun _ => 0)))]]) (br := [[(x, .inr (10, [.ref t0, .ref ia, .ref im, .ref rd, .ref po, .ref co, .ref tr, .ref wa, .ref wb, .ref fi, .ref cd]))]]) (As := [.int p1]) (rest := []) C G (c_landAt0 l T t0 a1p a2p a3p a4p a5p 0 0 (-1) p1) (kV_RX11_121 C.2.2.2.2 (Nat.le_of_ble_eq_true rfl) (Nat.le_of_ble_eq_true rfl)) [1, 2] [0] rfl rfl (ci := 8) (qc := (RX9, TX9, 8)) rfl rfl (List.mem_flatten.mpr ⟨_, List.mem_of_getElem? (i := 0) rfl, List.mem_cons_self⟩) rfl rfl hl.1 dX11_set_5 (Nat.le_of_ble_eq_true rfl) (Nat.le_of_ble_eq_true rfl) (fun r_2 b1 H locs hw G => ?_)
  obtain ⟨rfl, h_1⟩ := hw
  have G : zS T A s.heap s [[(x, .inr (10, [.ref t0, .ref ia, .ref im, .ref rd, .ref po, .ref co, .ref tr, .ref wa, .ref wb, .ref fi, .ref cd]))], [(t0, .inr (8, [.ref a1p, .int 0, .int 0, .int (-1), .ref a2p, .ref a3p, .ref a4p, .ref a5p]))], [(a2p, .inl (T.2 0, 3, .inl (fun _ => 0)))]] _ _ := G
  subst h_1
  refine lv_astoreN (lv' := [(5, .null), (0, .ref x), (1, .int p1), (2, .int p2), (3, .int p3), (4, .int p4)]) hx hb dX11_set_8 hl (by decide) rfl (fun ls hl => ?_)
  refine lv_aloadN hx hb dX11_set_10 (lv_at hl 0 rfl) ?_
  refine lv_ifnullN (tgt := 33) hx hb dX11_set_12 (by decide) ?_
  refine lv_iconst (v := (-1)) hx hb dX11_set_33 (by decide) ?_
  have G := G.sub (bs' := []) [] rfl
  exact z_iret C hr hlocks G (Nat.le_of_ble_eq_true rfl) (Nat.le_of_ble_eq_true rfl) dX11_set_34 ⟨rfl, rfl⟩
set_option maxHeartbeats 4000000 in
set_option maxRecDepth 100000 in
/-- lot: on a new object -/
theorem c_x_lot (l : Launch) (T : zTy) (x : Nat) (t0 : Nat) (ia : Nat) (im : Nat) (rd : Nat) (po : Nat) (co : Nat) (tr : Nat) (wa : Nat) (wb : Nat) (fi : Nat) (cd : Nat) (a1p : Nat) (a2p : Nat) (a3p : Nat) (a4p : Nat) (a5p : Nat) (p1 : Int32) (p2 : Int32) (p3 : Int32) (p4 : Int32) : zMi l T yX11_lot cX11_lot 9 (some .int) 5 0 0 [.ref x, .int p1, .int p2, .int p3, .int p4] [[(x, .inr (10, [.ref t0, .ref ia, .ref im, .ref rd, .ref po, .ref co, .ref tr, .ref wa, .ref wb, .ref fi, .ref cd]))], [(t0, .inr (8, [.ref a1p, .int 0, .int 0, .int (-1), .ref a2p, .ref a3p, .ref a4p, .ref a5p]))], [(a2p, .inl (T.2 0, 3, .inl (fun _ => 0)))]] (fun (r : Int32) bs => bs = [] ∧ r = (-1)) := by
  refine zMi_of (own := RX11) (by decide) rfl (Nat.le_of_ble_eq_true rfl) ?_
  intro p e s m args below meth c A ls C hr hlocks hnm hAe G hl
  have hx := C.1
  have hb := C.2.1
  have hl : lv_has ls 9 [(0, .ref x), (1, .int p1), (2, .int p2), (3, .int p3), (4, .int p4)] := hl
  refine lv_aload_n hx hb dX11_lot_0 rfl (lv_at hl 0 rfl) ?_
  refine z_get C G clX11 0 rfl 0 (by decide) m_fl_RX11_10 rfl dX11_lot_1 ?_
  refine lv_iload_n hx hb dX11_lot_4 rfl (lv_at hl 1 rfl) ?_
  refine z_Vq (bc := [[(t0, .inr (8, [.ref a1p, .int 0, .int 0, .int (-1), .ref a2p, .ref a3p, .ref a4p, .ref a5p]))], [(a2p, .inl (T.2 0, 3, .inl (fun _ => 0)))]]) (br := [[(x, .inr (10, [.ref t0, .ref ia, .ref im, .ref rd, .ref po, .ref co, .ref tr, .ref wa, .ref wb, .ref fi, .ref cd]))]]) (As := [.int p1]) (rest := []) C G (c_landAt0 l T t0 a1p a2p a3p a4p a5p 0 0 (-1) p1) (kV_RX11_121 C.2.2.2.2 (Nat.le_of_ble_eq_true rfl) (Nat.le_of_ble_eq_true rfl)) [1, 2] [0] rfl rfl (ci := 8) (qc := (RX9, TX9, 8)) rfl rfl (List.mem_flatten.mpr ⟨_, List.mem_of_getElem? (i := 0) rfl, List.mem_cons_self⟩) rfl rfl hl.1 dX11_lot_5 (Nat.le_of_ble_eq_true rfl) (Nat.le_of_ble_eq_true rfl) (fun r_2 b1 H locs hw G => ?_)
  obtain ⟨rfl, h_1⟩ := hw
  have G : zS T A s.heap s [[(x, .inr (10, [.ref t0, .ref ia, .ref im, .ref rd, .ref po, .ref co, .ref tr, .ref wa, .ref wb, .ref fi, .ref cd]))], [(t0, .inr (8, [.ref a1p, .int 0, .int 0, .int (-1), .ref a2p, .ref a3p, .ref a4p, .ref a5p]))], [(a2p, .inl (T.2 0, 3, .inl (fun _ => 0)))]] _ _ := G
  subst h_1
  refine lv_astoreN (lv' := [(5, .null), (0, .ref x), (1, .int p1), (2, .int p2), (3, .int p3), (4, .int p4)]) hx hb dX11_lot_8 hl (by decide) rfl (fun ls hl => ?_)
  refine lv_aloadN hx hb dX11_lot_10 (lv_at hl 0 rfl) ?_
  refine lv_ifnullN (tgt := 33) hx hb dX11_lot_12 (by decide) ?_
  refine lv_iconst (v := (-1)) hx hb dX11_lot_33 (by decide) ?_
  have G := G.sub (bs' := []) [] rfl
  exact z_iret C hr hlocks G (Nat.le_of_ble_eq_true rfl) (Nat.le_of_ble_eq_true rfl) dX11_lot_34 ⟨rfl, rfl⟩
set_option maxHeartbeats 4000000 in
set_option maxRecDepth 100000 in
/-- mean: on a new object -/
theorem c_x_mean (l : Launch) (T : zTy) (x : Nat) (t0 : Nat) (ia : Nat) (im : Nat) (rd : Nat) (po : Nat) (co : Nat) (tr : Nat) (wa : Nat) (wb : Nat) (fi : Nat) (cd : Nat) (a1p : Nat) (a2p : Nat) (a3p : Nat) (a4p : Nat) (a5p : Nat) (p1 : Int32) (p2 : Int32) (p3 : Int32) : zMi l T yX11_mean cX11_mean 8 (some .int) 5 0 0 [.ref x, .int p1, .int p2, .int p3] [[(x, .inr (10, [.ref t0, .ref ia, .ref im, .ref rd, .ref po, .ref co, .ref tr, .ref wa, .ref wb, .ref fi, .ref cd]))], [(t0, .inr (8, [.ref a1p, .int 0, .int 0, .int (-1), .ref a2p, .ref a3p, .ref a4p, .ref a5p]))], [(a2p, .inl (T.2 0, 3, .inl (fun _ => 0)))]] (fun (r : Int32) bs => bs = [] ∧ r = (-1)) := by
  refine zMi_of (own := RX11) (by decide) rfl (Nat.le_of_ble_eq_true rfl) ?_
  intro p e s m args below meth c A ls C hr hlocks hnm hAe G hl
  have hx := C.1
  have hb := C.2.1
  have hl : lv_has ls 8 [(0, .ref x), (1, .int p1), (2, .int p2), (3, .int p3)] := hl
  refine lv_aload_n hx hb dX11_mean_0 rfl (lv_at hl 0 rfl) ?_
  refine z_get C G clX11 0 rfl 0 (by decide) m_fl_RX11_10 rfl dX11_mean_1 ?_
  refine lv_iload_n hx hb dX11_mean_4 rfl (lv_at hl 1 rfl) ?_
  refine z_Vq (bc := [[(t0, .inr (8, [.ref a1p, .int 0, .int 0, .int (-1), .ref a2p, .ref a3p, .ref a4p, .ref a5p]))], [(a2p, .inl (T.2 0, 3, .inl (fun _ => 0)))]]) (br := [[(x, .inr (10, [.ref t0, .ref ia, .ref im, .ref rd, .ref po, .ref co, .ref tr, .ref wa, .ref wb, .ref fi, .ref cd]))]]) (As := [.int p1]) (rest := []) C G (c_landAt0 l T t0 a1p a2p a3p a4p a5p 0 0 (-1) p1) (kV_RX11_121 C.2.2.2.2 (Nat.le_of_ble_eq_true rfl) (Nat.le_of_ble_eq_true rfl)) [1, 2] [0] rfl rfl (ci := 8) (qc := (RX9, TX9, 8)) rfl rfl (List.mem_flatten.mpr ⟨_, List.mem_of_getElem? (i := 0) rfl, List.mem_cons_self⟩) rfl rfl hl.1 dX11_mean_5 (Nat.le_of_ble_eq_true rfl) (Nat.le_of_ble_eq_true rfl) (fun r_2 b1 H locs hw G => ?_)
  obtain ⟨rfl, h_1⟩ := hw
  have G : zS T A s.heap s [[(x, .inr (10, [.ref t0, .ref ia, .ref im, .ref rd, .ref po, .ref co, .ref tr, .ref wa, .ref wb, .ref fi, .ref cd]))], [(t0, .inr (8, [.ref a1p, .int 0, .int 0, .int (-1), .ref a2p, .ref a3p, .ref a4p, .ref a5p]))], [(a2p, .inl (T.2 0, 3, .inl (fun _ => 0)))]] _ _ := G
  subst h_1
  refine lv_astoreN (lv' := [(4, .null), (0, .ref x), (1, .int p1), (2, .int p2), (3, .int p3)]) hx hb dX11_mean_8 hl (by decide) rfl (fun ls hl => ?_)
  refine lv_aloadN hx hb dX11_mean_10 (lv_at hl 0 rfl) ?_
  refine lv_ifnullN (tgt := 24) hx hb dX11_mean_12 (by decide) ?_
  refine lv_iconst (v := (-1)) hx hb dX11_mean_24 (by decide) ?_
  have G := G.sub (bs' := []) [] rfl
  exact z_iret C hr hlocks G (Nat.le_of_ble_eq_true rfl) (Nat.le_of_ble_eq_true rfl) dX11_mean_25 ⟨rfl, rfl⟩
set_option maxHeartbeats 4000000 in
set_option maxRecDepth 100000 in
/-- trees: on a new object -/
theorem c_x_trees (l : Launch) (T : zTy) (x : Nat) (t0 : Nat) (ia : Nat) (im : Nat) (rd : Nat) (po : Nat) (co : Nat) (tr : Nat) (wa : Nat) (wb : Nat) (fi : Nat) (cd : Nat) (a1p : Nat) (a2p : Nat) (a3p : Nat) (a4p : Nat) (a5p : Nat) (p1 : Int32) : zMi l T yX11_trees cX11_trees 4 (some .int) 5 0 0 [.ref x, .int p1] [[(x, .inr (10, [.ref t0, .ref ia, .ref im, .ref rd, .ref po, .ref co, .ref tr, .ref wa, .ref wb, .ref fi, .ref cd]))], [(t0, .inr (8, [.ref a1p, .int 0, .int 0, .int (-1), .ref a2p, .ref a3p, .ref a4p, .ref a5p]))], [(a2p, .inl (T.2 0, 3, .inl (fun _ => 0)))]] (fun (r : Int32) bs => bs = [] ∧ r = (-1)) := by
  refine zMi_of (own := RX11) (by decide) rfl (Nat.le_of_ble_eq_true rfl) ?_
  intro p e s m args below meth c A ls C hr hlocks hnm hAe G hl
  have hx := C.1
  have hb := C.2.1
  have hl : lv_has ls 4 [(0, .ref x), (1, .int p1)] := hl
  refine lv_aload_n hx hb dX11_trees_0 rfl (lv_at hl 0 rfl) ?_
  refine z_get C G clX11 0 rfl 0 (by decide) m_fl_RX11_10 rfl dX11_trees_1 ?_
  refine lv_iload_n hx hb dX11_trees_4 rfl (lv_at hl 1 rfl) ?_
  refine z_Vq (bc := [[(t0, .inr (8, [.ref a1p, .int 0, .int 0, .int (-1), .ref a2p, .ref a3p, .ref a4p, .ref a5p]))], [(a2p, .inl (T.2 0, 3, .inl (fun _ => 0)))]]) (br := [[(x, .inr (10, [.ref t0, .ref ia, .ref im, .ref rd, .ref po, .ref co, .ref tr, .ref wa, .ref wb, .ref fi, .ref cd]))]]) (As := [.int p1]) (rest := []) C G (c_landAt0 l T t0 a1p a2p a3p a4p a5p 0 0 (-1) p1) (kV_RX11_121 C.2.2.2.2 (Nat.le_of_ble_eq_true rfl) (Nat.le_of_ble_eq_true rfl)) [1, 2] [0] rfl rfl (ci := 8) (qc := (RX9, TX9, 8)) rfl rfl (List.mem_flatten.mpr ⟨_, List.mem_of_getElem? (i := 0) rfl, List.mem_cons_self⟩) rfl rfl hl.1 dX11_trees_5 (Nat.le_of_ble_eq_true rfl) (Nat.le_of_ble_eq_true rfl) (fun r_2 b1 H locs hw G => ?_)
  obtain ⟨rfl, h_1⟩ := hw
  have G : zS T A s.heap s [[(x, .inr (10, [.ref t0, .ref ia, .ref im, .ref rd, .ref po, .ref co, .ref tr, .ref wa, .ref wb, .ref fi, .ref cd]))], [(t0, .inr (8, [.ref a1p, .int 0, .int 0, .int (-1), .ref a2p, .ref a3p, .ref a4p, .ref a5p]))], [(a2p, .inl (T.2 0, 3, .inl (fun _ => 0)))]] _ _ := G
  subst h_1
  refine lv_astore_nN (lv' := [(2, .null), (0, .ref x), (1, .int p1)]) hx hb dX11_trees_8 rfl hl (by decide) rfl (fun ls hl => ?_)
  refine lv_aload_nN hx hb dX11_trees_9 rfl (lv_at hl 0 rfl) ?_
  refine lv_ifnonnullN hx hb dX11_trees_10 ?_
  refine lv_iconst (v := (-1)) hx hb dX11_trees_13 (by decide) ?_
  have G := G.sub (bs' := []) [] rfl
  exact z_iret C hr hlocks G (Nat.le_of_ble_eq_true rfl) (Nat.le_of_ble_eq_true rfl) dX11_trees_14 ⟨rfl, rfl⟩
set_option maxHeartbeats 4000000 in
set_option maxRecDepth 100000 in
/-- game: on a new object -/
theorem c_x_game (l : Launch) (T : zTy) (x : Nat) (t0 : Nat) (ia : Nat) (im : Nat) (rd : Nat) (po : Nat) (co : Nat) (tr : Nat) (wa : Nat) (wb : Nat) (fi : Nat) (cd : Nat) (a1p : Nat) (a2p : Nat) (a3p : Nat) (a4p : Nat) (a5p : Nat) (p1 : Int32) (p2 : Int32) (p3 : Int32) (p4 : Int32) : zMi l T yX11_game cX11_game 9 (some .int) 5 0 0 [.ref x, .int p1, .int p2, .int p3, .int p4] [[(x, .inr (10, [.ref t0, .ref ia, .ref im, .ref rd, .ref po, .ref co, .ref tr, .ref wa, .ref wb, .ref fi, .ref cd]))], [(t0, .inr (8, [.ref a1p, .int 0, .int 0, .int (-1), .ref a2p, .ref a3p, .ref a4p, .ref a5p]))], [(a2p, .inl (T.2 0, 3, .inl (fun _ => 0)))]] (fun (r : Int32) bs => bs = [] ∧ r = (-9)) := by
  refine zMi_of (own := RX11) (by decide) rfl (Nat.le_of_ble_eq_true rfl) ?_
  intro p e s m args below meth c A ls C hr hlocks hnm hAe G hl
  have hx := C.1
  have hb := C.2.1
  have hl : lv_has ls 9 [(0, .ref x), (1, .int p1), (2, .int p2), (3, .int p3), (4, .int p4)] := hl
  refine lv_aload_n hx hb dX11_game_0 rfl (lv_at hl 0 rfl) ?_
  refine z_get C G clX11 0 rfl 0 (by decide) m_fl_RX11_10 rfl dX11_game_1 ?_
  refine lv_iload_n hx hb dX11_game_4 rfl (lv_at hl 1 rfl) ?_
  refine z_Vq (bc := [[(t0, .inr (8, [.ref a1p, .int 0, .int 0, .int (-1), .ref a2p, .ref a3p, .ref a4p, .ref a5p]))], [(a2p, .inl (T.2 0, 3, .inl (fun _ => 0)))]]) (br := [[(x, .inr (10, [.ref t0, .ref ia, .ref im, .ref rd, .ref po, .ref co, .ref tr, .ref wa, .ref wb, .ref fi, .ref cd]))]]) (As := [.int p1]) (rest := []) C G (c_landAt0 l T t0 a1p a2p a3p a4p a5p 0 0 (-1) p1) (kV_RX11_121 C.2.2.2.2 (Nat.le_of_ble_eq_true rfl) (Nat.le_of_ble_eq_true rfl)) [1, 2] [0] rfl rfl (ci := 8) (qc := (RX9, TX9, 8)) rfl rfl (List.mem_flatten.mpr ⟨_, List.mem_of_getElem? (i := 0) rfl, List.mem_cons_self⟩) rfl rfl hl.1 dX11_game_5 (Nat.le_of_ble_eq_true rfl) (Nat.le_of_ble_eq_true rfl) (fun r_2 b1 H locs hw G => ?_)
  obtain ⟨rfl, h_1⟩ := hw
  have G : zS T A s.heap s [[(x, .inr (10, [.ref t0, .ref ia, .ref im, .ref rd, .ref po, .ref co, .ref tr, .ref wa, .ref wb, .ref fi, .ref cd]))], [(t0, .inr (8, [.ref a1p, .int 0, .int 0, .int (-1), .ref a2p, .ref a3p, .ref a4p, .ref a5p]))], [(a2p, .inl (T.2 0, 3, .inl (fun _ => 0)))]] _ _ := G
  subst h_1
  refine lv_astoreN (lv' := [(5, .null), (0, .ref x), (1, .int p1), (2, .int p2), (3, .int p3), (4, .int p4)]) hx hb dX11_game_8 hl (by decide) rfl (fun ls hl => ?_)
  refine lv_aloadN hx hb dX11_game_10 (lv_at hl 0 rfl) ?_
  refine lv_ifnullN (tgt := 33) hx hb dX11_game_12 (by decide) ?_
  refine lv_bipush (v := (-9)) hx hb dX11_game_33 (by decide) ?_
  have G := G.sub (bs' := []) [] rfl
  exact z_iret C hr hlocks G (Nat.le_of_ble_eq_true rfl) (Nat.le_of_ble_eq_true rfl) dX11_game_35 ⟨rfl, rfl⟩
set_option maxHeartbeats 4000000 in
set_option maxRecDepth 100000 in
/-- fact: on a new object -/
theorem c_x_fact (l : Launch) (T : zTy) (x : Nat) (t0 : Nat) (ia : Nat) (im : Nat) (rd : Nat) (po : Nat) (co : Nat) (tr : Nat) (wa : Nat) (wb : Nat) (fi : Nat) (cd : Nat) (a1p : Nat) (a2p : Nat) (a3p : Nat) (a4p : Nat) (a5p : Nat) (p1 : Int32) (p2 : Int32) (p3 : Int32) : zMi l T yX11_fact cX11_fact 5 (some .int) 5 0 0 [.ref x, .int p1, .int p2, .int p3] [[(x, .inr (10, [.ref t0, .ref ia, .ref im, .ref rd, .ref po, .ref co, .ref tr, .ref wa, .ref wb, .ref fi, .ref cd]))], [(t0, .inr (8, [.ref a1p, .int 0, .int 0, .int (-1), .ref a2p, .ref a3p, .ref a4p, .ref a5p]))], [(a2p, .inl (T.2 0, 3, .inl (fun _ => 0)))]] (fun (r : Int32) bs => bs = [] ∧ r = (-2)) := by
  refine zMi_of (own := RX11) (by decide) rfl (Nat.le_of_ble_eq_true rfl) ?_
  intro p e s m args below meth c A ls C hr hlocks hnm hAe G hl
  have hx := C.1
  have hb := C.2.1
  have hl : lv_has ls 5 [(0, .ref x), (1, .int p1), (2, .int p2), (3, .int p3)] := hl
  refine lv_aload_n hx hb dX11_fact_0 rfl (lv_at hl 0 rfl) ?_
  refine z_get C G clX11 0 rfl 0 (by decide) m_fl_RX11_10 rfl dX11_fact_1 ?_
  refine lv_iload_n hx hb dX11_fact_4 rfl (lv_at hl 1 rfl) ?_
  refine z_Vq (bc := [[(t0, .inr (8, [.ref a1p, .int 0, .int 0, .int (-1), .ref a2p, .ref a3p, .ref a4p, .ref a5p]))], [(a2p, .inl (T.2 0, 3, .inl (fun _ => 0)))]]) (br := [[(x, .inr (10, [.ref t0, .ref ia, .ref im, .ref rd, .ref po, .ref co, .ref tr, .ref wa, .ref wb, .ref fi, .ref cd]))]]) (As := [.int p1]) (rest := []) C G (c_logAt0 l T t0 a1p a2p a3p a4p a5p 0 0 (-1) p1) (kV_RX11_138 C.2.2.2.2 (Nat.le_of_ble_eq_true rfl) (Nat.le_of_ble_eq_true rfl)) [1, 2] [0] rfl rfl (ci := 8) (qc := (RX9, TX9, 8)) rfl rfl (List.mem_flatten.mpr ⟨_, List.mem_of_getElem? (i := 0) rfl, List.mem_cons_self⟩) rfl rfl hl.1 dX11_fact_5 (Nat.le_of_ble_eq_true rfl) (Nat.le_of_ble_eq_true rfl) (fun r_2 b1 H locs hw G => ?_)
  obtain ⟨rfl, h_1⟩ := hw
  have G : zS T A s.heap s [[(x, .inr (10, [.ref t0, .ref ia, .ref im, .ref rd, .ref po, .ref co, .ref tr, .ref wa, .ref wb, .ref fi, .ref cd]))], [(t0, .inr (8, [.ref a1p, .int 0, .int 0, .int (-1), .ref a2p, .ref a3p, .ref a4p, .ref a5p]))], [(a2p, .inl (T.2 0, 3, .inl (fun _ => 0)))]] _ _ := G
  subst h_1
  refine lv_astoreN (lv' := [(4, .null), (0, .ref x), (1, .int p1), (2, .int p2), (3, .int p3)]) hx hb dX11_fact_8 hl (by decide) rfl (fun ls hl => ?_)
  refine lv_aloadN hx hb dX11_fact_10 (lv_at hl 0 rfl) ?_
  refine lv_ifnonnullN hx hb dX11_fact_12 ?_
  refine lv_bipush (v := (-2)) hx hb dX11_fact_15 (by decide) ?_
  refine lv_goto (tgt := 27) hx hb dX11_fact_17 (by decide) ?_
  have G := G.sub (bs' := []) [] rfl
  exact z_iret C hr hlocks G (Nat.le_of_ble_eq_true rfl) (Nat.le_of_ble_eq_true rfl) dX11_fact_27 ⟨rfl, rfl⟩
set_option maxHeartbeats 4000000 in
set_option maxRecDepth 100000 in
/-- fits: on a new object -/
theorem c_x_fits (l : Launch) (T : zTy) (x : Nat) (t0 : Nat) (ia : Nat) (im : Nat) (rd : Nat) (po : Nat) (co : Nat) (tr : Nat) (wa : Nat) (wb : Nat) (fi : Nat) (cd : Nat) (a1p : Nat) (a2p : Nat) (a3p : Nat) (a4p : Nat) (a5p : Nat) (p1 : Int32) (p2 : Int32) (p3 : Int32) : zMi l T yX11_fits cX11_fits 7 (some .int) 5 0 0 [.ref x, .int p1, .int p2, .int p3] [[(x, .inr (10, [.ref t0, .ref ia, .ref im, .ref rd, .ref po, .ref co, .ref tr, .ref wa, .ref wb, .ref fi, .ref cd]))], [(t0, .inr (8, [.ref a1p, .int 0, .int 0, .int (-1), .ref a2p, .ref a3p, .ref a4p, .ref a5p]))], [(a2p, .inl (T.2 0, 3, .inl (fun _ => 0)))]] (fun (r : Int32) bs => bs = [] ∧ r = (-2)) := by
  refine zMi_of (own := RX11) (by decide) rfl (Nat.le_of_ble_eq_true rfl) ?_
  intro p e s m args below meth c A ls C hr hlocks hnm hAe G hl
  have hx := C.1
  have hb := C.2.1
  have hl : lv_has ls 7 [(0, .ref x), (1, .int p1), (2, .int p2), (3, .int p3)] := hl
  refine lv_aload_n hx hb dX11_fits_0 rfl (lv_at hl 0 rfl) ?_
  refine z_get C G clX11 0 rfl 0 (by decide) m_fl_RX11_10 rfl dX11_fits_1 ?_
  refine lv_iload_n hx hb dX11_fits_4 rfl (lv_at hl 1 rfl) ?_
  refine z_Vq (bc := [[(t0, .inr (8, [.ref a1p, .int 0, .int 0, .int (-1), .ref a2p, .ref a3p, .ref a4p, .ref a5p]))], [(a2p, .inl (T.2 0, 3, .inl (fun _ => 0)))]]) (br := [[(x, .inr (10, [.ref t0, .ref ia, .ref im, .ref rd, .ref po, .ref co, .ref tr, .ref wa, .ref wb, .ref fi, .ref cd]))]]) (As := [.int p1]) (rest := []) C G (c_landAt0 l T t0 a1p a2p a3p a4p a5p 0 0 (-1) p1) (kV_RX11_121 C.2.2.2.2 (Nat.le_of_ble_eq_true rfl) (Nat.le_of_ble_eq_true rfl)) [1, 2] [0] rfl rfl (ci := 8) (qc := (RX9, TX9, 8)) rfl rfl (List.mem_flatten.mpr ⟨_, List.mem_of_getElem? (i := 0) rfl, List.mem_cons_self⟩) rfl rfl hl.1 dX11_fits_5 (Nat.le_of_ble_eq_true rfl) (Nat.le_of_ble_eq_true rfl) (fun r_2 b1 H locs hw G => ?_)
  obtain ⟨rfl, h_1⟩ := hw
  have G : zS T A s.heap s [[(x, .inr (10, [.ref t0, .ref ia, .ref im, .ref rd, .ref po, .ref co, .ref tr, .ref wa, .ref wb, .ref fi, .ref cd]))], [(t0, .inr (8, [.ref a1p, .int 0, .int 0, .int (-1), .ref a2p, .ref a3p, .ref a4p, .ref a5p]))], [(a2p, .inl (T.2 0, 3, .inl (fun _ => 0)))]] _ _ := G
  subst h_1
  refine lv_astoreN (lv' := [(4, .null), (0, .ref x), (1, .int p1), (2, .int p2), (3, .int p3)]) hx hb dX11_fits_8 hl (by decide) rfl (fun ls hl => ?_)
  refine lv_aload_n hx hb dX11_fits_10 rfl (lv_at hl 1 rfl) ?_
  refine lv_iload_n hx hb dX11_fits_11 rfl (lv_at hl 2 rfl) ?_
  refine lv_iload_n hx hb dX11_fits_12 rfl (lv_at hl 3 rfl) ?_
  refine z_Vi (bc := [[(x, .inr (10, [.ref t0, .ref ia, .ref im, .ref rd, .ref po, .ref co, .ref tr, .ref wa, .ref wb, .ref fi, .ref cd]))], [(t0, .inr (8, [.ref a1p, .int 0, .int 0, .int (-1), .ref a2p, .ref a3p, .ref a4p, .ref a5p]))], [(a2p, .inl (T.2 0, 3, .inl (fun _ => 0)))]]) (br := []) (As := [.int p1, .int p2]) (rest := []) C G (c_x_fit l T x t0 ia im rd po co tr wa wb fi cd a1p a2p a3p a4p a5p p1 p2) (kV_RX11_302 C.2.2.2.2 (Nat.le_of_ble_eq_true rfl) (Nat.le_of_ble_eq_true rfl)) [0, 1, 2] [] rfl rfl (ci := 10) (qc := (RX11, TX11, 11)) rfl rfl (List.mem_flatten.mpr ⟨_, List.mem_of_getElem? (i := 0) rfl, List.mem_cons_self⟩) rfl rfl hl.1 dX11_fits_13 (Nat.le_of_ble_eq_true rfl) (Nat.le_of_ble_eq_true rfl) (fun r_4 b1 H locs hw G => ?_)
  obtain ⟨rfl, h_3⟩ := hw
  have G : zS T A s.heap s [[(x, .inr (10, [.ref t0, .ref ia, .ref im, .ref rd, .ref po, .ref co, .ref tr, .ref wa, .ref wb, .ref fi, .ref cd]))], [(t0, .inr (8, [.ref a1p, .int 0, .int 0, .int (-1), .ref a2p, .ref a3p, .ref a4p, .ref a5p]))], [(a2p, .inl (T.2 0, 3, .inl (fun _ => 0)))]] _ _ := G
  subst h_3
  refine lv_if_eq (tgt := 28) hx hb dX11_fits_16 (by decide) (fun _ => ?_) (fun q => absurd (by decide) q)
  refine lv_bipush (v := (-2)) hx hb dX11_fits_28 (by decide) ?_
  have G := G.sub (bs' := []) [] rfl
  exact z_iret C hr hlocks G (Nat.le_of_ble_eq_true rfl) (Nat.le_of_ble_eq_true rfl) dX11_fits_30 ⟨rfl, rfl⟩
set_option maxHeartbeats 4000000 in
set_option maxRecDepth 100000 in
/-- drawn: on a new object -/
theorem c_x_drawn (l : Launch) (T : zTy) (x : Nat) (t0 : Nat) (ia : Nat) (im : Nat) (rd : Nat) (po : Nat) (co : Nat) (tr : Nat) (wa : Nat) (wb : Nat) (fi : Nat) (cd : Nat) (a1p : Nat) (a2p : Nat) (a3p : Nat) (a4p : Nat) (a5p : Nat) (p1 : Int32) (p2 : Int32) (p3 : Int32) (p4 : Int32) : zMi l T yX11_drawn cX11_drawn 6 (some .int) 5 0 0 [.ref x, .int p1, .int p2, .int p3, .int p4] [[(x, .inr (10, [.ref t0, .ref ia, .ref im, .ref rd, .ref po, .ref co, .ref tr, .ref wa, .ref wb, .ref fi, .ref cd]))], [(t0, .inr (8, [.ref a1p, .int 0, .int 0, .int (-1), .ref a2p, .ref a3p, .ref a4p, .ref a5p]))], [(a2p, .inl (T.2 0, 3, .inl (fun _ => 0)))]] (fun (r : Int32) bs => bs = [] ∧ r = (-2)) := by
  refine zMi_of (own := RX11) (by decide) rfl (Nat.le_of_ble_eq_true rfl) ?_
  intro p e s m args below meth c A ls C hr hlocks hnm hAe G hl
  have hx := C.1
  have hb := C.2.1
  have hl : lv_has ls 6 [(0, .ref x), (1, .int p1), (2, .int p2), (3, .int p3), (4, .int p4)] := hl
  refine lv_aload_n hx hb dX11_drawn_0 rfl (lv_at hl 0 rfl) ?_
  refine z_get C G clX11 0 rfl 0 (by decide) m_fl_RX11_10 rfl dX11_drawn_1 ?_
  refine lv_iload_n hx hb dX11_drawn_4 rfl (lv_at hl 1 rfl) ?_
  refine z_Vq (bc := [[(t0, .inr (8, [.ref a1p, .int 0, .int 0, .int (-1), .ref a2p, .ref a3p, .ref a4p, .ref a5p]))], [(a2p, .inl (T.2 0, 3, .inl (fun _ => 0)))]]) (br := [[(x, .inr (10, [.ref t0, .ref ia, .ref im, .ref rd, .ref po, .ref co, .ref tr, .ref wa, .ref wb, .ref fi, .ref cd]))]]) (As := [.int p1]) (rest := []) C G (c_landAt0 l T t0 a1p a2p a3p a4p a5p 0 0 (-1) p1) (kV_RX11_121 C.2.2.2.2 (Nat.le_of_ble_eq_true rfl) (Nat.le_of_ble_eq_true rfl)) [1, 2] [0] rfl rfl (ci := 8) (qc := (RX9, TX9, 8)) rfl rfl (List.mem_flatten.mpr ⟨_, List.mem_of_getElem? (i := 0) rfl, List.mem_cons_self⟩) rfl rfl hl.1 dX11_drawn_5 (Nat.le_of_ble_eq_true rfl) (Nat.le_of_ble_eq_true rfl) (fun r_2 b1 H locs hw G => ?_)
  obtain ⟨rfl, h_1⟩ := hw
  have G : zS T A s.heap s [[(x, .inr (10, [.ref t0, .ref ia, .ref im, .ref rd, .ref po, .ref co, .ref tr, .ref wa, .ref wb, .ref fi, .ref cd]))], [(t0, .inr (8, [.ref a1p, .int 0, .int 0, .int (-1), .ref a2p, .ref a3p, .ref a4p, .ref a5p]))], [(a2p, .inl (T.2 0, 3, .inl (fun _ => 0)))]] _ _ := G
  subst h_1
  refine lv_astoreN (lv' := [(5, .null), (0, .ref x), (1, .int p1), (2, .int p2), (3, .int p3), (4, .int p4)]) hx hb dX11_drawn_8 hl (by decide) rfl (fun ls hl => ?_)
  refine lv_aloadN hx hb dX11_drawn_10 (lv_at hl 0 rfl) ?_
  refine lv_ifnullN (tgt := 25) hx hb dX11_drawn_12 (by decide) ?_
  refine lv_bipush (v := (-2)) hx hb dX11_drawn_25 (by decide) ?_
  have G := G.sub (bs' := []) [] rfl
  exact z_iret C hr hlocks G (Nat.le_of_ble_eq_true rfl) (Nat.le_of_ble_eq_true rfl) dX11_drawn_27 ⟨rfl, rfl⟩
set_option maxHeartbeats 4000000 in
set_option maxRecDepth 100000 in
/-- far: on a new object -/
theorem c_x_far (l : Launch) (T : zTy) (x : Nat) (t0 : Nat) (ia : Nat) (im : Nat) (rd : Nat) (po : Nat) (co : Nat) (tr : Nat) (wa : Nat) (wb : Nat) (fi : Nat) (cd : Nat) (a1p : Nat) (a2p : Nat) (a3p : Nat) (a4p : Nat) (a5p : Nat) (p1 : Int32) (p2 : Int32) (p3 : Int32) : zMi l T yX11_far cX11_far 5 (some .int) 5 0 0 [.ref x, .int p1, .int p2, .int p3] [[(x, .inr (10, [.ref t0, .ref ia, .ref im, .ref rd, .ref po, .ref co, .ref tr, .ref wa, .ref wb, .ref fi, .ref cd]))], [(t0, .inr (8, [.ref a1p, .int 0, .int 0, .int (-1), .ref a2p, .ref a3p, .ref a4p, .ref a5p]))], [(a2p, .inl (T.2 0, 3, .inl (fun _ => 0)))]] (fun (r : Int32) bs => bs = [] ∧ r = (-1)) := by
  refine zMi_of (own := RX11) (by decide) rfl (Nat.le_of_ble_eq_true rfl) ?_
  intro p e s m args below meth c A ls C hr hlocks hnm hAe G hl
  have hx := C.1
  have hb := C.2.1
  have hl : lv_has ls 5 [(0, .ref x), (1, .int p1), (2, .int p2), (3, .int p3)] := hl
  refine lv_aload_n hx hb dX11_far_0 rfl (lv_at hl 0 rfl) ?_
  refine z_get C G clX11 0 rfl 0 (by decide) m_fl_RX11_10 rfl dX11_far_1 ?_
  refine lv_iload_n hx hb dX11_far_4 rfl (lv_at hl 1 rfl) ?_
  refine z_Vq (bc := [[(t0, .inr (8, [.ref a1p, .int 0, .int 0, .int (-1), .ref a2p, .ref a3p, .ref a4p, .ref a5p]))], [(a2p, .inl (T.2 0, 3, .inl (fun _ => 0)))]]) (br := [[(x, .inr (10, [.ref t0, .ref ia, .ref im, .ref rd, .ref po, .ref co, .ref tr, .ref wa, .ref wb, .ref fi, .ref cd]))]]) (As := [.int p1]) (rest := []) C G (c_landAt0 l T t0 a1p a2p a3p a4p a5p 0 0 (-1) p1) (kV_RX11_121 C.2.2.2.2 (Nat.le_of_ble_eq_true rfl) (Nat.le_of_ble_eq_true rfl)) [1, 2] [0] rfl rfl (ci := 8) (qc := (RX9, TX9, 8)) rfl rfl (List.mem_flatten.mpr ⟨_, List.mem_of_getElem? (i := 0) rfl, List.mem_cons_self⟩) rfl rfl hl.1 dX11_far_5 (Nat.le_of_ble_eq_true rfl) (Nat.le_of_ble_eq_true rfl) (fun r_2 b1 H locs hw G => ?_)
  obtain ⟨rfl, h_1⟩ := hw
  have G : zS T A s.heap s [[(x, .inr (10, [.ref t0, .ref ia, .ref im, .ref rd, .ref po, .ref co, .ref tr, .ref wa, .ref wb, .ref fi, .ref cd]))], [(t0, .inr (8, [.ref a1p, .int 0, .int 0, .int (-1), .ref a2p, .ref a3p, .ref a4p, .ref a5p]))], [(a2p, .inl (T.2 0, 3, .inl (fun _ => 0)))]] _ _ := G
  subst h_1
  refine lv_astoreN (lv' := [(4, .null), (0, .ref x), (1, .int p1), (2, .int p2), (3, .int p3)]) hx hb dX11_far_8 hl (by decide) rfl (fun ls hl => ?_)
  refine lv_aloadN hx hb dX11_far_10 (lv_at hl 0 rfl) ?_
  refine lv_ifnullN (tgt := 33) hx hb dX11_far_12 (by decide) ?_
  refine lv_iconst (v := (-1)) hx hb dX11_far_33 (by decide) ?_
  refine lv_goto (tgt := 44) hx hb dX11_far_34 (by decide) ?_
  have G := G.sub (bs' := []) [] rfl
  exact z_iret C hr hlocks G (Nat.le_of_ble_eq_true rfl) (Nat.le_of_ble_eq_true rfl) dX11_far_44 ⟨rfl, rfl⟩
set_option maxHeartbeats 4000000 in
set_option maxRecDepth 100000 in
/-- reach: on a new object -/
theorem c_x_reach (l : Launch) (T : zTy) (x : Nat) (t0 : Nat) (ia : Nat) (im : Nat) (rd : Nat) (po : Nat) (co : Nat) (tr : Nat) (wa : Nat) (wb : Nat) (fi : Nat) (cd : Nat) (a1p : Nat) (a2p : Nat) (a3p : Nat) (a4p : Nat) (a5p : Nat) (p1 : Int32) (p2 : Int32) (p3 : Int32) : zMi l T yX11_reach cX11_reach 5 (some .int) 5 0 0 [.ref x, .int p1, .int p2, .int p3] [[(x, .inr (10, [.ref t0, .ref ia, .ref im, .ref rd, .ref po, .ref co, .ref tr, .ref wa, .ref wb, .ref fi, .ref cd]))], [(t0, .inr (8, [.ref a1p, .int 0, .int 0, .int (-1), .ref a2p, .ref a3p, .ref a4p, .ref a5p]))], [(a2p, .inl (T.2 0, 3, .inl (fun _ => 0)))]] (fun (r : Int32) bs => bs = [] ∧ r = (-2)) := by
  refine zMi_of (own := RX11) (by decide) rfl (Nat.le_of_ble_eq_true rfl) ?_
  intro p e s m args below meth c A ls C hr hlocks hnm hAe G hl
  have hx := C.1
  have hb := C.2.1
  have hl : lv_has ls 5 [(0, .ref x), (1, .int p1), (2, .int p2), (3, .int p3)] := hl
  refine lv_aload_n hx hb dX11_reach_0 rfl (lv_at hl 0 rfl) ?_
  refine z_get C G clX11 0 rfl 0 (by decide) m_fl_RX11_10 rfl dX11_reach_1 ?_
  refine lv_iload_n hx hb dX11_reach_4 rfl (lv_at hl 1 rfl) ?_
  refine z_Vq (bc := [[(t0, .inr (8, [.ref a1p, .int 0, .int 0, .int (-1), .ref a2p, .ref a3p, .ref a4p, .ref a5p]))], [(a2p, .inl (T.2 0, 3, .inl (fun _ => 0)))]]) (br := [[(x, .inr (10, [.ref t0, .ref ia, .ref im, .ref rd, .ref po, .ref co, .ref tr, .ref wa, .ref wb, .ref fi, .ref cd]))]]) (As := [.int p1]) (rest := []) C G (c_landAt0 l T t0 a1p a2p a3p a4p a5p 0 0 (-1) p1) (kV_RX11_121 C.2.2.2.2 (Nat.le_of_ble_eq_true rfl) (Nat.le_of_ble_eq_true rfl)) [1, 2] [0] rfl rfl (ci := 8) (qc := (RX9, TX9, 8)) rfl rfl (List.mem_flatten.mpr ⟨_, List.mem_of_getElem? (i := 0) rfl, List.mem_cons_self⟩) rfl rfl hl.1 dX11_reach_5 (Nat.le_of_ble_eq_true rfl) (Nat.le_of_ble_eq_true rfl) (fun r_2 b1 H locs hw G => ?_)
  obtain ⟨rfl, h_1⟩ := hw
  have G : zS T A s.heap s [[(x, .inr (10, [.ref t0, .ref ia, .ref im, .ref rd, .ref po, .ref co, .ref tr, .ref wa, .ref wb, .ref fi, .ref cd]))], [(t0, .inr (8, [.ref a1p, .int 0, .int 0, .int (-1), .ref a2p, .ref a3p, .ref a4p, .ref a5p]))], [(a2p, .inl (T.2 0, 3, .inl (fun _ => 0)))]] _ _ := G
  subst h_1
  refine lv_astoreN (lv' := [(4, .null), (0, .ref x), (1, .int p1), (2, .int p2), (3, .int p3)]) hx hb dX11_reach_8 hl (by decide) rfl (fun ls hl => ?_)
  refine lv_aloadN hx hb dX11_reach_10 (lv_at hl 0 rfl) ?_
  refine lv_ifnullN (tgt := 33) hx hb dX11_reach_12 (by decide) ?_
  refine lv_bipush (v := (-2)) hx hb dX11_reach_33 (by decide) ?_
  have G := G.sub (bs' := []) [] rfl
  exact z_iret C hr hlocks G (Nat.le_of_ble_eq_true rfl) (Nat.le_of_ble_eq_true rfl) dX11_reach_35 ⟨rfl, rfl⟩
set_option maxHeartbeats 4000000 in
set_option maxRecDepth 100000 in
/-- classes: on a new object -/
theorem c_x_classes (l : Launch) (T : zTy) (x : Nat) (t0 : Nat) (ia : Nat) (im : Nat) (rd : Nat) (po : Nat) (co : Nat) (tr : Nat) (wa : Nat) (wb : Nat) (fi : Nat) (cd : Nat) (a1p : Nat) (a2p : Nat) (a3p : Nat) (a4p : Nat) (a5p : Nat) (p1 : Int32) (p2 : Int32) : zMi l T yX11_classes cX11_classes 4 (some .int) 5 0 0 [.ref x, .int p1, .int p2] [[(x, .inr (10, [.ref t0, .ref ia, .ref im, .ref rd, .ref po, .ref co, .ref tr, .ref wa, .ref wb, .ref fi, .ref cd]))], [(t0, .inr (8, [.ref a1p, .int 0, .int 0, .int (-1), .ref a2p, .ref a3p, .ref a4p, .ref a5p]))], [(a2p, .inl (T.2 0, 3, .inl (fun _ => 0)))]] (fun (r : Int32) bs => bs = [] ∧ r = (-2)) := by
  refine zMi_of (own := RX11) (by decide) rfl (Nat.le_of_ble_eq_true rfl) ?_
  intro p e s m args below meth c A ls C hr hlocks hnm hAe G hl
  have hx := C.1
  have hb := C.2.1
  have hl : lv_has ls 4 [(0, .ref x), (1, .int p1), (2, .int p2)] := hl
  refine lv_aload_n hx hb dX11_classes_0 rfl (lv_at hl 0 rfl) ?_
  refine z_get C G clX11 0 rfl 0 (by decide) m_fl_RX11_10 rfl dX11_classes_1 ?_
  refine lv_iload_n hx hb dX11_classes_4 rfl (lv_at hl 1 rfl) ?_
  refine z_Vq (bc := [[(t0, .inr (8, [.ref a1p, .int 0, .int 0, .int (-1), .ref a2p, .ref a3p, .ref a4p, .ref a5p]))], [(a2p, .inl (T.2 0, 3, .inl (fun _ => 0)))]]) (br := [[(x, .inr (10, [.ref t0, .ref ia, .ref im, .ref rd, .ref po, .ref co, .ref tr, .ref wa, .ref wb, .ref fi, .ref cd]))]]) (As := [.int p1]) (rest := []) C G (c_landAt0 l T t0 a1p a2p a3p a4p a5p 0 0 (-1) p1) (kV_RX11_121 C.2.2.2.2 (Nat.le_of_ble_eq_true rfl) (Nat.le_of_ble_eq_true rfl)) [1, 2] [0] rfl rfl (ci := 8) (qc := (RX9, TX9, 8)) rfl rfl (List.mem_flatten.mpr ⟨_, List.mem_of_getElem? (i := 0) rfl, List.mem_cons_self⟩) rfl rfl hl.1 dX11_classes_5 (Nat.le_of_ble_eq_true rfl) (Nat.le_of_ble_eq_true rfl) (fun r_2 b1 H locs hw G => ?_)
  obtain ⟨rfl, h_1⟩ := hw
  have G : zS T A s.heap s [[(x, .inr (10, [.ref t0, .ref ia, .ref im, .ref rd, .ref po, .ref co, .ref tr, .ref wa, .ref wb, .ref fi, .ref cd]))], [(t0, .inr (8, [.ref a1p, .int 0, .int 0, .int (-1), .ref a2p, .ref a3p, .ref a4p, .ref a5p]))], [(a2p, .inl (T.2 0, 3, .inl (fun _ => 0)))]] _ _ := G
  subst h_1
  refine lv_astore_nN (lv' := [(3, .null), (0, .ref x), (1, .int p1), (2, .int p2)]) hx hb dX11_classes_8 rfl hl (by decide) rfl (fun ls hl => ?_)
  refine lv_aload_nN hx hb dX11_classes_9 rfl (lv_at hl 0 rfl) ?_
  refine lv_ifnonnullN hx hb dX11_classes_10 ?_
  refine lv_bipush (v := (-2)) hx hb dX11_classes_13 (by decide) ?_
  have G := G.sub (bs' := []) [] rfl
  exact z_iret C hr hlocks G (Nat.le_of_ble_eq_true rfl) (Nat.le_of_ble_eq_true rfl) dX11_classes_15 ⟨rfl, rfl⟩
set_option maxHeartbeats 4000000 in
set_option maxRecDepth 100000 in
/-- led: on a new object -/
theorem c_x_led (l : Launch) (T : zTy) (x : Nat) (t0 : Nat) (ia : Nat) (im : Nat) (rd : Nat) (po : Nat) (co : Nat) (tr : Nat) (wa : Nat) (wb : Nat) (fi : Nat) (cd : Nat) (a1p : Nat) (a2p : Nat) (a3p : Nat) (a4p : Nat) (a5p : Nat) (p1 : Int32) (p2 : Int32) (p3 : Int32) : zMi l T yX11_led cX11_led 7 (some .int) 5 0 0 [.ref x, .int p1, .int p2, .int p3] [[(x, .inr (10, [.ref t0, .ref ia, .ref im, .ref rd, .ref po, .ref co, .ref tr, .ref wa, .ref wb, .ref fi, .ref cd]))], [(t0, .inr (8, [.ref a1p, .int 0, .int 0, .int (-1), .ref a2p, .ref a3p, .ref a4p, .ref a5p]))], [(a2p, .inl (T.2 0, 3, .inl (fun _ => 0)))]] (fun (r : Int32) bs => bs = [] ∧ r = (-2)) := by
  refine zMi_of (own := RX11) (by decide) rfl (Nat.le_of_ble_eq_true rfl) ?_
  intro p e s m args below meth c A ls C hr hlocks hnm hAe G hl
  have hx := C.1
  have hb := C.2.1
  have hl : lv_has ls 7 [(0, .ref x), (1, .int p1), (2, .int p2), (3, .int p3)] := hl
  refine lv_aload_n hx hb dX11_led_0 rfl (lv_at hl 0 rfl) ?_
  refine z_get C G clX11 0 rfl 0 (by decide) m_fl_RX11_10 rfl dX11_led_1 ?_
  refine lv_iload_n hx hb dX11_led_4 rfl (lv_at hl 1 rfl) ?_
  refine z_Vq (bc := [[(t0, .inr (8, [.ref a1p, .int 0, .int 0, .int (-1), .ref a2p, .ref a3p, .ref a4p, .ref a5p]))], [(a2p, .inl (T.2 0, 3, .inl (fun _ => 0)))]]) (br := [[(x, .inr (10, [.ref t0, .ref ia, .ref im, .ref rd, .ref po, .ref co, .ref tr, .ref wa, .ref wb, .ref fi, .ref cd]))]]) (As := [.int p1]) (rest := []) C G (c_landAt0 l T t0 a1p a2p a3p a4p a5p 0 0 (-1) p1) (kV_RX11_121 C.2.2.2.2 (Nat.le_of_ble_eq_true rfl) (Nat.le_of_ble_eq_true rfl)) [1, 2] [0] rfl rfl (ci := 8) (qc := (RX9, TX9, 8)) rfl rfl (List.mem_flatten.mpr ⟨_, List.mem_of_getElem? (i := 0) rfl, List.mem_cons_self⟩) rfl rfl hl.1 dX11_led_5 (Nat.le_of_ble_eq_true rfl) (Nat.le_of_ble_eq_true rfl) (fun r_2 b1 H locs hw G => ?_)
  obtain ⟨rfl, h_1⟩ := hw
  have G : zS T A s.heap s [[(x, .inr (10, [.ref t0, .ref ia, .ref im, .ref rd, .ref po, .ref co, .ref tr, .ref wa, .ref wb, .ref fi, .ref cd]))], [(t0, .inr (8, [.ref a1p, .int 0, .int 0, .int (-1), .ref a2p, .ref a3p, .ref a4p, .ref a5p]))], [(a2p, .inl (T.2 0, 3, .inl (fun _ => 0)))]] _ _ := G
  subst h_1
  refine lv_astoreN (lv' := [(4, .null), (0, .ref x), (1, .int p1), (2, .int p2), (3, .int p3)]) hx hb dX11_led_8 hl (by decide) rfl (fun ls hl => ?_)
  refine lv_aloadN hx hb dX11_led_10 (lv_at hl 0 rfl) ?_
  refine lv_ifnullN (tgt := 33) hx hb dX11_led_12 (by decide) ?_
  refine lv_bipush (v := (-2)) hx hb dX11_led_33 (by decide) ?_
  have G := G.sub (bs' := []) [] rfl
  exact z_iret C hr hlocks G (Nat.le_of_ble_eq_true rfl) (Nat.le_of_ble_eq_true rfl) dX11_led_35 ⟨rfl, rfl⟩
set_option maxHeartbeats 4000000 in
set_option maxRecDepth 100000 in
/-- cover: on a new object -/
theorem c_x_cover (l : Launch) (T : zTy) (x : Nat) (t0 : Nat) (ia : Nat) (im : Nat) (rd : Nat) (po : Nat) (co : Nat) (tr : Nat) (wa : Nat) (wb : Nat) (fi : Nat) (cd : Nat) (a1p : Nat) (a2p : Nat) (a3p : Nat) (a4p : Nat) (a5p : Nat) (p1 : Int32) (p2 : Int32) (p3 : Int32) : zMi l T yX11_cover cX11_cover 5 (some .int) 5 0 0 [.ref x, .int p1, .int p2, .int p3] [[(x, .inr (10, [.ref t0, .ref ia, .ref im, .ref rd, .ref po, .ref co, .ref tr, .ref wa, .ref wb, .ref fi, .ref cd]))], [(t0, .inr (8, [.ref a1p, .int 0, .int 0, .int (-1), .ref a2p, .ref a3p, .ref a4p, .ref a5p]))], [(a2p, .inl (T.2 0, 3, .inl (fun _ => 0)))]] (fun (r : Int32) bs => bs = [] ∧ r = (-2)) := by
  refine zMi_of (own := RX11) (by decide) rfl (Nat.le_of_ble_eq_true rfl) ?_
  intro p e s m args below meth c A ls C hr hlocks hnm hAe G hl
  have hx := C.1
  have hb := C.2.1
  have hl : lv_has ls 5 [(0, .ref x), (1, .int p1), (2, .int p2), (3, .int p3)] := hl
  refine lv_aload_n hx hb dX11_cover_0 rfl (lv_at hl 0 rfl) ?_
  refine z_get C G clX11 0 rfl 0 (by decide) m_fl_RX11_10 rfl dX11_cover_1 ?_
  refine lv_iload_n hx hb dX11_cover_4 rfl (lv_at hl 1 rfl) ?_
  refine z_Vq (bc := [[(t0, .inr (8, [.ref a1p, .int 0, .int 0, .int (-1), .ref a2p, .ref a3p, .ref a4p, .ref a5p]))], [(a2p, .inl (T.2 0, 3, .inl (fun _ => 0)))]]) (br := [[(x, .inr (10, [.ref t0, .ref ia, .ref im, .ref rd, .ref po, .ref co, .ref tr, .ref wa, .ref wb, .ref fi, .ref cd]))]]) (As := [.int p1]) (rest := []) C G (c_landAt0 l T t0 a1p a2p a3p a4p a5p 0 0 (-1) p1) (kV_RX11_121 C.2.2.2.2 (Nat.le_of_ble_eq_true rfl) (Nat.le_of_ble_eq_true rfl)) [1, 2] [0] rfl rfl (ci := 8) (qc := (RX9, TX9, 8)) rfl rfl (List.mem_flatten.mpr ⟨_, List.mem_of_getElem? (i := 0) rfl, List.mem_cons_self⟩) rfl rfl hl.1 dX11_cover_5 (Nat.le_of_ble_eq_true rfl) (Nat.le_of_ble_eq_true rfl) (fun r_2 b1 H locs hw G => ?_)
  obtain ⟨rfl, h_1⟩ := hw
  have G : zS T A s.heap s [[(x, .inr (10, [.ref t0, .ref ia, .ref im, .ref rd, .ref po, .ref co, .ref tr, .ref wa, .ref wb, .ref fi, .ref cd]))], [(t0, .inr (8, [.ref a1p, .int 0, .int 0, .int (-1), .ref a2p, .ref a3p, .ref a4p, .ref a5p]))], [(a2p, .inl (T.2 0, 3, .inl (fun _ => 0)))]] _ _ := G
  subst h_1
  refine lv_astoreN (lv' := [(4, .null), (0, .ref x), (1, .int p1), (2, .int p2), (3, .int p3)]) hx hb dX11_cover_8 hl (by decide) rfl (fun ls hl => ?_)
  refine lv_aloadN hx hb dX11_cover_10 (lv_at hl 0 rfl) ?_
  refine lv_ifnullN (tgt := 24) hx hb dX11_cover_12 (by decide) ?_
  refine lv_bipush (v := (-2)) hx hb dX11_cover_24 (by decide) ?_
  have G := G.sub (bs' := []) [] rfl
  exact z_iret C hr hlocks G (Nat.le_of_ble_eq_true rfl) (Nat.le_of_ble_eq_true rfl) dX11_cover_26 ⟨rfl, rfl⟩
set_option maxHeartbeats 4000000 in
set_option maxRecDepth 100000 in
/-- share: on a new object -/
theorem c_x_share (l : Launch) (T : zTy) (x : Nat) (t0 : Nat) (ia : Nat) (im : Nat) (rd : Nat) (po : Nat) (co : Nat) (tr : Nat) (wa : Nat) (wb : Nat) (fi : Nat) (cd : Nat) (a1p : Nat) (a2p : Nat) (a3p : Nat) (a4p : Nat) (a5p : Nat) (p1 : Int32) (p2 : Int32) (p3 : Int32) (p4 : Int32) : zMi l T yX11_share cX11_share 8 (some .int) 5 0 0 [.ref x, .int p1, .int p2, .int p3, .int p4] [[(x, .inr (10, [.ref t0, .ref ia, .ref im, .ref rd, .ref po, .ref co, .ref tr, .ref wa, .ref wb, .ref fi, .ref cd]))], [(t0, .inr (8, [.ref a1p, .int 0, .int 0, .int (-1), .ref a2p, .ref a3p, .ref a4p, .ref a5p]))], [(a2p, .inl (T.2 0, 3, .inl (fun _ => 0)))]] (fun (r : Int32) bs => bs = [] ∧ r = (-1)) := by
  refine zMi_of (own := RX11) (by decide) rfl (Nat.le_of_ble_eq_true rfl) ?_
  intro p e s m args below meth c A ls C hr hlocks hnm hAe G hl
  have hx := C.1
  have hb := C.2.1
  have hl : lv_has ls 8 [(0, .ref x), (1, .int p1), (2, .int p2), (3, .int p3), (4, .int p4)] := hl
  refine lv_aload_n hx hb dX11_share_0 rfl (lv_at hl 0 rfl) ?_
  refine z_get C G clX11 0 rfl 0 (by decide) m_fl_RX11_10 rfl dX11_share_1 ?_
  refine lv_iload_n hx hb dX11_share_4 rfl (lv_at hl 1 rfl) ?_
  refine z_Vq (bc := [[(t0, .inr (8, [.ref a1p, .int 0, .int 0, .int (-1), .ref a2p, .ref a3p, .ref a4p, .ref a5p]))], [(a2p, .inl (T.2 0, 3, .inl (fun _ => 0)))]]) (br := [[(x, .inr (10, [.ref t0, .ref ia, .ref im, .ref rd, .ref po, .ref co, .ref tr, .ref wa, .ref wb, .ref fi, .ref cd]))]]) (As := [.int p1]) (rest := []) C G (c_landAt0 l T t0 a1p a2p a3p a4p a5p 0 0 (-1) p1) (kV_RX11_121 C.2.2.2.2 (Nat.le_of_ble_eq_true rfl) (Nat.le_of_ble_eq_true rfl)) [1, 2] [0] rfl rfl (ci := 8) (qc := (RX9, TX9, 8)) rfl rfl (List.mem_flatten.mpr ⟨_, List.mem_of_getElem? (i := 0) rfl, List.mem_cons_self⟩) rfl rfl hl.1 dX11_share_5 (Nat.le_of_ble_eq_true rfl) (Nat.le_of_ble_eq_true rfl) (fun r_2 b1 H locs hw G => ?_)
  obtain ⟨rfl, h_1⟩ := hw
  have G : zS T A s.heap s [[(x, .inr (10, [.ref t0, .ref ia, .ref im, .ref rd, .ref po, .ref co, .ref tr, .ref wa, .ref wb, .ref fi, .ref cd]))], [(t0, .inr (8, [.ref a1p, .int 0, .int 0, .int (-1), .ref a2p, .ref a3p, .ref a4p, .ref a5p]))], [(a2p, .inl (T.2 0, 3, .inl (fun _ => 0)))]] _ _ := G
  subst h_1
  refine lv_astoreN (lv' := [(5, .null), (0, .ref x), (1, .int p1), (2, .int p2), (3, .int p3), (4, .int p4)]) hx hb dX11_share_8 hl (by decide) rfl (fun ls hl => ?_)
  refine lv_aloadN hx hb dX11_share_10 (lv_at hl 0 rfl) ?_
  refine lv_ifnullN (tgt := 44) hx hb dX11_share_12 (by decide) ?_
  refine lv_iconst (v := (-1)) hx hb dX11_share_44 (by decide) ?_
  have G := G.sub (bs' := []) [] rfl
  exact z_iret C hr hlocks G (Nat.le_of_ble_eq_true rfl) (Nat.le_of_ble_eq_true rfl) dX11_share_45 ⟨rfl, rfl⟩
set_option maxHeartbeats 4000000 in
set_option maxRecDepth 100000 in
/-- longest: on a new object -/
theorem c_x_longest (l : Launch) (T : zTy) (x : Nat) (t0 : Nat) (ia : Nat) (im : Nat) (rd : Nat) (po : Nat) (co : Nat) (tr : Nat) (wa : Nat) (wb : Nat) (fi : Nat) (cd : Nat) (a1p : Nat) (a2p : Nat) (a3p : Nat) (a4p : Nat) (a5p : Nat) (p1 : Int32) (p2 : Int32) (p3 : Int32) (p4 : Int32) : zMi l T yX11_longest cX11_longest 12 (some .int) 5 0 0 [.ref x, .int p1, .int p2, .int p3, .int p4] [[(x, .inr (10, [.ref t0, .ref ia, .ref im, .ref rd, .ref po, .ref co, .ref tr, .ref wa, .ref wb, .ref fi, .ref cd]))], [(t0, .inr (8, [.ref a1p, .int 0, .int 0, .int (-1), .ref a2p, .ref a3p, .ref a4p, .ref a5p]))], [(a2p, .inl (T.2 0, 3, .inl (fun _ => 0)))]] (fun (r : Int32) bs => bs = [] ∧ r = (-1)) := by
  refine zMi_of (own := RX11) (by decide) rfl (Nat.le_of_ble_eq_true rfl) ?_
  intro p e s m args below meth c A ls C hr hlocks hnm hAe G hl
  have hx := C.1
  have hb := C.2.1
  have hl : lv_has ls 12 [(0, .ref x), (1, .int p1), (2, .int p2), (3, .int p3), (4, .int p4)] := hl
  refine lv_aload_n hx hb dX11_longest_0 rfl (lv_at hl 0 rfl) ?_
  refine z_get C G clX11 0 rfl 0 (by decide) m_fl_RX11_10 rfl dX11_longest_1 ?_
  refine lv_iload_n hx hb dX11_longest_4 rfl (lv_at hl 1 rfl) ?_
  refine z_Vq (bc := [[(t0, .inr (8, [.ref a1p, .int 0, .int 0, .int (-1), .ref a2p, .ref a3p, .ref a4p, .ref a5p]))], [(a2p, .inl (T.2 0, 3, .inl (fun _ => 0)))]]) (br := [[(x, .inr (10, [.ref t0, .ref ia, .ref im, .ref rd, .ref po, .ref co, .ref tr, .ref wa, .ref wb, .ref fi, .ref cd]))]]) (As := [.int p1]) (rest := []) C G (c_landAt0 l T t0 a1p a2p a3p a4p a5p 0 0 (-1) p1) (kV_RX11_121 C.2.2.2.2 (Nat.le_of_ble_eq_true rfl) (Nat.le_of_ble_eq_true rfl)) [1, 2] [0] rfl rfl (ci := 8) (qc := (RX9, TX9, 8)) rfl rfl (List.mem_flatten.mpr ⟨_, List.mem_of_getElem? (i := 0) rfl, List.mem_cons_self⟩) rfl rfl hl.1 dX11_longest_5 (Nat.le_of_ble_eq_true rfl) (Nat.le_of_ble_eq_true rfl) (fun r_2 b1 H locs hw G => ?_)
  obtain ⟨rfl, h_1⟩ := hw
  have G : zS T A s.heap s [[(x, .inr (10, [.ref t0, .ref ia, .ref im, .ref rd, .ref po, .ref co, .ref tr, .ref wa, .ref wb, .ref fi, .ref cd]))], [(t0, .inr (8, [.ref a1p, .int 0, .int 0, .int (-1), .ref a2p, .ref a3p, .ref a4p, .ref a5p]))], [(a2p, .inl (T.2 0, 3, .inl (fun _ => 0)))]] _ _ := G
  subst h_1
  refine lv_astoreN (lv' := [(5, .null), (0, .ref x), (1, .int p1), (2, .int p2), (3, .int p3), (4, .int p4)]) hx hb dX11_longest_8 hl (by decide) rfl (fun ls hl => ?_)
  refine lv_aloadN hx hb dX11_longest_10 (lv_at hl 0 rfl) ?_
  refine lv_ifnullN (tgt := 24) hx hb dX11_longest_12 (by decide) ?_
  refine lv_iconst (v := (-1)) hx hb dX11_longest_24 (by decide) ?_
  have G := G.sub (bs' := []) [] rfl
  exact z_iret C hr hlocks G (Nat.le_of_ble_eq_true rfl) (Nat.le_of_ble_eq_true rfl) dX11_longest_25 ⟨rfl, rfl⟩
set_option maxHeartbeats 4000000 in
set_option maxRecDepth 100000 in
/-- back: on a new object -/
theorem c_x_back (l : Launch) (T : zTy) (x : Nat) (t0 : Nat) (ia : Nat) (im : Nat) (rd : Nat) (po : Nat) (co : Nat) (tr : Nat) (wa : Nat) (wb : Nat) (fi : Nat) (cd : Nat) (a1p : Nat) (a2p : Nat) (a3p : Nat) (a4p : Nat) (a5p : Nat) (p1 : Int32) (p2 : Int32) : zMi l T yX11_back cX11_back 8 (some .int) 5 0 0 [.ref x, .int p1, .int p2] [[(x, .inr (10, [.ref t0, .ref ia, .ref im, .ref rd, .ref po, .ref co, .ref tr, .ref wa, .ref wb, .ref fi, .ref cd]))], [(t0, .inr (8, [.ref a1p, .int 0, .int 0, .int (-1), .ref a2p, .ref a3p, .ref a4p, .ref a5p]))], [(a2p, .inl (T.2 0, 3, .inl (fun _ => 0)))]] (fun (r : Int32) bs => bs = [] ∧ r = (-1)) := by
  refine zMi_of (own := RX11) (by decide) rfl (Nat.le_of_ble_eq_true rfl) ?_
  intro p e s m args below meth c A ls C hr hlocks hnm hAe G hl
  have hx := C.1
  have hb := C.2.1
  have hl : lv_has ls 8 [(0, .ref x), (1, .int p1), (2, .int p2)] := hl
  refine lv_aload_n hx hb dX11_back_0 rfl (lv_at hl 0 rfl) ?_
  refine z_get C G clX11 0 rfl 0 (by decide) m_fl_RX11_10 rfl dX11_back_1 ?_
  refine lv_iload_n hx hb dX11_back_4 rfl (lv_at hl 1 rfl) ?_
  refine z_Vq (bc := [[(t0, .inr (8, [.ref a1p, .int 0, .int 0, .int (-1), .ref a2p, .ref a3p, .ref a4p, .ref a5p]))], [(a2p, .inl (T.2 0, 3, .inl (fun _ => 0)))]]) (br := [[(x, .inr (10, [.ref t0, .ref ia, .ref im, .ref rd, .ref po, .ref co, .ref tr, .ref wa, .ref wb, .ref fi, .ref cd]))]]) (As := [.int p1]) (rest := []) C G (c_landAt0 l T t0 a1p a2p a3p a4p a5p 0 0 (-1) p1) (kV_RX11_121 C.2.2.2.2 (Nat.le_of_ble_eq_true rfl) (Nat.le_of_ble_eq_true rfl)) [1, 2] [0] rfl rfl (ci := 8) (qc := (RX9, TX9, 8)) rfl rfl (List.mem_flatten.mpr ⟨_, List.mem_of_getElem? (i := 0) rfl, List.mem_cons_self⟩) rfl rfl hl.1 dX11_back_5 (Nat.le_of_ble_eq_true rfl) (Nat.le_of_ble_eq_true rfl) (fun r_2 b1 H locs hw G => ?_)
  obtain ⟨rfl, h_1⟩ := hw
  have G : zS T A s.heap s [[(x, .inr (10, [.ref t0, .ref ia, .ref im, .ref rd, .ref po, .ref co, .ref tr, .ref wa, .ref wb, .ref fi, .ref cd]))], [(t0, .inr (8, [.ref a1p, .int 0, .int 0, .int (-1), .ref a2p, .ref a3p, .ref a4p, .ref a5p]))], [(a2p, .inl (T.2 0, 3, .inl (fun _ => 0)))]] _ _ := G
  subst h_1
  refine lv_astore_nN (lv' := [(3, .null), (0, .ref x), (1, .int p1), (2, .int p2)]) hx hb dX11_back_8 rfl hl (by decide) rfl (fun ls hl => ?_)
  refine lv_aload_nN hx hb dX11_back_9 rfl (lv_at hl 0 rfl) ?_
  refine lv_ifnullN (tgt := 21) hx hb dX11_back_10 (by decide) ?_
  refine lv_iconst (v := (-1)) hx hb dX11_back_21 (by decide) ?_
  have G := G.sub (bs' := []) [] rfl
  exact z_iret C hr hlocks G (Nat.le_of_ble_eq_true rfl) (Nat.le_of_ble_eq_true rfl) dX11_back_22 ⟨rfl, rfl⟩
set_option maxHeartbeats 4000000 in
set_option maxRecDepth 100000 in
/-- keys: on a new object -/
theorem c_x_keys (l : Launch) (T : zTy) (x : Nat) (t0 : Nat) (ia : Nat) (im : Nat) (rd : Nat) (po : Nat) (co : Nat) (tr : Nat) (wa : Nat) (wb : Nat) (fi : Nat) (cd : Nat) (a1p : Nat) (a2p : Nat) (a3p : Nat) (a4p : Nat) (a5p : Nat) (p1 : Int32) (p2 : Int32) (p3 : Int32) : zMi l T yX11_keys cX11_keys 9 (some .int) 5 0 0 [.ref x, .int p1, .int p2, .int p3] [[(x, .inr (10, [.ref t0, .ref ia, .ref im, .ref rd, .ref po, .ref co, .ref tr, .ref wa, .ref wb, .ref fi, .ref cd]))], [(t0, .inr (8, [.ref a1p, .int 0, .int 0, .int (-1), .ref a2p, .ref a3p, .ref a4p, .ref a5p]))], [(a2p, .inl (T.2 0, 3, .inl (fun _ => 0)))]] (fun (r : Int32) bs => bs = [] ∧ r = (-2)) := by
  refine zMi_of (own := RX11) (by decide) rfl (Nat.le_of_ble_eq_true rfl) ?_
  intro p e s m args below meth c A ls C hr hlocks hnm hAe G hl
  have hx := C.1
  have hb := C.2.1
  have hl : lv_has ls 9 [(0, .ref x), (1, .int p1), (2, .int p2), (3, .int p3)] := hl
  refine lv_aload_n hx hb dX11_keys_0 rfl (lv_at hl 0 rfl) ?_
  refine z_get C G clX11 0 rfl 0 (by decide) m_fl_RX11_10 rfl dX11_keys_1 ?_
  refine lv_iload_n hx hb dX11_keys_4 rfl (lv_at hl 1 rfl) ?_
  refine z_Vq (bc := [[(t0, .inr (8, [.ref a1p, .int 0, .int 0, .int (-1), .ref a2p, .ref a3p, .ref a4p, .ref a5p]))], [(a2p, .inl (T.2 0, 3, .inl (fun _ => 0)))]]) (br := [[(x, .inr (10, [.ref t0, .ref ia, .ref im, .ref rd, .ref po, .ref co, .ref tr, .ref wa, .ref wb, .ref fi, .ref cd]))]]) (As := [.int p1]) (rest := []) C G (c_landAt0 l T t0 a1p a2p a3p a4p a5p 0 0 (-1) p1) (kV_RX11_121 C.2.2.2.2 (Nat.le_of_ble_eq_true rfl) (Nat.le_of_ble_eq_true rfl)) [1, 2] [0] rfl rfl (ci := 8) (qc := (RX9, TX9, 8)) rfl rfl (List.mem_flatten.mpr ⟨_, List.mem_of_getElem? (i := 0) rfl, List.mem_cons_self⟩) rfl rfl hl.1 dX11_keys_5 (Nat.le_of_ble_eq_true rfl) (Nat.le_of_ble_eq_true rfl) (fun r_2 b1 H locs hw G => ?_)
  obtain ⟨rfl, h_1⟩ := hw
  have G : zS T A s.heap s [[(x, .inr (10, [.ref t0, .ref ia, .ref im, .ref rd, .ref po, .ref co, .ref tr, .ref wa, .ref wb, .ref fi, .ref cd]))], [(t0, .inr (8, [.ref a1p, .int 0, .int 0, .int (-1), .ref a2p, .ref a3p, .ref a4p, .ref a5p]))], [(a2p, .inl (T.2 0, 3, .inl (fun _ => 0)))]] _ _ := G
  subst h_1
  refine lv_astoreN (lv' := [(4, .null), (0, .ref x), (1, .int p1), (2, .int p2), (3, .int p3)]) hx hb dX11_keys_8 hl (by decide) rfl (fun ls hl => ?_)
  refine lv_aloadN hx hb dX11_keys_10 (lv_at hl 0 rfl) ?_
  refine lv_ifnullN (tgt := 24) hx hb dX11_keys_12 (by decide) ?_
  refine lv_bipush (v := (-2)) hx hb dX11_keys_24 (by decide) ?_
  have G := G.sub (bs' := []) [] rfl
  exact z_iret C hr hlocks G (Nat.le_of_ble_eq_true rfl) (Nat.le_of_ble_eq_true rfl) dX11_keys_26 ⟨rfl, rfl⟩
set_option maxHeartbeats 4000000 in
set_option maxRecDepth 100000 in
/-- after: on a new object -/
theorem c_x_after (l : Launch) (T : zTy) (x : Nat) (t0 : Nat) (ia : Nat) (im : Nat) (rd : Nat) (po : Nat) (co : Nat) (tr : Nat) (wa : Nat) (wb : Nat) (fi : Nat) (cd : Nat) (a1p : Nat) (a2p : Nat) (a3p : Nat) (a4p : Nat) (a5p : Nat) (p1 : Int32) (p2 : Int32) (p3 : Int32) : zMi l T yX11_after cX11_after 6 (some .int) 5 0 0 [.ref x, .int p1, .int p2, .int p3] [[(x, .inr (10, [.ref t0, .ref ia, .ref im, .ref rd, .ref po, .ref co, .ref tr, .ref wa, .ref wb, .ref fi, .ref cd]))], [(t0, .inr (8, [.ref a1p, .int 0, .int 0, .int (-1), .ref a2p, .ref a3p, .ref a4p, .ref a5p]))], [(a2p, .inl (T.2 0, 3, .inl (fun _ => 0)))]] (fun (r : Int32) bs => bs = [] ∧ r = (-2)) := by
  refine zMi_of (own := RX11) (by decide) rfl (Nat.le_of_ble_eq_true rfl) ?_
  intro p e s m args below meth c A ls C hr hlocks hnm hAe G hl
  have hx := C.1
  have hb := C.2.1
  have hl : lv_has ls 6 [(0, .ref x), (1, .int p1), (2, .int p2), (3, .int p3)] := hl
  refine lv_aload_n hx hb dX11_after_0 rfl (lv_at hl 0 rfl) ?_
  refine z_get C G clX11 0 rfl 0 (by decide) m_fl_RX11_10 rfl dX11_after_1 ?_
  refine lv_iload_n hx hb dX11_after_4 rfl (lv_at hl 1 rfl) ?_
  refine z_Vq (bc := [[(t0, .inr (8, [.ref a1p, .int 0, .int 0, .int (-1), .ref a2p, .ref a3p, .ref a4p, .ref a5p]))], [(a2p, .inl (T.2 0, 3, .inl (fun _ => 0)))]]) (br := [[(x, .inr (10, [.ref t0, .ref ia, .ref im, .ref rd, .ref po, .ref co, .ref tr, .ref wa, .ref wb, .ref fi, .ref cd]))]]) (As := [.int p1]) (rest := []) C G (c_landAt0 l T t0 a1p a2p a3p a4p a5p 0 0 (-1) p1) (kV_RX11_121 C.2.2.2.2 (Nat.le_of_ble_eq_true rfl) (Nat.le_of_ble_eq_true rfl)) [1, 2] [0] rfl rfl (ci := 8) (qc := (RX9, TX9, 8)) rfl rfl (List.mem_flatten.mpr ⟨_, List.mem_of_getElem? (i := 0) rfl, List.mem_cons_self⟩) rfl rfl hl.1 dX11_after_5 (Nat.le_of_ble_eq_true rfl) (Nat.le_of_ble_eq_true rfl) (fun r_2 b1 H locs hw G => ?_)
  obtain ⟨rfl, h_1⟩ := hw
  have G : zS T A s.heap s [[(x, .inr (10, [.ref t0, .ref ia, .ref im, .ref rd, .ref po, .ref co, .ref tr, .ref wa, .ref wb, .ref fi, .ref cd]))], [(t0, .inr (8, [.ref a1p, .int 0, .int 0, .int (-1), .ref a2p, .ref a3p, .ref a4p, .ref a5p]))], [(a2p, .inl (T.2 0, 3, .inl (fun _ => 0)))]] _ _ := G
  subst h_1
  refine lv_astoreN (lv' := [(4, .null), (0, .ref x), (1, .int p1), (2, .int p2), (3, .int p3)]) hx hb dX11_after_8 hl (by decide) rfl (fun ls hl => ?_)
  refine lv_aload_n hx hb dX11_after_10 rfl (lv_at hl 1 rfl) ?_
  refine z_get C G clX11 0 rfl 0 (by decide) m_fl_RX11_10 rfl dX11_after_11 ?_
  refine lv_iload_n hx hb dX11_after_14 rfl (lv_at hl 3 rfl) ?_
  refine z_Vq (bc := [[(t0, .inr (8, [.ref a1p, .int 0, .int 0, .int (-1), .ref a2p, .ref a3p, .ref a4p, .ref a5p]))], [(a2p, .inl (T.2 0, 3, .inl (fun _ => 0)))]]) (br := [[(x, .inr (10, [.ref t0, .ref ia, .ref im, .ref rd, .ref po, .ref co, .ref tr, .ref wa, .ref wb, .ref fi, .ref cd]))]]) (As := [.int p2]) (rest := []) C G (c_dayAt0 l T t0 a1p a2p a3p a4p a5p 0 0 (-1) p2) (kV_RX11_130 C.2.2.2.2 (Nat.le_of_ble_eq_true rfl) (Nat.le_of_ble_eq_true rfl)) [1, 2] [0] rfl rfl (ci := 8) (qc := (RX9, TX9, 8)) rfl rfl (List.mem_flatten.mpr ⟨_, List.mem_of_getElem? (i := 0) rfl, List.mem_cons_self⟩) rfl rfl hl.1 dX11_after_15 (Nat.le_of_ble_eq_true rfl) (Nat.le_of_ble_eq_true rfl) (fun r_4 b1 H locs hw G => ?_)
  obtain ⟨rfl, h_3⟩ := hw
  have G : zS T A s.heap s [[(x, .inr (10, [.ref t0, .ref ia, .ref im, .ref rd, .ref po, .ref co, .ref tr, .ref wa, .ref wb, .ref fi, .ref cd]))], [(t0, .inr (8, [.ref a1p, .int 0, .int 0, .int (-1), .ref a2p, .ref a3p, .ref a4p, .ref a5p]))], [(a2p, .inl (T.2 0, 3, .inl (fun _ => 0)))]] _ _ := G
  subst h_3
  refine lv_astoreN (lv' := [(5, .null), (4, .null), (0, .ref x), (1, .int p1), (2, .int p2), (3, .int p3)]) hx hb dX11_after_18 hl (by decide) rfl (fun ls hl => ?_)
  refine lv_aloadN hx hb dX11_after_20 (lv_at hl 1 rfl) ?_
  refine lv_ifnullN (tgt := 30) hx hb dX11_after_22 (by decide) ?_
  refine lv_bipush (v := (-2)) hx hb dX11_after_30 (by decide) ?_
  have G := G.sub (bs' := []) [] rfl
  exact z_iret C hr hlocks G (Nat.le_of_ble_eq_true rfl) (Nat.le_of_ble_eq_true rfl) dX11_after_32 ⟨rfl, rfl⟩
set_option maxHeartbeats 4000000 in
set_option maxRecDepth 100000 in
/-- odds: on a new object -/
theorem c_x_odds (l : Launch) (T : zTy) (x : Nat) (t0 : Nat) (ia : Nat) (im : Nat) (rd : Nat) (po : Nat) (co : Nat) (tr : Nat) (wa : Nat) (wb : Nat) (fi : Nat) (cd : Nat) (a1p : Nat) (a2p : Nat) (a3p : Nat) (a4p : Nat) (a5p : Nat) (p1 : Int32) (p2 : Int32) (p3 : Int32) (p4 : Int32) (p5 : Int32) : zMi l T yX11_odds cX11_odds 8 (some .int) 5 0 0 [.ref x, .int p1, .int p2, .int p3, .int p4, .int p5] [[(x, .inr (10, [.ref t0, .ref ia, .ref im, .ref rd, .ref po, .ref co, .ref tr, .ref wa, .ref wb, .ref fi, .ref cd]))], [(t0, .inr (8, [.ref a1p, .int 0, .int 0, .int (-1), .ref a2p, .ref a3p, .ref a4p, .ref a5p]))], [(a2p, .inl (T.2 0, 3, .inl (fun _ => 0)))]] (fun (r : Int32) bs => bs = [] ∧ r = (-1)) := by
  refine zMi_of (own := RX11) (by decide) rfl (Nat.le_of_ble_eq_true rfl) ?_
  intro p e s m args below meth c A ls C hr hlocks hnm hAe G hl
  have hx := C.1
  have hb := C.2.1
  have hl : lv_has ls 8 [(0, .ref x), (1, .int p1), (2, .int p2), (3, .int p3), (4, .int p4), (5, .int p5)] := hl
  refine lv_aload_n hx hb dX11_odds_0 rfl (lv_at hl 0 rfl) ?_
  refine z_get C G clX11 0 rfl 0 (by decide) m_fl_RX11_10 rfl dX11_odds_1 ?_
  refine lv_iload_n hx hb dX11_odds_4 rfl (lv_at hl 1 rfl) ?_
  refine z_Vq (bc := [[(t0, .inr (8, [.ref a1p, .int 0, .int 0, .int (-1), .ref a2p, .ref a3p, .ref a4p, .ref a5p]))], [(a2p, .inl (T.2 0, 3, .inl (fun _ => 0)))]]) (br := [[(x, .inr (10, [.ref t0, .ref ia, .ref im, .ref rd, .ref po, .ref co, .ref tr, .ref wa, .ref wb, .ref fi, .ref cd]))]]) (As := [.int p1]) (rest := []) C G (c_landAt0 l T t0 a1p a2p a3p a4p a5p 0 0 (-1) p1) (kV_RX11_121 C.2.2.2.2 (Nat.le_of_ble_eq_true rfl) (Nat.le_of_ble_eq_true rfl)) [1, 2] [0] rfl rfl (ci := 8) (qc := (RX9, TX9, 8)) rfl rfl (List.mem_flatten.mpr ⟨_, List.mem_of_getElem? (i := 0) rfl, List.mem_cons_self⟩) rfl rfl hl.1 dX11_odds_5 (Nat.le_of_ble_eq_true rfl) (Nat.le_of_ble_eq_true rfl) (fun r_2 b1 H locs hw G => ?_)
  obtain ⟨rfl, h_1⟩ := hw
  have G : zS T A s.heap s [[(x, .inr (10, [.ref t0, .ref ia, .ref im, .ref rd, .ref po, .ref co, .ref tr, .ref wa, .ref wb, .ref fi, .ref cd]))], [(t0, .inr (8, [.ref a1p, .int 0, .int 0, .int (-1), .ref a2p, .ref a3p, .ref a4p, .ref a5p]))], [(a2p, .inl (T.2 0, 3, .inl (fun _ => 0)))]] _ _ := G
  subst h_1
  refine lv_astoreN (lv' := [(6, .null), (0, .ref x), (1, .int p1), (2, .int p2), (3, .int p3), (4, .int p4), (5, .int p5)]) hx hb dX11_odds_8 hl (by decide) rfl (fun ls hl => ?_)
  refine lv_aload_n hx hb dX11_odds_10 rfl (lv_at hl 1 rfl) ?_
  refine lv_iload_n hx hb dX11_odds_11 rfl (lv_at hl 2 rfl) ?_
  refine lv_iload_n hx hb dX11_odds_12 rfl (lv_at hl 3 rfl) ?_
  refine z_Vi (bc := [[(x, .inr (10, [.ref t0, .ref ia, .ref im, .ref rd, .ref po, .ref co, .ref tr, .ref wa, .ref wb, .ref fi, .ref cd]))], [(t0, .inr (8, [.ref a1p, .int 0, .int 0, .int (-1), .ref a2p, .ref a3p, .ref a4p, .ref a5p]))], [(a2p, .inl (T.2 0, 3, .inl (fun _ => 0)))]]) (br := []) (As := [.int p1, .int p2]) (rest := []) C G (c_x_fit l T x t0 ia im rd po co tr wa wb fi cd a1p a2p a3p a4p a5p p1 p2) (kV_RX11_302 C.2.2.2.2 (Nat.le_of_ble_eq_true rfl) (Nat.le_of_ble_eq_true rfl)) [0, 1, 2] [] rfl rfl (ci := 10) (qc := (RX11, TX11, 11)) rfl rfl (List.mem_flatten.mpr ⟨_, List.mem_of_getElem? (i := 0) rfl, List.mem_cons_self⟩) rfl rfl hl.1 dX11_odds_13 (Nat.le_of_ble_eq_true rfl) (Nat.le_of_ble_eq_true rfl) (fun r_4 b1 H locs hw G => ?_)
  obtain ⟨rfl, h_3⟩ := hw
  have G : zS T A s.heap s [[(x, .inr (10, [.ref t0, .ref ia, .ref im, .ref rd, .ref po, .ref co, .ref tr, .ref wa, .ref wb, .ref fi, .ref cd]))], [(t0, .inr (8, [.ref a1p, .int 0, .int 0, .int (-1), .ref a2p, .ref a3p, .ref a4p, .ref a5p]))], [(a2p, .inl (T.2 0, 3, .inl (fun _ => 0)))]] _ _ := G
  subst h_3
  refine lv_if_eq (tgt := 40) hx hb dX11_odds_16 (by decide) (fun _ => ?_) (fun q => absurd (by decide) q)
  refine lv_iconst (v := (-1)) hx hb dX11_odds_40 (by decide) ?_
  have G := G.sub (bs' := []) [] rfl
  exact z_iret C hr hlocks G (Nat.le_of_ble_eq_true rfl) (Nat.le_of_ble_eq_true rfl) dX11_odds_41 ⟨rfl, rfl⟩
set_option maxHeartbeats 4000000 in
set_option maxRecDepth 100000 in
/-- least: on a new object -/
theorem c_x_least (l : Launch) (T : zTy) (x : Nat) (t0 : Nat) (ia : Nat) (im : Nat) (rd : Nat) (po : Nat) (co : Nat) (tr : Nat) (wa : Nat) (wb : Nat) (fi : Nat) (cd : Nat) (a1p : Nat) (a2p : Nat) (a3p : Nat) (a4p : Nat) (a5p : Nat) (p1 : Int32) (p2 : Int32) (p3 : Int32) : zMi l T yX11_least cX11_least 4 (some .int) 5 0 0 [.ref x, .int p1, .int p2, .int p3] [[(x, .inr (10, [.ref t0, .ref ia, .ref im, .ref rd, .ref po, .ref co, .ref tr, .ref wa, .ref wb, .ref fi, .ref cd]))], [(t0, .inr (8, [.ref a1p, .int 0, .int 0, .int (-1), .ref a2p, .ref a3p, .ref a4p, .ref a5p]))], [(a2p, .inl (T.2 0, 3, .inl (fun _ => 0)))]] (fun (r : Int32) bs => bs = [] ∧ r = (-1)) := by
  refine zMi_of (own := RX11) (by decide) rfl (Nat.le_of_ble_eq_true rfl) ?_
  intro p e s m args below meth c A ls C hr hlocks hnm hAe G hl
  have hx := C.1
  have hb := C.2.1
  have hl : lv_has ls 4 [(0, .ref x), (1, .int p1), (2, .int p2), (3, .int p3)] := hl
  refine lv_aload_n hx hb dX11_least_0 rfl (lv_at hl 0 rfl) ?_
  refine lv_iload_n hx hb dX11_least_1 rfl (lv_at hl 1 rfl) ?_
  refine lv_iload_n hx hb dX11_least_2 rfl (lv_at hl 2 rfl) ?_
  refine z_Vi (bc := [[(x, .inr (10, [.ref t0, .ref ia, .ref im, .ref rd, .ref po, .ref co, .ref tr, .ref wa, .ref wb, .ref fi, .ref cd]))], [(t0, .inr (8, [.ref a1p, .int 0, .int 0, .int (-1), .ref a2p, .ref a3p, .ref a4p, .ref a5p]))], [(a2p, .inl (T.2 0, 3, .inl (fun _ => 0)))]]) (br := []) (As := [.int p1, .int p2]) (rest := []) C G (c_x_fit l T x t0 ia im rd po co tr wa wb fi cd a1p a2p a3p a4p a5p p1 p2) (kV_RX11_302 C.2.2.2.2 (Nat.le_of_ble_eq_true rfl) (Nat.le_of_ble_eq_true rfl)) [0, 1, 2] [] rfl rfl (ci := 10) (qc := (RX11, TX11, 11)) rfl rfl (List.mem_flatten.mpr ⟨_, List.mem_of_getElem? (i := 0) rfl, List.mem_cons_self⟩) rfl rfl hl.1 dX11_least_3 (Nat.le_of_ble_eq_true rfl) (Nat.le_of_ble_eq_true rfl) (fun r_2 b1 H locs hw G => ?_)
  obtain ⟨rfl, h_1⟩ := hw
  have G : zS T A s.heap s [[(x, .inr (10, [.ref t0, .ref ia, .ref im, .ref rd, .ref po, .ref co, .ref tr, .ref wa, .ref wb, .ref fi, .ref cd]))], [(t0, .inr (8, [.ref a1p, .int 0, .int 0, .int (-1), .ref a2p, .ref a3p, .ref a4p, .ref a5p]))], [(a2p, .inl (T.2 0, 3, .inl (fun _ => 0)))]] _ _ := G
  subst h_1
  refine lv_if_eq (tgt := 19) hx hb dX11_least_6 (by decide) (fun _ => ?_) (fun q => absurd (by decide) q)
  refine lv_iconst (v := (-1)) hx hb dX11_least_19 (by decide) ?_
  have G := G.sub (bs' := []) [] rfl
  exact z_iret C hr hlocks G (Nat.le_of_ble_eq_true rfl) (Nat.le_of_ble_eq_true rfl) dX11_least_20 ⟨rfl, rfl⟩

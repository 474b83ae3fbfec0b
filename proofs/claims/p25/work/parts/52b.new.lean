set_option maxHeartbeats 4000000 in
set_option maxRecDepth 100000 in
theorem c_x_init (l : Launch) (T : zTy) (xo : Nat) : zMv l T yX11_init cX11_init 1 8 201 5797 [.ref xo] [[(xo, .inr (10, [.null, .null, .null, .null, .null, .null, .null, .null, .null, .null, .null]))]] (fun bs => ∃ (t : Nat) (im : Nat) (mk : Nat) (rd : Nat) (po : Nat) (co : Nat) (tr : Nat) (wa : Nat) (wb_ : Nat) (fi : Nat) (cd : Nat) (l0 : Nat) (l1 : Nat) (d0 : Nat) (d1 : Nat) (g0 : Nat) (g1 : Nat) (wt : va_W) (vl0 : va_W) (vl1 : va_W) (vd0 : va_W) (vd1 : va_W) (vg0 : va_W) (vg1 : va_W) (m0 : Nat) (l0a : Nat) (l1a : Nat) (d0a : Nat) (d1a : Nat) (g0a : Nat) (g1a : Nat) (wta : va_W) (vl0a : va_W) (vl1a : va_W) (vd0a : va_W) (vd1a : va_W) (vg0a : va_W) (vg1a : va_W) (m1 : Nat) (l0b : Nat) (l1b : Nat) (d0b : Nat) (d1b : Nat) (g0b : Nat) (g1b : Nat) (wtb : va_W) (vl0b : va_W) (vl1b : va_W) (vd0b : va_W) (vd1b : va_W) (vg0b : va_W) (vg1b : va_W) (m2 : Nat) (l0c : Nat) (l1c : Nat) (d0c : Nat) (d1c : Nat) (g0c : Nat) (g1c : Nat) (wtc : va_W) (vl0c : va_W) (vl1c : va_W) (vd0c : va_W) (vd1c : va_W) (vg0c : va_W) (vg1c : va_W) (qi : Nat → Option Nat) (rl : Nat) (rdd : Nat) (rg : Nat) (tq : Nat) (z : va_W) (wd : va_W) (wg : va_W) (lp : Nat) (wp : va_W) (cpo : Nat) (cla : Nat) (wc : va_W) (cpl : Nat) (wcp : va_W) (tpo : Nat) (wr : va_W) (tpl : Nat) (wrp : va_W) (laA : Nat) (wwA : va_W) (laB : Nat) (wwB : va_W) (wff : va_W), bs = [[zO10 xo t im mk rd po co tr wa wb_ fi cd], wt, vl0, vl1, vd0, vd1, vg0, vg1, wta, vl0a, vl1a, vd0a, vd1a, vg0a, vg1a, wtb, vl0b, vl1b, vd0b, vd1b, vg0b, vg1b, wtc, vl0c, vl1c, vd0c, vd1c, vg0c, vg1c, [zArq T 6 im 3 qi], [zAr T 2 mk 3 (fun _ => 0)], [zO7 rd rl rdd rg 0 0 tq 0 0 0 0 0 0 0], z, wd, wg, wp, wc, wcp, wr, wrp, wwA, wwB, wff, [zAr T 0 cd 1000 (fun _ => 0)]] ∧ bTold T t l0 l1 d0 d1 g0 g1 0 0 (-1) (fun _ => 0) (fun _ => 0) wt ∧ bLand T l0 0 0 (fun _ => 0) (fun _ => 0) (fun _ => 0) (fun _ => 0) vl0 ∧ bLand T l1 0 0 (fun _ => 0) (fun _ => 0) (fun _ => 0) (fun _ => 0) vl1 ∧ bDay T d0 0 (fun _ => 0) (fun _ => 0) (fun _ => 0) vd0 ∧ bDay T d1 0 (fun _ => 0) (fun _ => 0) (fun _ => 0) vd1 ∧ bLog T g0 0 (fun _ => 0) (fun _ => 0) vg0 ∧ bLog T g1 0 (fun _ => 0) (fun _ => 0) vg1 ∧ bTold T m0 l0a l1a d0a d1a g0a g1a 0 0 (-1) (fun _ => 0) (fun _ => 0) wta ∧ bLand T l0a 0 0 (fun _ => 0) (fun _ => 0) (fun _ => 0) (fun _ => 0) vl0a ∧ bLand T l1a 0 0 (fun _ => 0) (fun _ => 0) (fun _ => 0) (fun _ => 0) vl1a ∧ bDay T d0a 0 (fun _ => 0) (fun _ => 0) (fun _ => 0) vd0a ∧ bDay T d1a 0 (fun _ => 0) (fun _ => 0) (fun _ => 0) vd1a ∧ bLog T g0a 0 (fun _ => 0) (fun _ => 0) vg0a ∧ bLog T g1a 0 (fun _ => 0) (fun _ => 0) vg1a ∧ bTold T m1 l0b l1b d0b d1b g0b g1b 0 0 (-1) (fun _ => 0) (fun _ => 0) wtb ∧ bLand T l0b 0 0 (fun _ => 0) (fun _ => 0) (fun _ => 0) (fun _ => 0) vl0b ∧ bLand T l1b 0 0 (fun _ => 0) (fun _ => 0) (fun _ => 0) (fun _ => 0) vl1b ∧ bDay T d0b 0 (fun _ => 0) (fun _ => 0) (fun _ => 0) vd0b ∧ bDay T d1b 0 (fun _ => 0) (fun _ => 0) (fun _ => 0) vd1b ∧ bLog T g0b 0 (fun _ => 0) (fun _ => 0) vg0b ∧ bLog T g1b 0 (fun _ => 0) (fun _ => 0) vg1b ∧ bTold T m2 l0c l1c d0c d1c g0c g1c 0 0 (-1) (fun _ => 0) (fun _ => 0) wtc ∧ bLand T l0c 0 0 (fun _ => 0) (fun _ => 0) (fun _ => 0) (fun _ => 0) vl0c ∧ bLand T l1c 0 0 (fun _ => 0) (fun _ => 0) (fun _ => 0) (fun _ => 0) vl1c ∧ bDay T d0c 0 (fun _ => 0) (fun _ => 0) (fun _ => 0) vd0c ∧ bDay T d1c 0 (fun _ => 0) (fun _ => 0) (fun _ => 0) vd1c ∧ bLog T g0c 0 (fun _ => 0) (fun _ => 0) vg0c ∧ bLog T g1c 0 (fun _ => 0) (fun _ => 0) vg1c ∧ qi 0 = some m0 ∧ qi 1 = some m1 ∧ qi 2 = some m2 ∧ bLand T rl 0 0 (fun _ => 0) (fun _ => 0) (fun _ => 0) (fun _ => 0) z ∧ bDay T rdd 0 (fun _ => 0) (fun _ => 0) (fun _ => 0) wd ∧ bLog T rg 0 (fun _ => 0) (fun _ => 0) wg ∧ bPosts T po lp (fun _ => 0) (fun _ => 0) (fun _ => 0) 0 0 wp ∧ bCourse T co cpo cla (fun _ => 0) 0 0 0 0 0 0 0 0 wc ∧ bPosts T cpo cpl (fun _ => 0) (fun _ => 0) (fun _ => 0) 0 0 wcp ∧ bTrail T tr tpo (fun _ => 0) (fun _ => 0) 0 0 0 0 0 wr ∧ bPosts T tpo tpl (fun _ => 0) (fun _ => 0) (fun _ => 0) 0 0 wrp ∧ bWays T wa laA 0 0 0 (fun _ => 0) (fun _ => 0) (fun _ => 0) (fun _ => 0) (fun _ => 0) (fun _ => 0) 0 wwA ∧ bWays T wb_ laB 0 0 0 (fun _ => 0) (fun _ => 0) (fun _ => 0) (fun _ => 0) (fun _ => 0) (fun _ => 0) 0 wwB ∧ bFit T fi 0 (-1) (-1) 0 0 0 (fun _ => 0) 0 (fun _ => 0) wff) := by
  refine zMv_of (own := RX11) (by decide) rfl (Nat.le_of_ble_eq_true rfl) ?_
  intro p e s m args below meth c A ls C hr hlocks hnm hAe G hl
  refine zHide (fun Qz_ hQz_ => ?_)
  have hx := C.1
  have hb := C.2.1
  have hl : lv_has ls 1 [(0, .ref xo)] := hl
  refine lv_aload_n hx hb dX11_init_0 rfl (lv_at hl 0 rfl) ?_
  refine W.objInit hx hb C.2.2.2.1 (C.2.2.2.2 _ m_ml_RX11_1) (C.2.2.2.2 _ m_im_obj) (C.2.2.2.2 _ m_co_obj) rfl (by rw [C.2.2.1]; exact hl.1) rfl dX11_init_1 (Nat.le_of_ble_eq_true rfl) (Nat.le_of_ble_eq_true rfl) ?_
  refine W.eq (g2 := F0 m 4 ls []) rfl ?_
  refine lv_aload_n hx hb dX11_init_4 rfl (lv_at hl 0 rfl) ?_
  refine z_new C G clX9 (fs := [.null, .int 0, .int 0, .int 0, .null, .null, .null, .null]) m_cl_RX11_7 m_in_RX9 m_ii_RX9 (fun j hj => by match j, hj with | 0, _ => rfl | 1, _ => rfl | 2, _ => rfl | 3, _ => rfl | 4, _ => rfl | 5, _ => rfl | 6, _ => rfl | 7, _ => rfl | j + 8, h => exact absurd h (by omega)) (Nat.le_of_ble_eq_true rfl) (Nat.le_of_ble_eq_true rfl) dX11_init_5 (fun q_1 H G => ?_)
  have G : zS T A s.heap s [[(xo, .inr (10, [.null, .null, .null, .null, .null, .null, .null, .null, .null, .null, .null]))], [(q_1, .inr (8, [.null, .int 0, .int 0, .int 0, .null, .null, .null, .null]))]] _ _ := G
  refine lv_dup hx hb dX11_init_8 rfl ?_
  refine z_Jv (bc := [[(q_1, .inr (8, [.null, .int 0, .int 0, .int 0, .null, .null, .null, .null]))]]) (br := [[(xo, .inr (10, [.null, .null, .null, .null, .null, .null, .null, .null, .null, .null, .null]))]]) (As := []) (rest := [.ref q_1, .ref xo]) C G (c_Told_init l T q_1) (kJ_RX11_9 G.2.2.2.2.2.1 C.2.2.2.2 (Nat.le_of_ble_eq_true rfl) (Nat.le_of_ble_eq_true rfl)) [1] [1] rfl rfl rfl rfl hl.1 dX11_init_9 (Nat.le_of_ble_eq_true rfl) (Nat.le_of_ble_eq_true rfl) (fun b1 H locs hw G => ?_)
  refine zEx13 hw ?_
  intro w_2 l0_3 l1_4 d0_5 d1_6 g0_7 g1_8 w1_9 w2_10 w3_11 w4_12 w5_13 w6_14
  refine zCu8 ?_
  intro hbs9 h_15 h_16 h_17 h_18 h_19 h_20 h_21
  clear hw
  subst hbs9
  have G : zS T A s.heap s [[(xo, .inr (10, [.null, .null, .null, .null, .null, .null, .null, .null, .null, .null, .null]))], w_2, w1_9, w2_10, w3_11, w4_12, w5_13, w6_14] _ _ := G
  refine z_putF C G hnm clX11 0 rfl 0 (by decide) m_fl_RX11_10 rfl rfl rfl rfl (Nat.le_of_ble_eq_true rfl) dX11_init_12 (fun H locs G => ?_)
  have G : zS T A s.heap s [[(xo, .inr (10, [.ref q_1, .null, .null, .null, .null, .null, .null, .null, .null, .null, .null]))], w_2, w1_9, w2_10, w3_11, w4_12, w5_13, w6_14] _ _ := G
  refine lv_aload_n hx hb dX11_init_15 rfl (lv_at hl 0 rfl) ?_
  refine lv_iconst (v := 3) hx hb dX11_init_16 (by decide) ?_
  refine z_newq C G 6 rfl m_cl_RX11_7 (List.mem_of_getElem? (i := 3) rfl) (N' := 3) (by decide) (by decide) (by decide) (Nat.le_of_ble_eq_true rfl) (Nat.le_of_ble_eq_true rfl) dX11_init_17 (fun q_23 H G => ?_)
  have G : zS T A s.heap s [[(xo, .inr (10, [.ref q_1, .null, .null, .null, .null, .null, .null, .null, .null, .null, .null]))], w_2, w1_9, w2_10, w3_11, w4_12, w5_13, w6_14, [zArq T 6 q_23 3 (fun _ => none)]] _ _ := G
  refine lv_dup hx hb dX11_init_20 rfl ?_
  refine lv_iconst (v := 0) hx hb dX11_init_21 (by decide) ?_
  refine z_new C G clX9 (fs := [.null, .int 0, .int 0, .int 0, .null, .null, .null, .null]) m_cl_RX11_7 m_in_RX9 m_ii_RX9 (fun j hj => by match j, hj with | 0, _ => rfl | 1, _ => rfl | 2, _ => rfl | 3, _ => rfl | 4, _ => rfl | 5, _ => rfl | 6, _ => rfl | 7, _ => rfl | j + 8, h => exact absurd h (by omega)) (Nat.le_of_ble_eq_true rfl) (Nat.le_of_ble_eq_true rfl) dX11_init_22 (fun q_24 H G => ?_)
  have G : zS T A s.heap s [[(xo, .inr (10, [.ref q_1, .null, .null, .null, .null, .null, .null, .null, .null, .null, .null]))], w_2, w1_9, w2_10, w3_11, w4_12, w5_13, w6_14, [zArq T 6 q_23 3 (fun _ => none)], [(q_24, .inr (8, [.null, .int 0, .int 0, .int 0, .null, .null, .null, .null]))]] _ _ := G
  refine lv_dup hx hb dX11_init_25 rfl ?_
  refine z_Jv (bc := [[(q_24, .inr (8, [.null, .int 0, .int 0, .int 0, .null, .null, .null, .null]))]]) (br := [[(xo, .inr (10, [.ref q_1, .null, .null, .null, .null, .null, .null, .null, .null, .null, .null]))], w_2, w1_9, w2_10, w3_11, w4_12, w5_13, w6_14, [zArq T 6 q_23 3 (fun _ => none)]]) (As := []) (rest := [.ref q_24, .int 0, .ref q_23, .ref q_23, .ref xo]) C G (c_Told_init l T q_24) (kJ_RX11_9 G.2.2.2.2.2.1 C.2.2.2.2 (Nat.le_of_ble_eq_true rfl) (Nat.le_of_ble_eq_true rfl)) [9] [9] rfl rfl rfl rfl hl.1 dX11_init_26 (Nat.le_of_ble_eq_true rfl) (Nat.le_of_ble_eq_true rfl) (fun b1 H locs hw G => ?_)
  refine zEx13 hw ?_
  intro w_25 l0_26 l1_27 d0_28 d1_29 g0_30 g1_31 w1_32 w2_33 w3_34 w4_35 w5_36 w6_37
  refine zCu8 ?_
  intro hbs9 h_38 h_39 h_40 h_41 h_42 h_43 h_44
  clear hw
  subst hbs9
  have G : zS T A s.heap s [[(xo, .inr (10, [.ref q_1, .null, .null, .null, .null, .null, .null, .null, .null, .null, .null]))], w_2, w1_9, w2_10, w3_11, w4_12, w5_13, w6_14, [zArq T 6 q_23 3 (fun _ => none)], w_25, w1_32, w2_33, w3_34, w4_35, w5_36, w6_37] _ _ := G
  refine z_ast C G 8 6 (ci := 8) (r := (RX9, TX9, 8)) rfl rfl (List.mem_flatten.mpr ⟨_, List.mem_of_getElem? (i := 9) rfl, (bTold_mem h_38).choose_spec⟩) rfl (vp_in_nI (n := 0) (by decide) (by decide)) dX11_init_29 (fun H locs G => ?_)
  have G : zS T A s.heap s [[(xo, .inr (10, [.ref q_1, .null, .null, .null, .null, .null, .null, .null, .null, .null, .null]))], w_2, w1_9, w2_10, w3_11, w4_12, w5_13, w6_14, [zArq T 6 q_23 3 (va_up (fun _ => none) 0 (some q_24))], w_25, w1_32, w2_33, w3_34, w4_35, w5_36, w6_37] _ _ := G
  refine lv_dup hx hb dX11_init_30 rfl ?_
  refine lv_iconst (v := 1) hx hb dX11_init_31 (by decide) ?_
  refine z_new C G clX9 (fs := [.null, .int 0, .int 0, .int 0, .null, .null, .null, .null]) m_cl_RX11_7 m_in_RX9 m_ii_RX9 (fun j hj => by match j, hj with | 0, _ => rfl | 1, _ => rfl | 2, _ => rfl | 3, _ => rfl | 4, _ => rfl | 5, _ => rfl | 6, _ => rfl | 7, _ => rfl | j + 8, h => exact absurd h (by omega)) (Nat.le_of_ble_eq_true rfl) (Nat.le_of_ble_eq_true rfl) dX11_init_32 (fun q_46 H G => ?_)
  have G : zS T A s.heap s [[(xo, .inr (10, [.ref q_1, .null, .null, .null, .null, .null, .null, .null, .null, .null, .null]))], w_2, w1_9, w2_10, w3_11, w4_12, w5_13, w6_14, [zArq T 6 q_23 3 (va_up (fun _ => none) 0 (some q_24))], w_25, w1_32, w2_33, w3_34, w4_35, w5_36, w6_37, [(q_46, .inr (8, [.null, .int 0, .int 0, .int 0, .null, .null, .null, .null]))]] _ _ := G
  refine lv_dup hx hb dX11_init_35 rfl ?_
  refine z_Jv (bc := [[(q_46, .inr (8, [.null, .int 0, .int 0, .int 0, .null, .null, .null, .null]))]]) (br := [[(xo, .inr (10, [.ref q_1, .null, .null, .null, .null, .null, .null, .null, .null, .null, .null]))], w_2, w1_9, w2_10, w3_11, w4_12, w5_13, w6_14, [zArq T 6 q_23 3 (va_up (fun _ => none) 0 (some q_24))], w_25, w1_32, w2_33, w3_34, w4_35, w5_36, w6_37]) (As := []) (rest := [.ref q_46, .int 1, .ref q_23, .ref q_23, .ref xo]) C G (c_Told_init l T q_46) (kJ_RX11_9 G.2.2.2.2.2.1 C.2.2.2.2 (Nat.le_of_ble_eq_true rfl) (Nat.le_of_ble_eq_true rfl)) [16] [16] rfl rfl rfl rfl hl.1 dX11_init_36 (Nat.le_of_ble_eq_true rfl) (Nat.le_of_ble_eq_true rfl) (fun b1 H locs hw G => ?_)
  refine zEx13 hw ?_
  intro w_47 l0_48 l1_49 d0_50 d1_51 g0_52 g1_53 w1_54 w2_55 w3_56 w4_57 w5_58 w6_59
  refine zCu8 ?_
  intro hbs9 h_60 h_61 h_62 h_63 h_64 h_65 h_66
  clear hw
  subst hbs9
  have G : zS T A s.heap s [[(xo, .inr (10, [.ref q_1, .null, .null, .null, .null, .null, .null, .null, .null, .null, .null]))], w_2, w1_9, w2_10, w3_11, w4_12, w5_13, w6_14, [zArq T 6 q_23 3 (va_up (fun _ => none) 0 (some q_24))], w_25, w1_32, w2_33, w3_34, w4_35, w5_36, w6_37, w_47, w1_54, w2_55, w3_56, w4_57, w5_58, w6_59] _ _ := G
  refine z_ast C G 8 6 (ci := 8) (r := (RX9, TX9, 8)) rfl rfl (List.mem_flatten.mpr ⟨_, List.mem_of_getElem? (i := 16) rfl, (bTold_mem h_60).choose_spec⟩) rfl (vp_in_nI (n := 1) (by decide) (by decide)) dX11_init_39 (fun H locs G => ?_)
  have G : zS T A s.heap s [[(xo, .inr (10, [.ref q_1, .null, .null, .null, .null, .null, .null, .null, .null, .null, .null]))], w_2, w1_9, w2_10, w3_11, w4_12, w5_13, w6_14, [zArq T 6 q_23 3 (va_up (va_up (fun _ => none) 0 (some q_24)) 1 (some q_46))], w_25, w1_32, w2_33, w3_34, w4_35, w5_36, w6_37, w_47, w1_54, w2_55, w3_56, w4_57, w5_58, w6_59] _ _ := G
  refine lv_dup hx hb dX11_init_40 rfl ?_
  refine lv_iconst (v := 2) hx hb dX11_init_41 (by decide) ?_
  refine z_new C G clX9 (fs := [.null, .int 0, .int 0, .int 0, .null, .null, .null, .null]) m_cl_RX11_7 m_in_RX9 m_ii_RX9 (fun j hj => by match j, hj with | 0, _ => rfl | 1, _ => rfl | 2, _ => rfl | 3, _ => rfl | 4, _ => rfl | 5, _ => rfl | 6, _ => rfl | 7, _ => rfl | j + 8, h => exact absurd h (by omega)) (Nat.le_of_ble_eq_true rfl) (Nat.le_of_ble_eq_true rfl) dX11_init_42 (fun q_68 H G => ?_)
  have G : zS T A s.heap s [[(xo, .inr (10, [.ref q_1, .null, .null, .null, .null, .null, .null, .null, .null, .null, .null]))], w_2, w1_9, w2_10, w3_11, w4_12, w5_13, w6_14, [zArq T 6 q_23 3 (va_up (va_up (fun _ => none) 0 (some q_24)) 1 (some q_46))], w_25, w1_32, w2_33, w3_34, w4_35, w5_36, w6_37, w_47, w1_54, w2_55, w3_56, w4_57, w5_58, w6_59, [(q_68, .inr (8, [.null, .int 0, .int 0, .int 0, .null, .null, .null, .null]))]] _ _ := G
  refine lv_dup hx hb dX11_init_45 rfl ?_
  refine z_Jv (bc := [[(q_68, .inr (8, [.null, .int 0, .int 0, .int 0, .null, .null, .null, .null]))]]) (br := [[(xo, .inr (10, [.ref q_1, .null, .null, .null, .null, .null, .null, .null, .null, .null, .null]))], w_2, w1_9, w2_10, w3_11, w4_12, w5_13, w6_14, [zArq T 6 q_23 3 (va_up (va_up (fun _ => none) 0 (some q_24)) 1 (some q_46))], w_25, w1_32, w2_33, w3_34, w4_35, w5_36, w6_37, w_47, w1_54, w2_55, w3_56, w4_57, w5_58, w6_59]) (As := []) (rest := [.ref q_68, .int 2, .ref q_23, .ref q_23, .ref xo]) C G (c_Told_init l T q_68) (kJ_RX11_9 G.2.2.2.2.2.1 C.2.2.2.2 (Nat.le_of_ble_eq_true rfl) (Nat.le_of_ble_eq_true rfl)) [23] [23] rfl rfl rfl rfl hl.1 dX11_init_46 (Nat.le_of_ble_eq_true rfl) (Nat.le_of_ble_eq_true rfl) (fun b1 H locs hw G => ?_)
  refine zEx13 hw ?_
  intro w_69 l0_70 l1_71 d0_72 d1_73 g0_74 g1_75 w1_76 w2_77 w3_78 w4_79 w5_80 w6_81
  refine zCu8 ?_
  intro hbs9 h_82 h_83 h_84 h_85 h_86 h_87 h_88
  clear hw
  subst hbs9
  have G : zS T A s.heap s [[(xo, .inr (10, [.ref q_1, .null, .null, .null, .null, .null, .null, .null, .null, .null, .null]))], w_2, w1_9, w2_10, w3_11, w4_12, w5_13, w6_14, [zArq T 6 q_23 3 (va_up (va_up (fun _ => none) 0 (some q_24)) 1 (some q_46))], w_25, w1_32, w2_33, w3_34, w4_35, w5_36, w6_37, w_47, w1_54, w2_55, w3_56, w4_57, w5_58, w6_59, w_69, w1_76, w2_77, w3_78, w4_79, w5_80, w6_81] _ _ := G
  refine z_ast C G 8 6 (ci := 8) (r := (RX9, TX9, 8)) rfl rfl (List.mem_flatten.mpr ⟨_, List.mem_of_getElem? (i := 23) rfl, (bTold_mem h_82).choose_spec⟩) rfl (vp_in_nI (n := 2) (by decide) (by decide)) dX11_init_49 (fun H locs G => ?_)
  have G : zS T A s.heap s [[(xo, .inr (10, [.ref q_1, .null, .null, .null, .null, .null, .null, .null, .null, .null, .null]))], w_2, w1_9, w2_10, w3_11, w4_12, w5_13, w6_14, [zArq T 6 q_23 3 (va_up (va_up (va_up (fun _ => none) 0 (some q_24)) 1 (some q_46)) 2 (some q_68))], w_25, w1_32, w2_33, w3_34, w4_35, w5_36, w6_37, w_47, w1_54, w2_55, w3_56, w4_57, w5_58, w6_59, w_69, w1_76, w2_77, w3_78, w4_79, w5_80, w6_81] _ _ := G
  refine z_putF C G hnm clX11 0 rfl 1 (by decide) m_fl_RX11_16 rfl rfl rfl rfl (Nat.le_of_ble_eq_true rfl) dX11_init_50 (fun H locs G => ?_)
  have G : zS T A s.heap s [[(xo, .inr (10, [.ref q_1, .ref q_23, .null, .null, .null, .null, .null, .null, .null, .null, .null]))], w_2, w1_9, w2_10, w3_11, w4_12, w5_13, w6_14, [zArq T 6 q_23 3 (va_up (va_up (va_up (fun _ => none) 0 (some q_24)) 1 (some q_46)) 2 (some q_68))], w_25, w1_32, w2_33, w3_34, w4_35, w5_36, w6_37, w_47, w1_54, w2_55, w3_56, w4_57, w5_58, w6_59, w_69, w1_76, w2_77, w3_78, w4_79, w5_80, w6_81] _ _ := G
  refine lv_aload_n hx hb dX11_init_53 rfl (lv_at hl 0 rfl) ?_
  refine lv_iconst (v := 3) hx hb dX11_init_54 (by decide) ?_
  refine z_newa C G 2 (ty := .boolean) (N' := 3) (a0 := (3, .inl (fun _ => 0))) rfl z_uboolean m_ar_boolean rfl (fun _ => rfl) (by decide) (by decide) (Nat.le_of_ble_eq_true rfl) (Nat.le_of_ble_eq_true rfl) (Nat.le_of_ble_eq_true rfl) dX11_init_55 (fun q_90 H G => ?_)
  have G : zS T A s.heap s [[(xo, .inr (10, [.ref q_1, .ref q_23, .null, .null, .null, .null, .null, .null, .null, .null, .null]))], w_2, w1_9, w2_10, w3_11, w4_12, w5_13, w6_14, [zArq T 6 q_23 3 (va_up (va_up (va_up (fun _ => none) 0 (some q_24)) 1 (some q_46)) 2 (some q_68))], w_25, w1_32, w2_33, w3_34, w4_35, w5_36, w6_37, w_47, w1_54, w2_55, w3_56, w4_57, w5_58, w6_59, w_69, w1_76, w2_77, w3_78, w4_79, w5_80, w6_81, [zAr T 2 q_90 3 (fun _ => 0)]] _ _ := G
  refine z_putF C G hnm clX11 0 rfl 2 (by decide) m_fl_RX11_20 rfl rfl rfl rfl (Nat.le_of_ble_eq_true rfl) dX11_init_57 (fun H locs G => ?_)
  have G : zS T A s.heap s [[(xo, .inr (10, [.ref q_1, .ref q_23, .ref q_90, .null, .null, .null, .null, .null, .null, .null, .null]))], w_2, w1_9, w2_10, w3_11, w4_12, w5_13, w6_14, [zArq T 6 q_23 3 (va_up (va_up (va_up (fun _ => none) 0 (some q_24)) 1 (some q_46)) 2 (some q_68))], w_25, w1_32, w2_33, w3_34, w4_35, w5_36, w6_37, w_47, w1_54, w2_55, w3_56, w4_57, w5_58, w6_59, w_69, w1_76, w2_77, w3_78, w4_79, w5_80, w6_81, [zAr T 2 q_90 3 (fun _ => 0)]] _ _ := G
  refine lv_aload_n hx hb dX11_init_60 rfl (lv_at hl 0 rfl) ?_
  refine z_new C G clX7 (fs := [.null, .null, .null, .int 0, .int 0, .null, .int 0, .int 0, .int 0, .int 0, .int 0, .int 0, .int 0]) m_cl_RX11_24 m_in_RX7 m_ii_RX7 (fun j hj => by match j, hj with | 0, _ => rfl | 1, _ => rfl | 2, _ => rfl | 3, _ => rfl | 4, _ => rfl | 5, _ => rfl | 6, _ => rfl | 7, _ => rfl | 8, _ => rfl | 9, _ => rfl | 10, _ => rfl | 11, _ => rfl | 12, _ => rfl | j + 13, h => exact absurd h (by omega)) (Nat.le_of_ble_eq_true rfl) (Nat.le_of_ble_eq_true rfl) dX11_init_61 (fun q_91 H G => ?_)
  have G : zS T A s.heap s [[(xo, .inr (10, [.ref q_1, .ref q_23, .ref q_90, .null, .null, .null, .null, .null, .null, .null, .null]))], w_2, w1_9, w2_10, w3_11, w4_12, w5_13, w6_14, [zArq T 6 q_23 3 (va_up (va_up (va_up (fun _ => none) 0 (some q_24)) 1 (some q_46)) 2 (some q_68))], w_25, w1_32, w2_33, w3_34, w4_35, w5_36, w6_37, w_47, w1_54, w2_55, w3_56, w4_57, w5_58, w6_59, w_69, w1_76, w2_77, w3_78, w4_79, w5_80, w6_81, [zAr T 2 q_90 3 (fun _ => 0)], [(q_91, .inr (7, [.null, .null, .null, .int 0, .int 0, .null, .int 0, .int 0, .int 0, .int 0, .int 0, .int 0, .int 0]))]] _ _ := G
  refine lv_dup hx hb dX11_init_64 rfl ?_
  refine z_Jv (bc := [[(q_91, .inr (7, [.null, .null, .null, .int 0, .int 0, .null, .int 0, .int 0, .int 0, .int 0, .int 0, .int 0, .int 0]))]]) (br := [[(xo, .inr (10, [.ref q_1, .ref q_23, .ref q_90, .null, .null, .null, .null, .null, .null, .null, .null]))], w_2, w1_9, w2_10, w3_11, w4_12, w5_13, w6_14, [zArq T 6 q_23 3 (va_up (va_up (va_up (fun _ => none) 0 (some q_24)) 1 (some q_46)) 2 (some q_68))], w_25, w1_32, w2_33, w3_34, w4_35, w5_36, w6_37, w_47, w1_54, w2_55, w3_56, w4_57, w5_58, w6_59, w_69, w1_76, w2_77, w3_78, w4_79, w5_80, w6_81, [zAr T 2 q_90 3 (fun _ => 0)]]) (As := []) (rest := [.ref q_91, .ref xo]) C G (c_Reader_init l T q_91) (kJ_RX11_26 G.2.2.2.2.2.1 C.2.2.2.2 (Nat.le_of_ble_eq_true rfl) (Nat.le_of_ble_eq_true rfl)) [31] [31] rfl rfl rfl rfl hl.1 dX11_init_65 (Nat.le_of_ble_eq_true rfl) (Nat.le_of_ble_eq_true rfl) (fun b1 H locs hw G => ?_)
  refine zEx7 hw ?_
  intro rl_92 rdd_93 rg_94 tp_95 w1_96 w2_97 w3_98
  refine zCu4 ?_
  intro hbs9 h_99 h_100 h_101
  clear hw
  subst hbs9
  have G : zS T A s.heap s [[(xo, .inr (10, [.ref q_1, .ref q_23, .ref q_90, .null, .null, .null, .null, .null, .null, .null, .null]))], w_2, w1_9, w2_10, w3_11, w4_12, w5_13, w6_14, [zArq T 6 q_23 3 (va_up (va_up (va_up (fun _ => none) 0 (some q_24)) 1 (some q_46)) 2 (some q_68))], w_25, w1_32, w2_33, w3_34, w4_35, w5_36, w6_37, w_47, w1_54, w2_55, w3_56, w4_57, w5_58, w6_59, w_69, w1_76, w2_77, w3_78, w4_79, w5_80, w6_81, [zAr T 2 q_90 3 (fun _ => 0)], [zO7 q_91 rl_92 rdd_93 rg_94 0 0 tp_95 0 0 0 0 0 0 0], w1_96, w2_97, w3_98] _ _ := G
  refine z_putF C G hnm clX11 0 rfl 3 (by decide) m_fl_RX11_27 rfl rfl rfl rfl (Nat.le_of_ble_eq_true rfl) dX11_init_68 (fun H locs G => ?_)
  have G : zS T A s.heap s [[(xo, .inr (10, [.ref q_1, .ref q_23, .ref q_90, .ref q_91, .null, .null, .null, .null, .null, .null, .null]))], w_2, w1_9, w2_10, w3_11, w4_12, w5_13, w6_14, [zArq T 6 q_23 3 (va_up (va_up (va_up (fun _ => none) 0 (some q_24)) 1 (some q_46)) 2 (some q_68))], w_25, w1_32, w2_33, w3_34, w4_35, w5_36, w6_37, w_47, w1_54, w2_55, w3_56, w4_57, w5_58, w6_59, w_69, w1_76, w2_77, w3_78, w4_79, w5_80, w6_81, [zAr T 2 q_90 3 (fun _ => 0)], [zO7 q_91 rl_92 rdd_93 rg_94 0 0 tp_95 0 0 0 0 0 0 0], w1_96, w2_97, w3_98] _ _ := G
  refine lv_aload_n hx hb dX11_init_71 rfl (lv_at hl 0 rfl) ?_
  refine z_new C G clX6 (fs := [.null, .null, .null, .int 0, .int 0, .null]) m_cl_RX11_31 m_in_RX6 m_ii_RX6 (fun j hj => by match j, hj with | 0, _ => rfl | 1, _ => rfl | 2, _ => rfl | 3, _ => rfl | 4, _ => rfl | 5, _ => rfl | j + 6, h => exact absurd h (by omega)) (Nat.le_of_ble_eq_true rfl) (Nat.le_of_ble_eq_true rfl) dX11_init_72 (fun q_103 H G => ?_)
  have G : zS T A s.heap s [[(xo, .inr (10, [.ref q_1, .ref q_23, .ref q_90, .ref q_91, .null, .null, .null, .null, .null, .null, .null]))], w_2, w1_9, w2_10, w3_11, w4_12, w5_13, w6_14, [zArq T 6 q_23 3 (va_up (va_up (va_up (fun _ => none) 0 (some q_24)) 1 (some q_46)) 2 (some q_68))], w_25, w1_32, w2_33, w3_34, w4_35, w5_36, w6_37, w_47, w1_54, w2_55, w3_56, w4_57, w5_58, w6_59, w_69, w1_76, w2_77, w3_78, w4_79, w5_80, w6_81, [zAr T 2 q_90 3 (fun _ => 0)], [zO7 q_91 rl_92 rdd_93 rg_94 0 0 tp_95 0 0 0 0 0 0 0], w1_96, w2_97, w3_98, [(q_103, .inr (6, [.null, .null, .null, .int 0, .int 0, .null]))]] _ _ := G
  refine lv_dup hx hb dX11_init_75 rfl ?_
  refine z_Jv (bc := [[(q_103, .inr (6, [.null, .null, .null, .int 0, .int 0, .null]))]]) (br := [[(xo, .inr (10, [.ref q_1, .ref q_23, .ref q_90, .ref q_91, .null, .null, .null, .null, .null, .null, .null]))], w_2, w1_9, w2_10, w3_11, w4_12, w5_13, w6_14, [zArq T 6 q_23 3 (va_up (va_up (va_up (fun _ => none) 0 (some q_24)) 1 (some q_46)) 2 (some q_68))], w_25, w1_32, w2_33, w3_34, w4_35, w5_36, w6_37, w_47, w1_54, w2_55, w3_56, w4_57, w5_58, w6_59, w_69, w1_76, w2_77, w3_78, w4_79, w5_80, w6_81, [zAr T 2 q_90 3 (fun _ => 0)], [zO7 q_91 rl_92 rdd_93 rg_94 0 0 tp_95 0 0 0 0 0 0 0], w1_96, w2_97, w3_98]) (As := []) (rest := [.ref q_103, .ref xo]) C G (c_Posts_init l T q_103) (kJ_RX11_33 G.2.2.2.2.2.1 C.2.2.2.2 (Nat.le_of_ble_eq_true rfl) (Nat.le_of_ble_eq_true rfl)) [35] [35] rfl rfl rfl rfl hl.1 dX11_init_76 (Nat.le_of_ble_eq_true rfl) (Nat.le_of_ble_eq_true rfl) (fun b1 H locs hw G => ?_)
  refine zEx2 hw ?_
  intro w_104 la_105
  refine zCu2 ?_
  intro hbs9 h_106
  clear hw
  subst hbs9
  have G : zS T A s.heap s [[(xo, .inr (10, [.ref q_1, .ref q_23, .ref q_90, .ref q_91, .null, .null, .null, .null, .null, .null, .null]))], w_2, w1_9, w2_10, w3_11, w4_12, w5_13, w6_14, [zArq T 6 q_23 3 (va_up (va_up (va_up (fun _ => none) 0 (some q_24)) 1 (some q_46)) 2 (some q_68))], w_25, w1_32, w2_33, w3_34, w4_35, w5_36, w6_37, w_47, w1_54, w2_55, w3_56, w4_57, w5_58, w6_59, w_69, w1_76, w2_77, w3_78, w4_79, w5_80, w6_81, [zAr T 2 q_90 3 (fun _ => 0)], [zO7 q_91 rl_92 rdd_93 rg_94 0 0 tp_95 0 0 0 0 0 0 0], w1_96, w2_97, w3_98, w_104] _ _ := G
  refine z_putF C G hnm clX11 0 rfl 4 (by decide) m_fl_RX11_34 rfl rfl rfl rfl (Nat.le_of_ble_eq_true rfl) dX11_init_79 (fun H locs G => ?_)
  have G : zS T A s.heap s [[(xo, .inr (10, [.ref q_1, .ref q_23, .ref q_90, .ref q_91, .ref q_103, .null, .null, .null, .null, .null, .null]))], w_2, w1_9, w2_10, w3_11, w4_12, w5_13, w6_14, [zArq T 6 q_23 3 (va_up (va_up (va_up (fun _ => none) 0 (some q_24)) 1 (some q_46)) 2 (some q_68))], w_25, w1_32, w2_33, w3_34, w4_35, w5_36, w6_37, w_47, w1_54, w2_55, w3_56, w4_57, w5_58, w6_59, w_69, w1_76, w2_77, w3_78, w4_79, w5_80, w6_81, [zAr T 2 q_90 3 (fun _ => 0)], [zO7 q_91 rl_92 rdd_93 rg_94 0 0 tp_95 0 0 0 0 0 0 0], w1_96, w2_97, w3_98, w_104] _ _ := G
  refine lv_aload_n hx hb dX11_init_82 rfl (lv_at hl 0 rfl) ?_
  refine z_new C G clX1 (fs := [.null, .null, .int 0, .null, .int 0, .int 0, .int 0, .int 0, .int 0, .int 0, .int 0]) m_cl_RX11_38 m_in_RX1 m_ii_RX1 (fun j hj => by match j, hj with | 0, _ => rfl | 1, _ => rfl | 2, _ => rfl | 3, _ => rfl | 4, _ => rfl | 5, _ => rfl | 6, _ => rfl | 7, _ => rfl | 8, _ => rfl | 9, _ => rfl | 10, _ => rfl | j + 11, h => exact absurd h (by omega)) (Nat.le_of_ble_eq_true rfl) (Nat.le_of_ble_eq_true rfl) dX11_init_83 (fun q_108 H G => ?_)
  have G : zS T A s.heap s [[(xo, .inr (10, [.ref q_1, .ref q_23, .ref q_90, .ref q_91, .ref q_103, .null, .null, .null, .null, .null, .null]))], w_2, w1_9, w2_10, w3_11, w4_12, w5_13, w6_14, [zArq T 6 q_23 3 (va_up (va_up (va_up (fun _ => none) 0 (some q_24)) 1 (some q_46)) 2 (some q_68))], w_25, w1_32, w2_33, w3_34, w4_35, w5_36, w6_37, w_47, w1_54, w2_55, w3_56, w4_57, w5_58, w6_59, w_69, w1_76, w2_77, w3_78, w4_79, w5_80, w6_81, [zAr T 2 q_90 3 (fun _ => 0)], [zO7 q_91 rl_92 rdd_93 rg_94 0 0 tp_95 0 0 0 0 0 0 0], w1_96, w2_97, w3_98, w_104, [(q_108, .inr (1, [.null, .null, .int 0, .null, .int 0, .int 0, .int 0, .int 0, .int 0, .int 0, .int 0]))]] _ _ := G
  refine lv_dup hx hb dX11_init_86 rfl ?_
  refine z_Jv (bc := [[(q_108, .inr (1, [.null, .null, .int 0, .null, .int 0, .int 0, .int 0, .int 0, .int 0, .int 0, .int 0]))]]) (br := [[(xo, .inr (10, [.ref q_1, .ref q_23, .ref q_90, .ref q_91, .ref q_103, .null, .null, .null, .null, .null, .null]))], w_2, w1_9, w2_10, w3_11, w4_12, w5_13, w6_14, [zArq T 6 q_23 3 (va_up (va_up (va_up (fun _ => none) 0 (some q_24)) 1 (some q_46)) 2 (some q_68))], w_25, w1_32, w2_33, w3_34, w4_35, w5_36, w6_37, w_47, w1_54, w2_55, w3_56, w4_57, w5_58, w6_59, w_69, w1_76, w2_77, w3_78, w4_79, w5_80, w6_81, [zAr T 2 q_90 3 (fun _ => 0)], [zO7 q_91 rl_92 rdd_93 rg_94 0 0 tp_95 0 0 0 0 0 0 0], w1_96, w2_97, w3_98, w_104]) (As := []) (rest := [.ref q_108, .ref xo]) C G (c_Course_init l T q_108) (kJ_RX11_40 G.2.2.2.2.2.1 C.2.2.2.2 (Nat.le_of_ble_eq_true rfl) (Nat.le_of_ble_eq_true rfl)) [36] [36] rfl rfl rfl rfl hl.1 dX11_init_87 (Nat.le_of_ble_eq_true rfl) (Nat.le_of_ble_eq_true rfl) (fun b1 H locs hw G => ?_)
  refine zEx5 hw ?_
  intro w_109 po_110 lc_111 la_112 w1_113
  refine zCu3 ?_
  intro hbs9 h_114 h_115
  clear hw
  subst hbs9
  have G : zS T A s.heap s [[(xo, .inr (10, [.ref q_1, .ref q_23, .ref q_90, .ref q_91, .ref q_103, .null, .null, .null, .null, .null, .null]))], w_2, w1_9, w2_10, w3_11, w4_12, w5_13, w6_14, [zArq T 6 q_23 3 (va_up (va_up (va_up (fun _ => none) 0 (some q_24)) 1 (some q_46)) 2 (some q_68))], w_25, w1_32, w2_33, w3_34, w4_35, w5_36, w6_37, w_47, w1_54, w2_55, w3_56, w4_57, w5_58, w6_59, w_69, w1_76, w2_77, w3_78, w4_79, w5_80, w6_81, [zAr T 2 q_90 3 (fun _ => 0)], [zO7 q_91 rl_92 rdd_93 rg_94 0 0 tp_95 0 0 0 0 0 0 0], w1_96, w2_97, w3_98, w_104, w_109, w1_113] _ _ := G
  refine z_putF C G hnm clX11 0 rfl 5 (by decide) m_fl_RX11_41 rfl rfl rfl rfl (Nat.le_of_ble_eq_true rfl) dX11_init_90 (fun H locs G => ?_)
  have G : zS T A s.heap s [[(xo, .inr (10, [.ref q_1, .ref q_23, .ref q_90, .ref q_91, .ref q_103, .ref q_108, .null, .null, .null, .null, .null]))], w_2, w1_9, w2_10, w3_11, w4_12, w5_13, w6_14, [zArq T 6 q_23 3 (va_up (va_up (va_up (fun _ => none) 0 (some q_24)) 1 (some q_46)) 2 (some q_68))], w_25, w1_32, w2_33, w3_34, w4_35, w5_36, w6_37, w_47, w1_54, w2_55, w3_56, w4_57, w5_58, w6_59, w_69, w1_76, w2_77, w3_78, w4_79, w5_80, w6_81, [zAr T 2 q_90 3 (fun _ => 0)], [zO7 q_91 rl_92 rdd_93 rg_94 0 0 tp_95 0 0 0 0 0 0 0], w1_96, w2_97, w3_98, w_104, w_109, w1_113] _ _ := G
  refine lv_aload_n hx hb dX11_init_93 rfl (lv_at hl 0 rfl) ?_
  refine z_new C G clX10 (fs := [.null, .null, .null, .int 0, .int 0, .int 0, .int 0, .int 0]) m_cl_RX11_45 m_in_RX10 m_ii_RX10 (fun j hj => by match j, hj with | 0, _ => rfl | 1, _ => rfl | 2, _ => rfl | 3, _ => rfl | 4, _ => rfl | 5, _ => rfl | 6, _ => rfl | 7, _ => rfl | j + 8, h => exact absurd h (by omega)) (Nat.le_of_ble_eq_true rfl) (Nat.le_of_ble_eq_true rfl) dX11_init_94 (fun q_117 H G => ?_)
  have G : zS T A s.heap s [[(xo, .inr (10, [.ref q_1, .ref q_23, .ref q_90, .ref q_91, .ref q_103, .ref q_108, .null, .null, .null, .null, .null]))], w_2, w1_9, w2_10, w3_11, w4_12, w5_13, w6_14, [zArq T 6 q_23 3 (va_up (va_up (va_up (fun _ => none) 0 (some q_24)) 1 (some q_46)) 2 (some q_68))], w_25, w1_32, w2_33, w3_34, w4_35, w5_36, w6_37, w_47, w1_54, w2_55, w3_56, w4_57, w5_58, w6_59, w_69, w1_76, w2_77, w3_78, w4_79, w5_80, w6_81, [zAr T 2 q_90 3 (fun _ => 0)], [zO7 q_91 rl_92 rdd_93 rg_94 0 0 tp_95 0 0 0 0 0 0 0], w1_96, w2_97, w3_98, w_104, w_109, w1_113, [(q_117, .inr (9, [.null, .null, .null, .int 0, .int 0, .int 0, .int 0, .int 0]))]] _ _ := G
  refine lv_dup hx hb dX11_init_97 rfl ?_
  refine z_Jv (bc := [[(q_117, .inr (9, [.null, .null, .null, .int 0, .int 0, .int 0, .int 0, .int 0]))]]) (br := [[(xo, .inr (10, [.ref q_1, .ref q_23, .ref q_90, .ref q_91, .ref q_103, .ref q_108, .null, .null, .null, .null, .null]))], w_2, w1_9, w2_10, w3_11, w4_12, w5_13, w6_14, [zArq T 6 q_23 3 (va_up (va_up (va_up (fun _ => none) 0 (some q_24)) 1 (some q_46)) 2 (some q_68))], w_25, w1_32, w2_33, w3_34, w4_35, w5_36, w6_37, w_47, w1_54, w2_55, w3_56, w4_57, w5_58, w6_59, w_69, w1_76, w2_77, w3_78, w4_79, w5_80, w6_81, [zAr T 2 q_90 3 (fun _ => 0)], [zO7 q_91 rl_92 rdd_93 rg_94 0 0 tp_95 0 0 0 0 0 0 0], w1_96, w2_97, w3_98, w_104, w_109, w1_113]) (As := []) (rest := [.ref q_117, .ref xo]) C G (c_Trail_init l T q_117) (kJ_RX11_47 G.2.2.2.2.2.1 C.2.2.2.2 (Nat.le_of_ble_eq_true rfl) (Nat.le_of_ble_eq_true rfl)) [38] [38] rfl rfl rfl rfl hl.1 dX11_init_98 (Nat.le_of_ble_eq_true rfl) (Nat.le_of_ble_eq_true rfl) (fun b1 H locs hw G => ?_)
  refine zEx4 hw ?_
  intro w_118 po_119 la_120 w1_121
  refine zCu3 ?_
  intro hbs9 h_122 h_123
  clear hw
  subst hbs9
  have G : zS T A s.heap s [[(xo, .inr (10, [.ref q_1, .ref q_23, .ref q_90, .ref q_91, .ref q_103, .ref q_108, .null, .null, .null, .null, .null]))], w_2, w1_9, w2_10, w3_11, w4_12, w5_13, w6_14, [zArq T 6 q_23 3 (va_up (va_up (va_up (fun _ => none) 0 (some q_24)) 1 (some q_46)) 2 (some q_68))], w_25, w1_32, w2_33, w3_34, w4_35, w5_36, w6_37, w_47, w1_54, w2_55, w3_56, w4_57, w5_58, w6_59, w_69, w1_76, w2_77, w3_78, w4_79, w5_80, w6_81, [zAr T 2 q_90 3 (fun _ => 0)], [zO7 q_91 rl_92 rdd_93 rg_94 0 0 tp_95 0 0 0 0 0 0 0], w1_96, w2_97, w3_98, w_104, w_109, w1_113, w_118, w1_121] _ _ := G
  refine z_putF C G hnm clX11 0 rfl 6 (by decide) m_fl_RX11_48 rfl rfl rfl rfl (Nat.le_of_ble_eq_true rfl) dX11_init_101 (fun H locs G => ?_)
  have G : zS T A s.heap s [[(xo, .inr (10, [.ref q_1, .ref q_23, .ref q_90, .ref q_91, .ref q_103, .ref q_108, .ref q_117, .null, .null, .null, .null]))], w_2, w1_9, w2_10, w3_11, w4_12, w5_13, w6_14, [zArq T 6 q_23 3 (va_up (va_up (va_up (fun _ => none) 0 (some q_24)) 1 (some q_46)) 2 (some q_68))], w_25, w1_32, w2_33, w3_34, w4_35, w5_36, w6_37, w_47, w1_54, w2_55, w3_56, w4_57, w5_58, w6_59, w_69, w1_76, w2_77, w3_78, w4_79, w5_80, w6_81, [zAr T 2 q_90 3 (fun _ => 0)], [zO7 q_91 rl_92 rdd_93 rg_94 0 0 tp_95 0 0 0 0 0 0 0], w1_96, w2_97, w3_98, w_104, w_109, w1_113, w_118, w1_121] _ _ := G
  refine lv_aload_n hx hb dX11_init_104 rfl (lv_at hl 0 rfl) ?_
  refine z_new C G clX0 (fs := [.int 0, .int 0, .null, .int 0, .null, .null, .null, .null, .null, .null]) m_cl_RX11_52 m_in_RX0 m_ii_RX0 (fun j hj => by match j, hj with | 0, _ => rfl | 1, _ => rfl | 2, _ => rfl | 3, _ => rfl | 4, _ => rfl | 5, _ => rfl | 6, _ => rfl | 7, _ => rfl | 8, _ => rfl | 9, _ => rfl | j + 10, h => exact absurd h (by omega)) (Nat.le_of_ble_eq_true rfl) (Nat.le_of_ble_eq_true rfl) dX11_init_105 (fun q_125 H G => ?_)
  have G : zS T A s.heap s [[(xo, .inr (10, [.ref q_1, .ref q_23, .ref q_90, .ref q_91, .ref q_103, .ref q_108, .ref q_117, .null, .null, .null, .null]))], w_2, w1_9, w2_10, w3_11, w4_12, w5_13, w6_14, [zArq T 6 q_23 3 (va_up (va_up (va_up (fun _ => none) 0 (some q_24)) 1 (some q_46)) 2 (some q_68))], w_25, w1_32, w2_33, w3_34, w4_35, w5_36, w6_37, w_47, w1_54, w2_55, w3_56, w4_57, w5_58, w6_59, w_69, w1_76, w2_77, w3_78, w4_79, w5_80, w6_81, [zAr T 2 q_90 3 (fun _ => 0)], [zO7 q_91 rl_92 rdd_93 rg_94 0 0 tp_95 0 0 0 0 0 0 0], w1_96, w2_97, w3_98, w_104, w_109, w1_113, w_118, w1_121, [(q_125, .inr (0, [.int 0, .int 0, .null, .int 0, .null, .null, .null, .null, .null, .null]))]] _ _ := G
  refine lv_dup hx hb dX11_init_108 rfl ?_
  refine z_Jv (bc := [[(q_125, .inr (0, [.int 0, .int 0, .null, .int 0, .null, .null, .null, .null, .null, .null]))]]) (br := [[(xo, .inr (10, [.ref q_1, .ref q_23, .ref q_90, .ref q_91, .ref q_103, .ref q_108, .ref q_117, .null, .null, .null, .null]))], w_2, w1_9, w2_10, w3_11, w4_12, w5_13, w6_14, [zArq T 6 q_23 3 (va_up (va_up (va_up (fun _ => none) 0 (some q_24)) 1 (some q_46)) 2 (some q_68))], w_25, w1_32, w2_33, w3_34, w4_35, w5_36, w6_37, w_47, w1_54, w2_55, w3_56, w4_57, w5_58, w6_59, w_69, w1_76, w2_77, w3_78, w4_79, w5_80, w6_81, [zAr T 2 q_90 3 (fun _ => 0)], [zO7 q_91 rl_92 rdd_93 rg_94 0 0 tp_95 0 0 0 0 0 0 0], w1_96, w2_97, w3_98, w_104, w_109, w1_113, w_118, w1_121]) (As := []) (rest := [.ref q_125, .ref xo]) C G (c_Ways_init l T q_125) (kJ_RX11_54 G.2.2.2.2.2.1 C.2.2.2.2 (Nat.le_of_ble_eq_true rfl) (Nat.le_of_ble_eq_true rfl)) [40] [40] rfl rfl rfl rfl hl.1 dX11_init_109 (Nat.le_of_ble_eq_true rfl) (Nat.le_of_ble_eq_true rfl) (fun b1 H locs hw G => ?_)
  refine zEx2 hw ?_
  intro w_126 la_127
  refine zCu2 ?_
  intro hbs9 h_128
  clear hw
  subst hbs9
  have G : zS T A s.heap s [[(xo, .inr (10, [.ref q_1, .ref q_23, .ref q_90, .ref q_91, .ref q_103, .ref q_108, .ref q_117, .null, .null, .null, .null]))], w_2, w1_9, w2_10, w3_11, w4_12, w5_13, w6_14, [zArq T 6 q_23 3 (va_up (va_up (va_up (fun _ => none) 0 (some q_24)) 1 (some q_46)) 2 (some q_68))], w_25, w1_32, w2_33, w3_34, w4_35, w5_36, w6_37, w_47, w1_54, w2_55, w3_56, w4_57, w5_58, w6_59, w_69, w1_76, w2_77, w3_78, w4_79, w5_80, w6_81, [zAr T 2 q_90 3 (fun _ => 0)], [zO7 q_91 rl_92 rdd_93 rg_94 0 0 tp_95 0 0 0 0 0 0 0], w1_96, w2_97, w3_98, w_104, w_109, w1_113, w_118, w1_121, w_126] _ _ := G
  refine z_putF C G hnm clX11 0 rfl 7 (by decide) m_fl_RX11_55 rfl rfl rfl rfl (Nat.le_of_ble_eq_true rfl) dX11_init_112 (fun H locs G => ?_)
  have G : zS T A s.heap s [[(xo, .inr (10, [.ref q_1, .ref q_23, .ref q_90, .ref q_91, .ref q_103, .ref q_108, .ref q_117, .ref q_125, .null, .null, .null]))], w_2, w1_9, w2_10, w3_11, w4_12, w5_13, w6_14, [zArq T 6 q_23 3 (va_up (va_up (va_up (fun _ => none) 0 (some q_24)) 1 (some q_46)) 2 (some q_68))], w_25, w1_32, w2_33, w3_34, w4_35, w5_36, w6_37, w_47, w1_54, w2_55, w3_56, w4_57, w5_58, w6_59, w_69, w1_76, w2_77, w3_78, w4_79, w5_80, w6_81, [zAr T 2 q_90 3 (fun _ => 0)], [zO7 q_91 rl_92 rdd_93 rg_94 0 0 tp_95 0 0 0 0 0 0 0], w1_96, w2_97, w3_98, w_104, w_109, w1_113, w_118, w1_121, w_126] _ _ := G
  refine lv_aload_n hx hb dX11_init_115 rfl (lv_at hl 0 rfl) ?_
  refine z_new C G clX0 (fs := [.int 0, .int 0, .null, .int 0, .null, .null, .null, .null, .null, .null]) m_cl_RX11_52 m_in_RX0 m_ii_RX0 (fun j hj => by match j, hj with | 0, _ => rfl | 1, _ => rfl | 2, _ => rfl | 3, _ => rfl | 4, _ => rfl | 5, _ => rfl | 6, _ => rfl | 7, _ => rfl | 8, _ => rfl | 9, _ => rfl | j + 10, h => exact absurd h (by omega)) (Nat.le_of_ble_eq_true rfl) (Nat.le_of_ble_eq_true rfl) dX11_init_116 (fun q_130 H G => ?_)
  have G : zS T A s.heap s [[(xo, .inr (10, [.ref q_1, .ref q_23, .ref q_90, .ref q_91, .ref q_103, .ref q_108, .ref q_117, .ref q_125, .null, .null, .null]))], w_2, w1_9, w2_10, w3_11, w4_12, w5_13, w6_14, [zArq T 6 q_23 3 (va_up (va_up (va_up (fun _ => none) 0 (some q_24)) 1 (some q_46)) 2 (some q_68))], w_25, w1_32, w2_33, w3_34, w4_35, w5_36, w6_37, w_47, w1_54, w2_55, w3_56, w4_57, w5_58, w6_59, w_69, w1_76, w2_77, w3_78, w4_79, w5_80, w6_81, [zAr T 2 q_90 3 (fun _ => 0)], [zO7 q_91 rl_92 rdd_93 rg_94 0 0 tp_95 0 0 0 0 0 0 0], w1_96, w2_97, w3_98, w_104, w_109, w1_113, w_118, w1_121, w_126, [(q_130, .inr (0, [.int 0, .int 0, .null, .int 0, .null, .null, .null, .null, .null, .null]))]] _ _ := G
  refine lv_dup hx hb dX11_init_119 rfl ?_
  refine z_Jv (bc := [[(q_130, .inr (0, [.int 0, .int 0, .null, .int 0, .null, .null, .null, .null, .null, .null]))]]) (br := [[(xo, .inr (10, [.ref q_1, .ref q_23, .ref q_90, .ref q_91, .ref q_103, .ref q_108, .ref q_117, .ref q_125, .null, .null, .null]))], w_2, w1_9, w2_10, w3_11, w4_12, w5_13, w6_14, [zArq T 6 q_23 3 (va_up (va_up (va_up (fun _ => none) 0 (some q_24)) 1 (some q_46)) 2 (some q_68))], w_25, w1_32, w2_33, w3_34, w4_35, w5_36, w6_37, w_47, w1_54, w2_55, w3_56, w4_57, w5_58, w6_59, w_69, w1_76, w2_77, w3_78, w4_79, w5_80, w6_81, [zAr T 2 q_90 3 (fun _ => 0)], [zO7 q_91 rl_92 rdd_93 rg_94 0 0 tp_95 0 0 0 0 0 0 0], w1_96, w2_97, w3_98, w_104, w_109, w1_113, w_118, w1_121, w_126]) (As := []) (rest := [.ref q_130, .ref xo]) C G (c_Ways_init l T q_130) (kJ_RX11_54 G.2.2.2.2.2.1 C.2.2.2.2 (Nat.le_of_ble_eq_true rfl) (Nat.le_of_ble_eq_true rfl)) [41] [41] rfl rfl rfl rfl hl.1 dX11_init_120 (Nat.le_of_ble_eq_true rfl) (Nat.le_of_ble_eq_true rfl) (fun b1 H locs hw G => ?_)
  refine zEx2 hw ?_
  intro w_131 la_132
  refine zCu2 ?_
  intro hbs9 h_133
  clear hw
  subst hbs9
  have G : zS T A s.heap s [[(xo, .inr (10, [.ref q_1, .ref q_23, .ref q_90, .ref q_91, .ref q_103, .ref q_108, .ref q_117, .ref q_125, .null, .null, .null]))], w_2, w1_9, w2_10, w3_11, w4_12, w5_13, w6_14, [zArq T 6 q_23 3 (va_up (va_up (va_up (fun _ => none) 0 (some q_24)) 1 (some q_46)) 2 (some q_68))], w_25, w1_32, w2_33, w3_34, w4_35, w5_36, w6_37, w_47, w1_54, w2_55, w3_56, w4_57, w5_58, w6_59, w_69, w1_76, w2_77, w3_78, w4_79, w5_80, w6_81, [zAr T 2 q_90 3 (fun _ => 0)], [zO7 q_91 rl_92 rdd_93 rg_94 0 0 tp_95 0 0 0 0 0 0 0], w1_96, w2_97, w3_98, w_104, w_109, w1_113, w_118, w1_121, w_126, w_131] _ _ := G
  refine z_putF C G hnm clX11 0 rfl 8 (by decide) m_fl_RX11_59 rfl rfl rfl rfl (Nat.le_of_ble_eq_true rfl) dX11_init_123 (fun H locs G => ?_)
  have G : zS T A s.heap s [[(xo, .inr (10, [.ref q_1, .ref q_23, .ref q_90, .ref q_91, .ref q_103, .ref q_108, .ref q_117, .ref q_125, .ref q_130, .null, .null]))], w_2, w1_9, w2_10, w3_11, w4_12, w5_13, w6_14, [zArq T 6 q_23 3 (va_up (va_up (va_up (fun _ => none) 0 (some q_24)) 1 (some q_46)) 2 (some q_68))], w_25, w1_32, w2_33, w3_34, w4_35, w5_36, w6_37, w_47, w1_54, w2_55, w3_56, w4_57, w5_58, w6_59, w_69, w1_76, w2_77, w3_78, w4_79, w5_80, w6_81, [zAr T 2 q_90 3 (fun _ => 0)], [zO7 q_91 rl_92 rdd_93 rg_94 0 0 tp_95 0 0 0 0 0 0 0], w1_96, w2_97, w3_98, w_104, w_109, w1_113, w_118, w1_121, w_126, w_131] _ _ := G
  refine lv_aload_n hx hb dX11_init_126 rfl (lv_at hl 0 rfl) ?_
  refine z_new C G clX3 (fs := [.int 0, .int 0, .int 0, .int 0, .int 0, .int 0, .null, .null]) m_cl_RX11_62 m_in_RX3 m_ii_RX3 (fun j hj => by match j, hj with | 0, _ => rfl | 1, _ => rfl | 2, _ => rfl | 3, _ => rfl | 4, _ => rfl | 5, _ => rfl | 6, _ => rfl | 7, _ => rfl | j + 8, h => exact absurd h (by omega)) (Nat.le_of_ble_eq_true rfl) (Nat.le_of_ble_eq_true rfl) dX11_init_127 (fun q_135 H G => ?_)
  have G : zS T A s.heap s [[(xo, .inr (10, [.ref q_1, .ref q_23, .ref q_90, .ref q_91, .ref q_103, .ref q_108, .ref q_117, .ref q_125, .ref q_130, .null, .null]))], w_2, w1_9, w2_10, w3_11, w4_12, w5_13, w6_14, [zArq T 6 q_23 3 (va_up (va_up (va_up (fun _ => none) 0 (some q_24)) 1 (some q_46)) 2 (some q_68))], w_25, w1_32, w2_33, w3_34, w4_35, w5_36, w6_37, w_47, w1_54, w2_55, w3_56, w4_57, w5_58, w6_59, w_69, w1_76, w2_77, w3_78, w4_79, w5_80, w6_81, [zAr T 2 q_90 3 (fun _ => 0)], [zO7 q_91 rl_92 rdd_93 rg_94 0 0 tp_95 0 0 0 0 0 0 0], w1_96, w2_97, w3_98, w_104, w_109, w1_113, w_118, w1_121, w_126, w_131, [(q_135, .inr (3, [.int 0, .int 0, .int 0, .int 0, .int 0, .int 0, .null, .null]))]] _ _ := G
  refine lv_dup hx hb dX11_init_130 rfl ?_
  refine z_Jv (bc := [[(q_135, .inr (3, [.int 0, .int 0, .int 0, .int 0, .int 0, .int 0, .null, .null]))]]) (br := [[(xo, .inr (10, [.ref q_1, .ref q_23, .ref q_90, .ref q_91, .ref q_103, .ref q_108, .ref q_117, .ref q_125, .ref q_130, .null, .null]))], w_2, w1_9, w2_10, w3_11, w4_12, w5_13, w6_14, [zArq T 6 q_23 3 (va_up (va_up (va_up (fun _ => none) 0 (some q_24)) 1 (some q_46)) 2 (some q_68))], w_25, w1_32, w2_33, w3_34, w4_35, w5_36, w6_37, w_47, w1_54, w2_55, w3_56, w4_57, w5_58, w6_59, w_69, w1_76, w2_77, w3_78, w4_79, w5_80, w6_81, [zAr T 2 q_90 3 (fun _ => 0)], [zO7 q_91 rl_92 rdd_93 rg_94 0 0 tp_95 0 0 0 0 0 0 0], w1_96, w2_97, w3_98, w_104, w_109, w1_113, w_118, w1_121, w_126, w_131]) (As := []) (rest := [.ref q_135, .ref xo]) C G (c_Fit_init l T q_135) (kJ_RX11_64 G.2.2.2.2.2.1 C.2.2.2.2 (Nat.le_of_ble_eq_true rfl) (Nat.le_of_ble_eq_true rfl)) [42] [42] rfl rfl rfl rfl hl.1 dX11_init_131 (Nat.le_of_ble_eq_true rfl) (Nat.le_of_ble_eq_true rfl) (fun b1 H locs hw G => ?_)
  refine zEx1 hw ?_
  intro w_136
  refine zCu2 ?_
  intro hbs9 h_137
  clear hw
  subst hbs9
  have G : zS T A s.heap s [[(xo, .inr (10, [.ref q_1, .ref q_23, .ref q_90, .ref q_91, .ref q_103, .ref q_108, .ref q_117, .ref q_125, .ref q_130, .null, .null]))], w_2, w1_9, w2_10, w3_11, w4_12, w5_13, w6_14, [zArq T 6 q_23 3 (va_up (va_up (va_up (fun _ => none) 0 (some q_24)) 1 (some q_46)) 2 (some q_68))], w_25, w1_32, w2_33, w3_34, w4_35, w5_36, w6_37, w_47, w1_54, w2_55, w3_56, w4_57, w5_58, w6_59, w_69, w1_76, w2_77, w3_78, w4_79, w5_80, w6_81, [zAr T 2 q_90 3 (fun _ => 0)], [zO7 q_91 rl_92 rdd_93 rg_94 0 0 tp_95 0 0 0 0 0 0 0], w1_96, w2_97, w3_98, w_104, w_109, w1_113, w_118, w1_121, w_126, w_131, w_136] _ _ := G
  refine z_putF C G hnm clX11 0 rfl 9 (by decide) m_fl_RX11_65 rfl rfl rfl rfl (Nat.le_of_ble_eq_true rfl) dX11_init_134 (fun H locs G => ?_)
  have G : zS T A s.heap s [[(xo, .inr (10, [.ref q_1, .ref q_23, .ref q_90, .ref q_91, .ref q_103, .ref q_108, .ref q_117, .ref q_125, .ref q_130, .ref q_135, .null]))], w_2, w1_9, w2_10, w3_11, w4_12, w5_13, w6_14, [zArq T 6 q_23 3 (va_up (va_up (va_up (fun _ => none) 0 (some q_24)) 1 (some q_46)) 2 (some q_68))], w_25, w1_32, w2_33, w3_34, w4_35, w5_36, w6_37, w_47, w1_54, w2_55, w3_56, w4_57, w5_58, w6_59, w_69, w1_76, w2_77, w3_78, w4_79, w5_80, w6_81, [zAr T 2 q_90 3 (fun _ => 0)], [zO7 q_91 rl_92 rdd_93 rg_94 0 0 tp_95 0 0 0 0 0 0 0], w1_96, w2_97, w3_98, w_104, w_109, w1_113, w_118, w1_121, w_126, w_131, w_136] _ _ := G
  refine lv_aload_n hx hb dX11_init_137 rfl (lv_at hl 0 rfl) ?_
  refine lv_sipush (v := 1000) hx hb dX11_init_138 (by decide) ?_
  refine z_newa C G 0 (ty := .int) (N' := 1000) (a0 := (1000, .inl (fun _ => 0))) rfl z_uint m_ar_int rfl (fun _ => rfl) (by decide) (by decide) (Nat.le_of_ble_eq_true rfl) (Nat.le_of_ble_eq_true rfl) (Nat.le_of_ble_eq_true rfl) dX11_init_141 (fun q_139 H G => ?_)
  have G : zS T A s.heap s [[(xo, .inr (10, [.ref q_1, .ref q_23, .ref q_90, .ref q_91, .ref q_103, .ref q_108, .ref q_117, .ref q_125, .ref q_130, .ref q_135, .null]))], w_2, w1_9, w2_10, w3_11, w4_12, w5_13, w6_14, [zArq T 6 q_23 3 (va_up (va_up (va_up (fun _ => none) 0 (some q_24)) 1 (some q_46)) 2 (some q_68))], w_25, w1_32, w2_33, w3_34, w4_35, w5_36, w6_37, w_47, w1_54, w2_55, w3_56, w4_57, w5_58, w6_59, w_69, w1_76, w2_77, w3_78, w4_79, w5_80, w6_81, [zAr T 2 q_90 3 (fun _ => 0)], [zO7 q_91 rl_92 rdd_93 rg_94 0 0 tp_95 0 0 0 0 0 0 0], w1_96, w2_97, w3_98, w_104, w_109, w1_113, w_118, w1_121, w_126, w_131, w_136, [zAr T 0 q_139 1000 (fun _ => 0)]] _ _ := G
  refine z_putF C G hnm clX11 0 rfl 10 (by decide) m_fl_RX11_69 rfl rfl rfl rfl (Nat.le_of_ble_eq_true rfl) dX11_init_143 (fun H locs G => ?_)
  have G : zS T A s.heap s [[zO10 xo q_1 q_23 q_90 q_91 q_103 q_108 q_117 q_125 q_130 q_135 q_139], w_2, w1_9, w2_10, w3_11, w4_12, w5_13, w6_14, [zArq T 6 q_23 3 (va_up (va_up (va_up (fun _ => none) 0 (some q_24)) 1 (some q_46)) 2 (some q_68))], w_25, w1_32, w2_33, w3_34, w4_35, w5_36, w6_37, w_47, w1_54, w2_55, w3_56, w4_57, w5_58, w6_59, w_69, w1_76, w2_77, w3_78, w4_79, w5_80, w6_81, [zAr T 2 q_90 3 (fun _ => 0)], [zO7 q_91 rl_92 rdd_93 rg_94 0 0 tp_95 0 0 0 0 0 0 0], w1_96, w2_97, w3_98, w_104, w_109, w1_113, w_118, w1_121, w_126, w_131, w_136, [zAr T 0 q_139 1000 (fun _ => 0)]] _ _ := G
  have G := G.sub (bs' := [[zO10 xo q_1 q_23 q_90 q_91 q_103 q_108 q_117 q_125 q_130 q_135 q_139], w_2, w1_9, w2_10, w3_11, w4_12, w5_13, w6_14, w_25, w1_32, w2_33, w3_34, w4_35, w5_36, w6_37, w_47, w1_54, w2_55, w3_56, w4_57, w5_58, w6_59, w_69, w1_76, w2_77, w3_78, w4_79, w5_80, w6_81, [zArq T 6 q_23 3 (va_up (va_up (va_up (fun _ => none) 0 (some q_24)) 1 (some q_46)) 2 (some q_68))], [zAr T 2 q_90 3 (fun _ => 0)], [zO7 q_91 rl_92 rdd_93 rg_94 0 0 tp_95 0 0 0 0 0 0 0], w1_96, w2_97, w3_98, w_104, w_109, w1_113, w_118, w1_121, w_126, w_131, w_136, [zAr T 0 q_139 1000 (fun _ => 0)]]) [0, 1, 2, 3, 4, 5, 6, 7, 9, 10, 11, 12, 13, 14, 15, 16, 17, 18, 19, 20, 21, 22, 23, 24, 25, 26, 27, 28, 29, 8, 30, 31, 32, 33, 34, 35, 36, 37, 38, 39, 40, 41, 42, 43] rfl
  exact z_back hQz_ (z_vret C hr hlocks G (Nat.le_of_ble_eq_true rfl) (Nat.le_of_ble_eq_true rfl) dX11_init_146 ⟨q_1, q_23, q_90, q_91, q_103, q_108, q_117, q_125, q_130, q_135, q_139, l0_3, l1_4, d0_5, d1_6, g0_7, g1_8, w_2, w1_9, w2_10, w3_11, w4_12, w5_13, w6_14, q_24, l0_26, l1_27, d0_28, d1_29, g0_30, g1_31, w_25, w1_32, w2_33, w3_34, w4_35, w5_36, w6_37, q_46, l0_48, l1_49, d0_50, d1_51, g0_52, g1_53, w_47, w1_54, w2_55, w3_56, w4_57, w5_58, w6_59, q_68, l0_70, l1_71, d0_72, d1_73, g0_74, g1_75, w_69, w1_76, w2_77, w3_78, w4_79, w5_80, w6_81, (va_up (va_up (va_up (fun _ => none) 0 (some q_24)) 1 (some q_46)) 2 (some q_68)), rl_92, rdd_93, rg_94, tp_95, w1_96, w2_97, w3_98, la_105, w_104, po_110, lc_111, w_109, la_112, w1_113, po_119, w_118, la_120, w1_121, la_127, w_126, la_132, w_131, w_136, rfl, h_15, h_16, h_17, h_18, h_19, h_20, h_21, h_38, h_39, h_40, h_41, h_42, h_43, h_44, h_60, h_61, h_62, h_63, h_64, h_65, h_66, h_82, h_83, h_84, h_85, h_86, h_87, h_88, rfl, rfl, rfl, h_99, h_100, h_101, h_106, h_114, h_115, h_122, h_123, h_128, h_133, h_137⟩)
set_option maxHeartbeats 4000000 in
set_option maxRecDepth 100000 in
/-- trees -/
theorem c_trees (l : Launch) (T : zTy) (xo : Nat) (t : Nat) (im : Nat) (mk : Nat) (rd : Nat) (po : Nat) (co : Nat) (tr : Nat) (wa : Nat) (wb_ : Nat) (fi : Nat) (cd : Nat) (l0 : Nat) (l1 : Nat) (d0 : Nat) (d1 : Nat) (g0 : Nat) (g1 : Nat) (ln : Int32) (fl : Int32) (pl : Int32) (ft : Nat → Int32) (fk : Nat → Int32) (wt : va_W) (cr0_ : Int32) (inn0_ : Int32) (k10_ : Nat → Int32) (k20_ : Nat → Int32) (k30_ : Nat → Int32) (k40_ : Nat → Int32) (z0_ : va_W) (cr1_ : Int32) (inn1_ : Int32) (k11_ : Nat → Int32) (k21_ : Nat → Int32) (k31_ : Nat → Int32) (k41_ : Nat → Int32) (z1_ : va_W) (laA : Nat) (mdA : Int32) (wyA : Int32) (pc_A : Int32) (f1A : Nat → Int32) (f2A : Nat → Int32) (f3A : Nat → Int32) (f4A : Nat → Int32) (f5A : Nat → Int32) (f6A : Nat → Int32) (n4A : Nat) (wwA : va_W) (laB : Nat) (mdB : Int32) (wyB : Int32) (pc_B : Int32) (f1B : Nat → Int32) (f2B : Nat → Int32) (f3B : Nat → Int32) (f4B : Nat → Int32) (f5B : Nat → Int32) (f6B : Nat → Int32) (n4B : Nat) (wwB : va_W) (i1 : Int32) (ht : bTold T t l0 l1 d0 d1 g0 g1 ln fl pl ft fk wt) (hK : zKT fk) (hz0_ : bLand T l0 cr0_ inn0_ k10_ k20_ k30_ k40_ z0_) (hI0_ : zLI cr0_ k10_ k30_) (hz1_ : bLand T l1 cr1_ inn1_ k11_ k21_ k31_ k41_ z1_) (hI1_ : zLI cr1_ k11_ k31_) (hwwA : bWays T wa laA mdA wyA pc_A f1A f2A f3A f4A f5A f6A n4A wwA) (hpwA : zPw n4A) (hmdA : mdA = 0 ∨ laA = l0) (hwmA : 0 ≤ wyA.toInt ∧ wyA.toInt ≤ 16384) (hwwB : bWays T wb_ laB mdB wyB pc_B f1B f2B f3B f4B f5B f6B n4B wwB) (hpwB : zPw n4B) (hmdB : mdB = 0 ∨ laB = l1) (hwmB : 0 ≤ wyB.toInt ∧ wyB.toInt ≤ 16384) : zMi l T yX11_trees cX11_trees 4 (some .int) 6 0 0 [.ref xo, .int i1] [[zO10 xo t im mk rd po co tr wa wb_ fi cd], wt, z0_, z1_, wwA, wwB] (fun (r : Int32) bs => ∃ (laA_2 : Nat) (mdA_2 : Int32) (wyA_2 : Int32) (pc_A_2 : Int32) (f1A_2 : Nat → Int32) (f2A_2 : Nat → Int32) (f3A_2 : Nat → Int32) (f4A_2 : Nat → Int32) (f5A_2 : Nat → Int32) (f6A_2 : Nat → Int32) (n4A_2 : Nat) (wwA_2 : va_W) (laB_2 : Nat) (mdB_2 : Int32) (wyB_2 : Int32) (pc_B_2 : Int32) (f1B_2 : Nat → Int32) (f2B_2 : Nat → Int32) (f3B_2 : Nat → Int32) (f4B_2 : Nat → Int32) (f5B_2 : Nat → Int32) (f6B_2 : Nat → Int32) (n4B_2 : Nat) (wwB_2 : va_W), bs = [[zO10 xo t im mk rd po co tr wa wb_ fi cd], wt, z0_, z1_, wwA_2, wwB_2] ∧ bWays T wa laA_2 mdA_2 wyA_2 pc_A_2 f1A_2 f2A_2 f3A_2 f4A_2 f5A_2 f6A_2 n4A_2 wwA_2 ∧ (mdA_2 = 0 ∨ laA_2 = l0) ∧ (0 ≤ wyA_2.toInt ∧ wyA_2.toInt ≤ 16384) ∧ n4A_2 = n4A ∧ mdA_2 = mdA ∧ bWays T wb_ laB_2 mdB_2 wyB_2 pc_B_2 f1B_2 f2B_2 f3B_2 f4B_2 f5B_2 f6B_2 n4B_2 wwB_2 ∧ (mdB_2 = 0 ∨ laB_2 = l1) ∧ (0 ≤ wyB_2.toInt ∧ wyB_2.toInt ≤ 16384) ∧ n4B_2 = n4B ∧ mdB_2 = mdB) := by
  refine zMi_of (own := RX11) (by decide) rfl (Nat.le_of_ble_eq_true rfl) ?_
  intro p e s m args below meth c A ls C hr hlocks hnm hAe G hl
  refine zHide (fun Qz_ hQz_ => ?_)
  have hx := C.1
  have hb := C.2.1
  replace hmdA : zHd (mdA = 0 ∨ laA = l0) := hmdA
  replace hmdB : zHd (mdB = 0 ∨ laB = l1) := hmdB
  have hl : lv_has ls 4 [(0, .ref xo), (1, .int i1)] := hl
  refine lv_aload_n hx hb dX11_trees_0 rfl (lv_at hl 0 rfl) ?_
  refine z_get C G clX11 0 rfl 0 (by decide) m_fl_RX11_10 rfl dX11_trees_1 ?_
  refine lv_iload_n hx hb dX11_trees_4 rfl (lv_at hl 1 rfl) ?_
  refine z_Vq (bc := [wt]) (br := [[zO10 xo t im mk rd po co tr wa wb_ fi cd], z0_, z1_, wwA, wwB]) (As := [.int i1]) (rest := []) C G (c_landAt l T t l0 l1 d0 d1 g0 g1 ln fl pl ft fk wt i1 ht) (kV_RX11_121 C.2.2.2.2 (Nat.le_of_ble_eq_true rfl) (Nat.le_of_ble_eq_true rfl)) [1] [1] rfl rfl (ci := 8) (qc := (RX9, TX9, 8)) rfl rfl (List.mem_flatten.mpr ⟨_, List.mem_of_getElem? (i := 0) rfl, (bTold_mem ht).choose_spec⟩) rfl rfl hl.1 dX11_trees_5 (Nat.le_of_ble_eq_true rfl) (Nat.le_of_ble_eq_true rfl) (fun r_2 b1 H locs hw G => ?_)
  refine zAn2 hw ?_
  intro hbs9 hc_1
  clear hw
  subst hbs9
  have G : zS T A s.heap s [[zO10 xo t im mk rd po co tr wa wb_ fi cd], z0_, z1_, wwA, wwB, wt] _ _ := G
  rcases hc_1 with ⟨rfl, h_3⟩ | ⟨rfl, h_4, h_5⟩ | ⟨rfl, h_6, h_7⟩
  · have h_3 : (i1.toInt < 0 ∨ (fk 0).toInt ≤ i1.toInt ∨ 2 ≤ i1.toInt) := h_3
    refine lv_astore_nN (lv' := [(2, .null), (0, .ref xo), (1, .int i1)]) hx hb dX11_trees_8 rfl hl (by decide) (zLvf_h rfl) (fun ls hl => ?_)
    refine lv_aload_nN hx hb dX11_trees_9 rfl (lv_at hl 0 rfl) ?_
    refine lv_ifnonnullN hx hb dX11_trees_10 ?_
    refine lv_iconst (v := (-1)) hx hb dX11_trees_13 (by decide) ?_
    have G := G.sub (bs' := [[zO10 xo t im mk rd po co tr wa wb_ fi cd], wt, z0_, z1_, wwA, wwB]) [0, 5, 1, 2, 3, 4] rfl
    exact z_back hQz_ (z_iret C hr hlocks G (Nat.le_of_ble_eq_true rfl) (Nat.le_of_ble_eq_true rfl) dX11_trees_14 ⟨laA, mdA, wyA, pc_A, f1A, f2A, f3A, f4A, f5A, f6A, n4A, wwA, laB, mdB, wyB, pc_B, f1B, f2B, f3B, f4B, f5B, f6B, n4B, wwB, rfl, hwwA, hmdA, hwmA, rfl, rfl, hwwB, hmdB, hwmB, rfl, rfl⟩)
  · have h_4 : i1.toInt = 0 := h_4
    have h_5 : 0 < (fk 0).toInt := h_5
    refine lv_astore_n (lv' := [(2, .ref l0), (0, .ref xo), (1, .int i1)]) hx hb dX11_trees_8 rfl hl (by decide) (zLvf_h rfl) (fun ls hl => ?_)
    refine lv_aload_n hx hb dX11_trees_9 rfl (lv_at hl 0 rfl) ?_
    refine lv_ifnonnull (tgt := 15) hx hb dX11_trees_10 (by decide) ?_
    refine lv_iload_n hx hb dX11_trees_15 rfl (lv_at hl 2 rfl) ?_
    refine lv_if_ne (tgt := 26) hx hb dX11_trees_16 (by decide) (fun q => absurd ((fa_eq i1 (0 : Int32)).mpr (by show i1.toInt = (0 : Int); omega)) q) (fun _ => ?_)
    refine lv_aload_n hx hb dX11_trees_19 rfl (lv_at hl 1 rfl) ?_
    refine z_get C G clX11 0 rfl 7 (by decide) m_fl_RX11_55 rfl dX11_trees_20 ?_
    refine lv_goto (tgt := 30) hx hb dX11_trees_23 (by decide) ?_
    refine lv_astore_n (lv' := [(3, .ref wa), (2, .ref l0), (0, .ref xo), (1, .int i1)]) hx hb dX11_trees_30 rfl hl (by decide) (zLvf_h rfl) (fun ls hl => ?_)
    refine lv_aload_n hx hb dX11_trees_31 rfl (lv_at hl 0 rfl) ?_
    refine lv_aload_n hx hb dX11_trees_32 rfl (lv_at hl 1 rfl) ?_
    refine z_Vi (bc := [wwA, z0_]) (br := [[zO10 xo t im mk rd po co tr wa wb_ fi cd], z1_, wwB, wt]) (As := [.ref l0]) (rest := []) C G (c_treesOf l T wa laA mdA wyA pc_A f1A f2A f3A f4A f5A f6A n4A wwA l0 cr0_ inn0_ k10_ k20_ k30_ k40_ z0_ hwwA hz0_ (by first | with_reducible assumption | with_reducible rfl | omega | assumption | rfl)) (kV_RX11_268 C.2.2.2.2 (Nat.le_of_ble_eq_true rfl) (Nat.le_of_ble_eq_true rfl)) [3, 1] [1, 1] rfl rfl (ci := 0) (qc := (RX0, TX0, 10)) rfl rfl (List.mem_flatten.mpr ⟨_, List.mem_of_getElem? (i := 0) rfl, (bWays_mem hwwA).choose_spec⟩) rfl rfl hl.1 dX11_trees_33 (Nat.le_of_ble_eq_true rfl) (Nat.le_of_ble_eq_true rfl) (fun r_13 b1 H locs hw G => ?_)
    refine zEx4 hw ?_
    intro w2_8 g1_9 g2_10 g3_11
    refine zCu2 ?_
    intro hbs9 h_12
    clear hw
    subst hbs9
    have G : zS T A s.heap s [[zO10 xo t im mk rd po co tr wa wb_ fi cd], z1_, wwB, wt, w2_8, z0_] _ _ := G
    have G := G.sub (bs' := [[zO10 xo t im mk rd po co tr wa wb_ fi cd], wt, z0_, z1_, w2_8, wwB]) [0, 3, 5, 1, 4, 2] rfl
    exact z_back hQz_ (z_iret C hr hlocks G (Nat.le_of_ble_eq_true rfl) (Nat.le_of_ble_eq_true rfl) dX11_trees_36 ⟨l0, mdA, (zWy cr0_ inn0_ k10_), (zPl cr0_ inn0_ k10_), g1_9, g2_10, g3_11, f4A, f5A, f6A, n4A, w2_8, laB, mdB, wyB, pc_B, f1B, f2B, f3B, f4B, f5B, f6B, n4B, wwB, rfl, h_12, (Or.inr rfl), (by have q := zWy_in (inn := inn0_) hI0_; omega), rfl, rfl, hwwB, hmdB, hwmB, rfl, rfl⟩)
  · have h_6 : i1.toInt = 1 := h_6
    have h_7 : 1 < (fk 0).toInt := h_7
    refine lv_astore_n (lv' := [(2, .ref l1), (0, .ref xo), (1, .int i1)]) hx hb dX11_trees_8 rfl hl (by decide) (zLvf_h rfl) (fun ls hl => ?_)
    refine lv_aload_n hx hb dX11_trees_9 rfl (lv_at hl 0 rfl) ?_
    refine lv_ifnonnull (tgt := 15) hx hb dX11_trees_10 (by decide) ?_
    refine lv_iload_n hx hb dX11_trees_15 rfl (lv_at hl 2 rfl) ?_
    refine lv_if_ne (tgt := 26) hx hb dX11_trees_16 (by decide) (fun _ => ?_) (fun q => absurd q (fun q2 => absurd (show i1.toInt = (0 : Int) from (fa_eq i1 (0 : Int32)).mp q2) (by omega)))
    refine lv_aload_n hx hb dX11_trees_26 rfl (lv_at hl 1 rfl) ?_
    refine z_get C G clX11 0 rfl 8 (by decide) m_fl_RX11_59 rfl dX11_trees_27 ?_
    refine lv_astore_n (lv' := [(3, .ref wb_), (2, .ref l1), (0, .ref xo), (1, .int i1)]) hx hb dX11_trees_30 rfl hl (by decide) (zLvf_h rfl) (fun ls hl => ?_)
    refine lv_aload_n hx hb dX11_trees_31 rfl (lv_at hl 0 rfl) ?_
    refine lv_aload_n hx hb dX11_trees_32 rfl (lv_at hl 1 rfl) ?_
    refine z_Vi (bc := [wwB, z1_]) (br := [[zO10 xo t im mk rd po co tr wa wb_ fi cd], z0_, wwA, wt]) (As := [.ref l1]) (rest := []) C G (c_treesOf l T wb_ laB mdB wyB pc_B f1B f2B f3B f4B f5B f6B n4B wwB l1 cr1_ inn1_ k11_ k21_ k31_ k41_ z1_ hwwB hz1_ (by first | with_reducible assumption | with_reducible rfl | omega | assumption | rfl)) (kV_RX11_268 C.2.2.2.2 (Nat.le_of_ble_eq_true rfl) (Nat.le_of_ble_eq_true rfl)) [4, 2] [2, 1] rfl rfl (ci := 0) (qc := (RX0, TX0, 10)) rfl rfl (List.mem_flatten.mpr ⟨_, List.mem_of_getElem? (i := 0) rfl, (bWays_mem hwwB).choose_spec⟩) rfl rfl hl.1 dX11_trees_33 (Nat.le_of_ble_eq_true rfl) (Nat.le_of_ble_eq_true rfl) (fun r_19 b1 H locs hw G => ?_)
    refine zEx4 hw ?_
    intro w2_14 g1_15 g2_16 g3_17
    refine zCu2 ?_
    intro hbs9 h_18
    clear hw
    subst hbs9
    have G : zS T A s.heap s [[zO10 xo t im mk rd po co tr wa wb_ fi cd], z0_, wwA, wt, w2_14, z1_] _ _ := G
    have G := G.sub (bs' := [[zO10 xo t im mk rd po co tr wa wb_ fi cd], wt, z0_, z1_, wwA, w2_14]) [0, 3, 1, 5, 2, 4] rfl
    exact z_back hQz_ (z_iret C hr hlocks G (Nat.le_of_ble_eq_true rfl) (Nat.le_of_ble_eq_true rfl) dX11_trees_36 ⟨laA, mdA, wyA, pc_A, f1A, f2A, f3A, f4A, f5A, f6A, n4A, wwA, l1, mdB, (zWy cr1_ inn1_ k11_), (zPl cr1_ inn1_ k11_), g1_15, g2_16, g3_17, f4B, f5B, f6B, n4B, w2_14, rfl, hwwA, hmdA, hwmA, rfl, rfl, h_18, (Or.inr rfl), (by have q := zWy_in (inn := inn1_) hI1_; omega), rfl, rfl⟩)
theorem m_co_X3_find : Cond.code yX3_find cX3_find 4 none ∈ zT := zmem1 zsub_5 117 rfl rfl
theorem m_ml_RX11_298 : Cond.methodLink RX11 298 yX3_find ∈ zT := zmem1 zsub_5 114 rfl rfl
theorem m_im_X3_find : Cond.instanceMethod yX3_find ∈ zT := zmem1 zsub_5 115 rfl rfl
theorem m_se_X3_find : Cond.selects RX3 yX3_find yX3_find ∈ zT := zmem1 zsub_5 116 rfl rfl
theorem m_fl_RX11_292 : Cond.fieldLink RX11 292 (TX3 1).1 (TX3 1).2.1 (TX3 1).2.2.1 ∈ zT := zmem1 zsub_2 148 rfl rfl
theorem m_fl_RX11_295 : Cond.fieldLink RX11 295 (TX3 2).1 (TX3 2).2.1 (TX3 2).2.2.1 ∈ zT := zmem1 zsub_2 150 rfl rfl
theorem kV_RX11_298 {R : Room} {s : State} {args : Array Value} {d mc ms : Nat} (hts : ∀ w ∈ zT, w.before args s = true) (h1 : d + 1 ≤ R.frames) (h2 : 8 + (4 + 11) + 40 * d ≤ R.locals) : CallW R s args RX11 RX3 298 yX3_find cX3_find 4 none (zW yX3_find cX3_find 4 none) (zR d mc ms) mc ms 2 := z_cwV hts m_co_X3_find m_ml_RX11_298 m_im_X3_find m_se_X3_find m_ii_RX3 (by decide +kernel) h1 h2
theorem dX11_fit_0 : decode cX11_fit 0 = .ok (.aload_n 0, 1) := zo_42 (by decide +kernel)
theorem dX11_fit_1 : decode cX11_fit 1 = .ok (.getfield 10, 3) := zo_180 (by decide +kernel)
theorem dX11_fit_4 : decode cX11_fit 4 = .ok (.iload_n 1, 1) := zo_27 (by decide +kernel)
theorem dX11_fit_5 : decode cX11_fit 5 = .ok (.invokevirtual 121, 3) := zo_182 (by decide +kernel)
theorem dX11_fit_8 : decode cX11_fit 8 = .ok (.astore_n 3, 1) := zo_78 (by decide +kernel)
theorem dX11_fit_9 : decode cX11_fit 9 = .ok (.aload_n 0, 1) := zo_42 (by decide +kernel)
theorem dX11_fit_10 : decode cX11_fit 10 = .ok (.getfield 10, 3) := zo_180 (by decide +kernel)
theorem dX11_fit_13 : decode cX11_fit 13 = .ok (.iload_n 2, 1) := zo_28 (by decide +kernel)
theorem dX11_fit_14 : decode cX11_fit 14 = .ok (.invokevirtual 138, 3) := zo_182 (by decide +kernel)
theorem dX11_fit_17 : decode cX11_fit 17 = .ok (.astore 4, 2) := zo_58 (by decide +kernel)
theorem dX11_fit_19 : decode cX11_fit 19 = .ok (.aload_n 3, 1) := zo_45 (by decide +kernel)
theorem dX11_fit_20 : decode cX11_fit 20 = .ok (.ifnull 8, 3) := zo_198 (by decide +kernel)
theorem dX11_fit_23 : decode cX11_fit 23 = .ok (.aload 4, 2) := zo_25 (by decide +kernel)
theorem dX11_fit_25 : decode cX11_fit 25 = .ok (.ifnonnull 5, 3) := zo_199 (by decide +kernel)
theorem dX11_fit_28 : decode cX11_fit 28 = .ok (.iconst 0, 1) := zo_3 (by decide +kernel)
theorem dX11_fit_29 : decode cX11_fit 29 = .ok (.ireturn, 1) := zo_172 (by decide +kernel)
theorem dX11_fit_30 : decode cX11_fit 30 = .ok (.aload_n 0, 1) := zo_42 (by decide +kernel)
theorem dX11_fit_31 : decode cX11_fit 31 = .ok (.getfield 65, 3) := zo_180 (by decide +kernel)
theorem dX11_fit_34 : decode cX11_fit 34 = .ok (.getfield 109, 3) := zo_180 (by decide +kernel)
theorem dX11_fit_37 : decode cX11_fit 37 = .ok (.ifCond .eq 25, 3) := zo_153 (by decide +kernel)
theorem dX11_fit_40 : decode cX11_fit 40 = .ok (.aload_n 0, 1) := zo_42 (by decide +kernel)
theorem dX11_fit_41 : decode cX11_fit 41 = .ok (.getfield 65, 3) := zo_180 (by decide +kernel)
theorem dX11_fit_44 : decode cX11_fit 44 = .ok (.getfield 292, 3) := zo_180 (by decide +kernel)
theorem dX11_fit_47 : decode cX11_fit 47 = .ok (.iload_n 1, 1) := zo_27 (by decide +kernel)
theorem dX11_fit_48 : decode cX11_fit 48 = .ok (.if_icmp .ne 14, 3) := zo_160 (by decide +kernel)
theorem dX11_fit_51 : decode cX11_fit 51 = .ok (.aload_n 0, 1) := zo_42 (by decide +kernel)
theorem dX11_fit_52 : decode cX11_fit 52 = .ok (.getfield 65, 3) := zo_180 (by decide +kernel)
theorem dX11_fit_55 : decode cX11_fit 55 = .ok (.getfield 295, 3) := zo_180 (by decide +kernel)
theorem dX11_fit_58 : decode cX11_fit 58 = .ok (.iload_n 2, 1) := zo_28 (by decide +kernel)
theorem dX11_fit_59 : decode cX11_fit 59 = .ok (.if_icmp .eq 42, 3) := zo_159 (by decide +kernel)
theorem dX11_fit_62 : decode cX11_fit 62 = .ok (.aload_n 0, 1) := zo_42 (by decide +kernel)
theorem dX11_fit_63 : decode cX11_fit 63 = .ok (.getfield 65, 3) := zo_180 (by decide +kernel)
theorem dX11_fit_66 : decode cX11_fit 66 = .ok (.aload_n 0, 1) := zo_42 (by decide +kernel)
theorem dX11_fit_67 : decode cX11_fit 67 = .ok (.iload_n 1, 1) := zo_27 (by decide +kernel)
theorem dX11_fit_68 : decode cX11_fit 68 = .ok (.aload_n 3, 1) := zo_45 (by decide +kernel)
theorem dX11_fit_69 : decode cX11_fit 69 = .ok (.invokevirtual 235, 3) := zo_182 (by decide +kernel)
theorem dX11_fit_72 : decode cX11_fit 72 = .ok (.aload 4, 2) := zo_25 (by decide +kernel)
theorem dX11_fit_74 : decode cX11_fit 74 = .ok (.invokevirtual 298, 3) := zo_182 (by decide +kernel)
theorem dX11_fit_77 : decode cX11_fit 77 = .ok (.aload_n 0, 1) := zo_42 (by decide +kernel)
theorem dX11_fit_78 : decode cX11_fit 78 = .ok (.getfield 65, 3) := zo_180 (by decide +kernel)
theorem dX11_fit_81 : decode cX11_fit 81 = .ok (.iload_n 1, 1) := zo_27 (by decide +kernel)
theorem dX11_fit_82 : decode cX11_fit 82 = .ok (.putfield 292, 3) := zo_181 (by decide +kernel)
theorem dX11_fit_85 : decode cX11_fit 85 = .ok (.aload_n 0, 1) := zo_42 (by decide +kernel)
theorem dX11_fit_86 : decode cX11_fit 86 = .ok (.getfield 65, 3) := zo_180 (by decide +kernel)
theorem dX11_fit_89 : decode cX11_fit 89 = .ok (.iload_n 2, 1) := zo_28 (by decide +kernel)
theorem dX11_fit_90 : decode cX11_fit 90 = .ok (.putfield 295, 3) := zo_181 (by decide +kernel)
theorem dX11_fit_93 : decode cX11_fit 93 = .ok (.aload_n 0, 1) := zo_42 (by decide +kernel)
theorem dX11_fit_94 : decode cX11_fit 94 = .ok (.getfield 65, 3) := zo_180 (by decide +kernel)
theorem dX11_fit_97 : decode cX11_fit 97 = .ok (.iconst 1, 1) := zo_4 (by decide +kernel)
theorem dX11_fit_98 : decode cX11_fit 98 = .ok (.putfield 109, 3) := zo_181 (by decide +kernel)
theorem dX11_fit_101 : decode cX11_fit 101 = .ok (.iconst 1, 1) := zo_4 (by decide +kernel)
theorem dX11_fit_102 : decode cX11_fit 102 = .ok (.ireturn, 1) := zo_172 (by decide +kernel)
def zNF (c : Prop) [Decidable c] (n : Nat) (wy : Int32) : Nat := if c then zFl n wy else n
theorem zNF_y {c : Prop} [Decidable c] {n : Nat} {wy : Int32} (h : c) : zNF c n wy = zFl n wy := if_pos h
theorem zNF_n {c : Prop} [Decidable c] {n : Nat} {wy : Int32} (h : ¬ c) : zNF c n wy = n := if_neg h
set_option maxHeartbeats 4000000 in
set_option maxRecDepth 100000 in
/-- fit -/
theorem c_fit (l : Launch) (T : zTy) (xo : Nat) (t : Nat) (im : Nat) (mk : Nat) (rd : Nat) (po : Nat) (co : Nat) (tr : Nat) (wa : Nat) (wb_ : Nat) (fi : Nat) (cd : Nat) (l0 : Nat) (l1 : Nat) (d0 : Nat) (d1 : Nat) (g0 : Nat) (g1 : Nat) (ln : Int32) (fl : Int32) (pl : Int32) (ft : Nat → Int32) (fk : Nat → Int32) (wt : va_W) (cr0_ : Int32) (inn0_ : Int32) (k10_ : Nat → Int32) (k20_ : Nat → Int32) (k30_ : Nat → Int32) (k40_ : Nat → Int32) (z0_ : va_W) (cr1_ : Int32) (inn1_ : Int32) (k11_ : Nat → Int32) (k21_ : Nat → Int32) (k31_ : Nat → Int32) (k41_ : Nat → Int32) (z1_ : va_W) (gg0_ : Int32) (q10_ : Nat → Int32) (q20_ : Nat → Int32) (wg0_ : va_W) (gg1_ : Int32) (q11_ : Nat → Int32) (q21_ : Nat → Int32) (wg1_ : va_W) (laA : Nat) (mdA : Int32) (wyA : Int32) (pc_A : Int32) (f1A : Nat → Int32) (f2A : Nat → Int32) (f3A : Nat → Int32) (f4A : Nat → Int32) (f5A : Nat → Int32) (f6A : Nat → Int32) (n4A : Nat) (wwA : va_W) (laB : Nat) (mdB : Int32) (wyB : Int32) (pc_B : Int32) (f1B : Nat → Int32) (f2B : Nat → Int32) (f3B : Nat → Int32) (f4B : Nat → Int32) (f5B : Nat → Int32) (f6B : Nat → Int32) (n4B : Nat) (wwB : va_W) (e0f : Int32) (e1f : Int32) (e2f : Int32) (e3f : Int32) (e4f : Int32) (e5f : Int32) (r1f : Nat → Int32) (m1f : Nat) (r2f : Nat → Int32) (wff : va_W) (i1 : Int32) (i2 : Int32) (ht : bTold T t l0 l1 d0 d1 g0 g1 ln fl pl ft fk wt) (hK : zKT fk) (hz0_ : bLand T l0 cr0_ inn0_ k10_ k20_ k30_ k40_ z0_) (hI0_ : zLI cr0_ k10_ k30_) (hz1_ : bLand T l1 cr1_ inn1_ k11_ k21_ k31_ k41_ z1_) (hI1_ : zLI cr1_ k11_ k31_) (hg0_ : bLog T g0 gg0_ q10_ q20_ wg0_) (hg1_ : bLog T g1 gg1_ q11_ q21_ wg1_) (hwwA : bWays T wa laA mdA wyA pc_A f1A f2A f3A f4A f5A f6A n4A wwA) (hpwA : zPw n4A) (hmdA : mdA = 0 ∨ laA = l0) (hwmA : 0 ≤ wyA.toInt ∧ wyA.toInt ≤ 16384) (hwwB : bWays T wb_ laB mdB wyB pc_B f1B f2B f3B f4B f5B f6B n4B wwB) (hpwB : zPw n4B) (hmdB : mdB = 0 ∨ laB = l1) (hwmB : 0 ≤ wyB.toInt ∧ wyB.toInt ≤ 16384) (hwff : bFit T fi e0f e1f e2f e3f e4f e5f r1f m1f r2f wff) (hfw : zFw m1f) (hf3 : 0 ≤ e3f.toInt) (hFI : (¬ e0f = 0 → e1f.toInt = 0 ∧ ¬ mdA = 0 ∨ e1f.toInt = 1 ∧ ¬ mdB = 0)) : zMi l T yX11_fit cX11_fit 5 (some .boolean) 7 4 (6 * (zNA (i1.toInt = 0 ∧ 0 < (fk 0).toInt ∧ (0 ≤ i2.toInt ∧ i2.toInt < (fk 2).toInt ∧ i2.toInt < 2) ∧ (e0f.toInt = 0 ∨ ¬ e1f.toInt = i1.toInt ∨ ¬ e2f.toInt = i2.toInt)) mdA n4A (zPl cr0_ inn0_ k10_) - n4A) + 6 * (zNA (i1.toInt = 1 ∧ 1 < (fk 0).toInt ∧ (0 ≤ i2.toInt ∧ i2.toInt < (fk 2).toInt ∧ i2.toInt < 2) ∧ (e0f.toInt = 0 ∨ ¬ e1f.toInt = i1.toInt ∨ ¬ e2f.toInt = i2.toInt)) mdB n4B (zPl cr1_ inn1_ k11_) - n4B) + 2 * (zNF (i1.toInt = 1 ∧ 1 < (fk 0).toInt ∧ (0 ≤ i2.toInt ∧ i2.toInt < (fk 2).toInt ∧ i2.toInt < 2) ∧ (e0f.toInt = 0 ∨ ¬ e1f.toInt = i1.toInt ∨ ¬ e2f.toInt = i2.toInt)) (zNF (i1.toInt = 0 ∧ 0 < (fk 0).toInt ∧ (0 ≤ i2.toInt ∧ i2.toInt < (fk 2).toInt ∧ i2.toInt < 2) ∧ (e0f.toInt = 0 ∨ ¬ e1f.toInt = i1.toInt ∨ ¬ e2f.toInt = i2.toInt)) m1f (zMw mdA wyA cr0_ inn0_ k10_)) (zMw mdB wyB cr1_ inn1_ k11_) - m1f)) [.ref xo, .int i1, .int i2] [[zO10 xo t im mk rd po co tr wa wb_ fi cd], wt, z0_, z1_, wg0_, wg1_, wwA, wwB, wff] (fun (r : Int32) bs => ∃ (laA_2 : Nat) (mdA_2 : Int32) (wyA_2 : Int32) (pc_A_2 : Int32) (f1A_2 : Nat → Int32) (f2A_2 : Nat → Int32) (f3A_2 : Nat → Int32) (f4A_2 : Nat → Int32) (f5A_2 : Nat → Int32) (f6A_2 : Nat → Int32) (n4A_2 : Nat) (wwA_2 : va_W) (laB_2 : Nat) (mdB_2 : Int32) (wyB_2 : Int32) (pc_B_2 : Int32) (f1B_2 : Nat → Int32) (f2B_2 : Nat → Int32) (f3B_2 : Nat → Int32) (f4B_2 : Nat → Int32) (f5B_2 : Nat → Int32) (f6B_2 : Nat → Int32) (n4B_2 : Nat) (wwB_2 : va_W) (e0f_2 : Int32) (e1f_2 : Int32) (e2f_2 : Int32) (e3f_2 : Int32) (e4f_2 : Int32) (e5f_2 : Int32) (r1f_2 : Nat → Int32) (m1f_2 : Nat) (r2f_2 : Nat → Int32) (wff_2 : va_W), bs = [[zO10 xo t im mk rd po co tr wa wb_ fi cd], wt, z0_, z1_, wg0_, wg1_, wwA_2, wwB_2, wff_2] ∧ bWays T wa laA_2 mdA_2 wyA_2 pc_A_2 f1A_2 f2A_2 f3A_2 f4A_2 f5A_2 f6A_2 n4A_2 wwA_2 ∧ (mdA_2 = 0 ∨ laA_2 = l0) ∧ (0 ≤ wyA_2.toInt ∧ wyA_2.toInt ≤ 16384) ∧ n4A_2 = zNA (i1.toInt = 0 ∧ 0 < (fk 0).toInt ∧ (0 ≤ i2.toInt ∧ i2.toInt < (fk 2).toInt ∧ i2.toInt < 2) ∧ (e0f.toInt = 0 ∨ ¬ e1f.toInt = i1.toInt ∨ ¬ e2f.toInt = i2.toInt)) mdA n4A (zPl cr0_ inn0_ k10_) ∧ zPw n4A_2 ∧ (¬ mdA = 0 → ¬ mdA_2 = 0) ∧ bWays T wb_ laB_2 mdB_2 wyB_2 pc_B_2 f1B_2 f2B_2 f3B_2 f4B_2 f5B_2 f6B_2 n4B_2 wwB_2 ∧ (mdB_2 = 0 ∨ laB_2 = l1) ∧ (0 ≤ wyB_2.toInt ∧ wyB_2.toInt ≤ 16384) ∧ n4B_2 = zNA (i1.toInt = 1 ∧ 1 < (fk 0).toInt ∧ (0 ≤ i2.toInt ∧ i2.toInt < (fk 2).toInt ∧ i2.toInt < 2) ∧ (e0f.toInt = 0 ∨ ¬ e1f.toInt = i1.toInt ∨ ¬ e2f.toInt = i2.toInt)) mdB n4B (zPl cr1_ inn1_ k11_) ∧ zPw n4B_2 ∧ (¬ mdB = 0 → ¬ mdB_2 = 0) ∧ bFit T fi e0f_2 e1f_2 e2f_2 e3f_2 e4f_2 e5f_2 r1f_2 m1f_2 r2f_2 wff_2 ∧ m1f_2 = zNF (i1.toInt = 1 ∧ 1 < (fk 0).toInt ∧ (0 ≤ i2.toInt ∧ i2.toInt < (fk 2).toInt ∧ i2.toInt < 2) ∧ (e0f.toInt = 0 ∨ ¬ e1f.toInt = i1.toInt ∨ ¬ e2f.toInt = i2.toInt)) (zNF (i1.toInt = 0 ∧ 0 < (fk 0).toInt ∧ (0 ≤ i2.toInt ∧ i2.toInt < (fk 2).toInt ∧ i2.toInt < 2) ∧ (e0f.toInt = 0 ∨ ¬ e1f.toInt = i1.toInt ∨ ¬ e2f.toInt = i2.toInt)) m1f (zMw mdA wyA cr0_ inn0_ k10_)) (zMw mdB wyB cr1_ inn1_ k11_) ∧ zFw m1f_2 ∧ 0 ≤ e3f_2.toInt ∧ (r = 0 ∧ ¬ ((0 ≤ i1.toInt ∧ i1.toInt < (fk 0).toInt ∧ i1.toInt < 2) ∧ (0 ≤ i2.toInt ∧ i2.toInt < (fk 2).toInt ∧ i2.toInt < 2)) ∨ r = 1 ∧ ((0 ≤ i1.toInt ∧ i1.toInt < (fk 0).toInt ∧ i1.toInt < 2) ∧ (0 ≤ i2.toInt ∧ i2.toInt < (fk 2).toInt ∧ i2.toInt < 2)) ∧ ¬ e0f_2 = 0 ∧ e1f_2.toInt = i1.toInt) ∧ (¬ e0f_2 = 0 → e1f_2.toInt = 0 ∧ ¬ mdA_2 = 0 ∨ e1f_2.toInt = 1 ∧ ¬ mdB_2 = 0)) := by
  refine zMi_of (own := RX11) (by decide) rfl (Nat.le_of_ble_eq_true rfl) ?_
  intro p e s m args below meth c A ls C hr hlocks hnm hAe G hl
  refine zHide (fun Qz_ hQz_ => ?_)
  have hx := C.1
  have hb := C.2.1
  replace hmdA : zHd (mdA = 0 ∨ laA = l0) := hmdA
  replace hmdB : zHd (mdB = 0 ∨ laB = l1) := hmdB
  replace hFI : zHd ((¬ e0f = 0 → e1f.toInt = 0 ∧ ¬ mdA = 0 ∨ e1f.toInt = 1 ∧ ¬ mdB = 0)) := hFI
  have hl : lv_has ls 5 [(0, .ref xo), (1, .int i1), (2, .int i2)] := hl
  refine lv_aload_n hx hb dX11_fit_0 rfl (lv_at hl 0 rfl) ?_
  refine z_get C G clX11 0 rfl 0 (by decide) m_fl_RX11_10 rfl dX11_fit_1 ?_
  refine lv_iload_n hx hb dX11_fit_4 rfl (lv_at hl 1 rfl) ?_
  refine z_Vq (bc := [wt]) (br := [[zO10 xo t im mk rd po co tr wa wb_ fi cd], z0_, z1_, wg0_, wg1_, wwA, wwB, wff]) (As := [.int i1]) (rest := []) C G (c_landAt l T t l0 l1 d0 d1 g0 g1 ln fl pl ft fk wt i1 ht) (kV_RX11_121 C.2.2.2.2 (Nat.le_of_ble_eq_true rfl) (Nat.le_of_ble_eq_true rfl)) [1] [1] rfl rfl (ci := 8) (qc := (RX9, TX9, 8)) rfl rfl (List.mem_flatten.mpr ⟨_, List.mem_of_getElem? (i := 0) rfl, (bTold_mem ht).choose_spec⟩) rfl rfl hl.1 dX11_fit_5 (Nat.le_of_ble_eq_true rfl) (by show _ + 0 ≤ 6 * (zNA (i1.toInt = 0 ∧ 0 < (fk 0).toInt ∧ (0 ≤ i2.toInt ∧ i2.toInt < (fk 2).toInt ∧ i2.toInt < 2) ∧ (e0f.toInt = 0 ∨ ¬ e1f.toInt = i1.toInt ∨ ¬ e2f.toInt = i2.toInt)) mdA n4A (zPl cr0_ inn0_ k10_) - n4A) + 6 * (zNA (i1.toInt = 1 ∧ 1 < (fk 0).toInt ∧ (0 ≤ i2.toInt ∧ i2.toInt < (fk 2).toInt ∧ i2.toInt < 2) ∧ (e0f.toInt = 0 ∨ ¬ e1f.toInt = i1.toInt ∨ ¬ e2f.toInt = i2.toInt)) mdB n4B (zPl cr1_ inn1_ k11_) - n4B) + 2 * (zNF (i1.toInt = 1 ∧ 1 < (fk 0).toInt ∧ (0 ≤ i2.toInt ∧ i2.toInt < (fk 2).toInt ∧ i2.toInt < 2) ∧ (e0f.toInt = 0 ∨ ¬ e1f.toInt = i1.toInt ∨ ¬ e2f.toInt = i2.toInt)) (zNF (i1.toInt = 0 ∧ 0 < (fk 0).toInt ∧ (0 ≤ i2.toInt ∧ i2.toInt < (fk 2).toInt ∧ i2.toInt < 2) ∧ (e0f.toInt = 0 ∨ ¬ e1f.toInt = i1.toInt ∨ ¬ e2f.toInt = i2.toInt)) m1f (zMw mdA wyA cr0_ inn0_ k10_)) (zMw mdB wyB cr1_ inn1_ k11_) - m1f); omega) (fun r_2 b1 H locs hw G => ?_)
  refine zAn2 hw ?_
  intro hbs9 hc_1
  clear hw
  subst hbs9
  have G : zS T A s.heap s [[zO10 xo t im mk rd po co tr wa wb_ fi cd], z0_, z1_, wg0_, wg1_, wwA, wwB, wff, wt] _ _ := G
  rcases hc_1 with ⟨rfl, h_3⟩ | ⟨rfl, h_4, h_5⟩ | ⟨rfl, h_6, h_7⟩
  · have h_3 : (i1.toInt < 0 ∨ (fk 0).toInt ≤ i1.toInt ∨ 2 ≤ i1.toInt) := h_3
    refine lv_astore_nN (lv' := [(3, .null), (0, .ref xo), (1, .int i1), (2, .int i2)]) hx hb dX11_fit_8 rfl hl (by decide) (zLvf_h rfl) (fun ls hl => ?_)
    refine lv_aload_n hx hb dX11_fit_9 rfl (lv_at hl 1 rfl) ?_
    refine z_get C G clX11 0 rfl 0 (by decide) m_fl_RX11_10 rfl dX11_fit_10 ?_
    refine lv_iload_n hx hb dX11_fit_13 rfl (lv_at hl 3 rfl) ?_
    refine z_Vq (bc := [wt]) (br := [[zO10 xo t im mk rd po co tr wa wb_ fi cd], z0_, z1_, wg0_, wg1_, wwA, wwB, wff]) (As := [.int i2]) (rest := []) C G (c_logAt l T t l0 l1 d0 d1 g0 g1 ln fl pl ft fk wt i2 ht) (kV_RX11_138 C.2.2.2.2 (Nat.le_of_ble_eq_true rfl) (Nat.le_of_ble_eq_true rfl)) [8] [8] rfl rfl (ci := 8) (qc := (RX9, TX9, 8)) rfl rfl (List.mem_flatten.mpr ⟨_, List.mem_of_getElem? (i := 0) rfl, (bTold_mem ht).choose_spec⟩) rfl rfl hl.1 dX11_fit_14 (Nat.le_of_ble_eq_true rfl) (by show _ + 0 ≤ 6 * (zNA (i1.toInt = 0 ∧ 0 < (fk 0).toInt ∧ (0 ≤ i2.toInt ∧ i2.toInt < (fk 2).toInt ∧ i2.toInt < 2) ∧ (e0f.toInt = 0 ∨ ¬ e1f.toInt = i1.toInt ∨ ¬ e2f.toInt = i2.toInt)) mdA n4A (zPl cr0_ inn0_ k10_) - n4A) + 6 * (zNA (i1.toInt = 1 ∧ 1 < (fk 0).toInt ∧ (0 ≤ i2.toInt ∧ i2.toInt < (fk 2).toInt ∧ i2.toInt < 2) ∧ (e0f.toInt = 0 ∨ ¬ e1f.toInt = i1.toInt ∨ ¬ e2f.toInt = i2.toInt)) mdB n4B (zPl cr1_ inn1_ k11_) - n4B) + 2 * (zNF (i1.toInt = 1 ∧ 1 < (fk 0).toInt ∧ (0 ≤ i2.toInt ∧ i2.toInt < (fk 2).toInt ∧ i2.toInt < 2) ∧ (e0f.toInt = 0 ∨ ¬ e1f.toInt = i1.toInt ∨ ¬ e2f.toInt = i2.toInt)) (zNF (i1.toInt = 0 ∧ 0 < (fk 0).toInt ∧ (0 ≤ i2.toInt ∧ i2.toInt < (fk 2).toInt ∧ i2.toInt < 2) ∧ (e0f.toInt = 0 ∨ ¬ e1f.toInt = i1.toInt ∨ ¬ e2f.toInt = i2.toInt)) m1f (zMw mdA wyA cr0_ inn0_ k10_)) (zMw mdB wyB cr1_ inn1_ k11_) - m1f); omega) (fun r_9 b1 H locs hw G => ?_)
    refine zAn2 hw ?_
    intro hbs9 hc_8
    clear hw
    subst hbs9
    have G : zS T A s.heap s [[zO10 xo t im mk rd po co tr wa wb_ fi cd], z0_, z1_, wg0_, wg1_, wwA, wwB, wff, wt] _ _ := G
    rcases hc_8 with ⟨rfl, h_10⟩ | ⟨rfl, h_11, h_12⟩ | ⟨rfl, h_13, h_14⟩
    · have h_10 : (i2.toInt < 0 ∨ (fk 2).toInt ≤ i2.toInt ∨ 2 ≤ i2.toInt) := h_10
      refine lv_astoreN (lv' := [(4, .null), (3, .null), (0, .ref xo), (1, .int i1), (2, .int i2)]) hx hb dX11_fit_17 hl (by decide) (zLvf_h rfl) (fun ls hl => ?_)
      refine lv_aload_nN hx hb dX11_fit_19 rfl (lv_at hl 1 rfl) ?_
      refine lv_ifnullN (tgt := 28) hx hb dX11_fit_20 (by decide) ?_
      refine lv_iconst (v := 0) hx hb dX11_fit_28 (by decide) ?_
      have G := G.sub (bs' := [[zO10 xo t im mk rd po co tr wa wb_ fi cd], wt, z0_, z1_, wg0_, wg1_, wwA, wwB, wff]) [0, 8, 1, 2, 3, 4, 5, 6, 7] rfl
      exact z_back hQz_ (z_zret C hr hlocks G (Nat.le_of_ble_eq_true rfl) (by omega) dX11_fit_29 rfl ⟨laA, mdA, wyA, pc_A, f1A, f2A, f3A, f4A, f5A, f6A, n4A, wwA, laB, mdB, wyB, pc_B, f1B, f2B, f3B, f4B, f5B, f6B, n4B, wwB, e0f, e1f, e2f, e3f, e4f, e5f, r1f, m1f, r2f, wff, rfl, hwwA, hmdA, hwmA, (zNA_n (by omega)).symm, hpwA, (fun q => q), hwwB, hmdB, hwmB, (zNA_n (by omega)).symm, hpwB, (fun q => q), hwff, (((zNF_n (c := (i1.toInt = 1 ∧ 1 < (fk 0).toInt ∧ (0 ≤ i2.toInt ∧ i2.toInt < (fk 2).toInt ∧ i2.toInt < 2) ∧ (e0f.toInt = 0 ∨ ¬ e1f.toInt = i1.toInt ∨ ¬ e2f.toInt = i2.toInt))) (by omega)).trans (zNF_n (by omega))).symm), hfw, hf3, (Or.inl ⟨rfl, by omega⟩), hFI⟩)
    · have h_11 : i2.toInt = 0 := h_11
      have h_12 : 0 < (fk 2).toInt := h_12
      refine lv_astore (lv' := [(4, .ref g0), (3, .null), (0, .ref xo), (1, .int i1), (2, .int i2)]) hx hb dX11_fit_17 hl (by decide) (zLvf_h rfl) (fun ls hl => ?_)
      refine lv_aload_nN hx hb dX11_fit_19 rfl (lv_at hl 1 rfl) ?_
      refine lv_ifnullN (tgt := 28) hx hb dX11_fit_20 (by decide) ?_
      refine lv_iconst (v := 0) hx hb dX11_fit_28 (by decide) ?_
      have G := G.sub (bs' := [[zO10 xo t im mk rd po co tr wa wb_ fi cd], wt, z0_, z1_, wg0_, wg1_, wwA, wwB, wff]) [0, 8, 1, 2, 3, 4, 5, 6, 7] rfl
      exact z_back hQz_ (z_zret C hr hlocks G (Nat.le_of_ble_eq_true rfl) (by omega) dX11_fit_29 rfl ⟨laA, mdA, wyA, pc_A, f1A, f2A, f3A, f4A, f5A, f6A, n4A, wwA, laB, mdB, wyB, pc_B, f1B, f2B, f3B, f4B, f5B, f6B, n4B, wwB, e0f, e1f, e2f, e3f, e4f, e5f, r1f, m1f, r2f, wff, rfl, hwwA, hmdA, hwmA, (zNA_n (by omega)).symm, hpwA, (fun q => q), hwwB, hmdB, hwmB, (zNA_n (by omega)).symm, hpwB, (fun q => q), hwff, (((zNF_n (c := (i1.toInt = 1 ∧ 1 < (fk 0).toInt ∧ (0 ≤ i2.toInt ∧ i2.toInt < (fk 2).toInt ∧ i2.toInt < 2) ∧ (e0f.toInt = 0 ∨ ¬ e1f.toInt = i1.toInt ∨ ¬ e2f.toInt = i2.toInt))) (by omega)).trans (zNF_n (by omega))).symm), hfw, hf3, (Or.inl ⟨rfl, by omega⟩), hFI⟩)
    · have h_13 : i2.toInt = 1 := h_13
      have h_14 : 1 < (fk 2).toInt := h_14
      refine lv_astore (lv' := [(4, .ref g1), (3, .null), (0, .ref xo), (1, .int i1), (2, .int i2)]) hx hb dX11_fit_17 hl (by decide) (zLvf_h rfl) (fun ls hl => ?_)
      refine lv_aload_nN hx hb dX11_fit_19 rfl (lv_at hl 1 rfl) ?_
      refine lv_ifnullN (tgt := 28) hx hb dX11_fit_20 (by decide) ?_
      refine lv_iconst (v := 0) hx hb dX11_fit_28 (by decide) ?_
      have G := G.sub (bs' := [[zO10 xo t im mk rd po co tr wa wb_ fi cd], wt, z0_, z1_, wg0_, wg1_, wwA, wwB, wff]) [0, 8, 1, 2, 3, 4, 5, 6, 7] rfl
      exact z_back hQz_ (z_zret C hr hlocks G (Nat.le_of_ble_eq_true rfl) (by omega) dX11_fit_29 rfl ⟨laA, mdA, wyA, pc_A, f1A, f2A, f3A, f4A, f5A, f6A, n4A, wwA, laB, mdB, wyB, pc_B, f1B, f2B, f3B, f4B, f5B, f6B, n4B, wwB, e0f, e1f, e2f, e3f, e4f, e5f, r1f, m1f, r2f, wff, rfl, hwwA, hmdA, hwmA, (zNA_n (by omega)).symm, hpwA, (fun q => q), hwwB, hmdB, hwmB, (zNA_n (by omega)).symm, hpwB, (fun q => q), hwff, (((zNF_n (c := (i1.toInt = 1 ∧ 1 < (fk 0).toInt ∧ (0 ≤ i2.toInt ∧ i2.toInt < (fk 2).toInt ∧ i2.toInt < 2) ∧ (e0f.toInt = 0 ∨ ¬ e1f.toInt = i1.toInt ∨ ¬ e2f.toInt = i2.toInt))) (by omega)).trans (zNF_n (by omega))).symm), hfw, hf3, (Or.inl ⟨rfl, by omega⟩), hFI⟩)
  · have h_4 : i1.toInt = 0 := h_4
    have h_5 : 0 < (fk 0).toInt := h_5
    refine lv_astore_n (lv' := [(3, .ref l0), (0, .ref xo), (1, .int i1), (2, .int i2)]) hx hb dX11_fit_8 rfl hl (by decide) (zLvf_h rfl) (fun ls hl => ?_)
    refine lv_aload_n hx hb dX11_fit_9 rfl (lv_at hl 1 rfl) ?_
    refine z_get C G clX11 0 rfl 0 (by decide) m_fl_RX11_10 rfl dX11_fit_10 ?_
    refine lv_iload_n hx hb dX11_fit_13 rfl (lv_at hl 3 rfl) ?_
    refine z_Vq (bc := [wt]) (br := [[zO10 xo t im mk rd po co tr wa wb_ fi cd], z0_, z1_, wg0_, wg1_, wwA, wwB, wff]) (As := [.int i2]) (rest := []) C G (c_logAt l T t l0 l1 d0 d1 g0 g1 ln fl pl ft fk wt i2 ht) (kV_RX11_138 C.2.2.2.2 (Nat.le_of_ble_eq_true rfl) (Nat.le_of_ble_eq_true rfl)) [8] [8] rfl rfl (ci := 8) (qc := (RX9, TX9, 8)) rfl rfl (List.mem_flatten.mpr ⟨_, List.mem_of_getElem? (i := 0) rfl, (bTold_mem ht).choose_spec⟩) rfl rfl hl.1 dX11_fit_14 (Nat.le_of_ble_eq_true rfl) (by show _ + 0 ≤ 6 * (zNA (i1.toInt = 0 ∧ 0 < (fk 0).toInt ∧ (0 ≤ i2.toInt ∧ i2.toInt < (fk 2).toInt ∧ i2.toInt < 2) ∧ (e0f.toInt = 0 ∨ ¬ e1f.toInt = i1.toInt ∨ ¬ e2f.toInt = i2.toInt)) mdA n4A (zPl cr0_ inn0_ k10_) - n4A) + 6 * (zNA (i1.toInt = 1 ∧ 1 < (fk 0).toInt ∧ (0 ≤ i2.toInt ∧ i2.toInt < (fk 2).toInt ∧ i2.toInt < 2) ∧ (e0f.toInt = 0 ∨ ¬ e1f.toInt = i1.toInt ∨ ¬ e2f.toInt = i2.toInt)) mdB n4B (zPl cr1_ inn1_ k11_) - n4B) + 2 * (zNF (i1.toInt = 1 ∧ 1 < (fk 0).toInt ∧ (0 ≤ i2.toInt ∧ i2.toInt < (fk 2).toInt ∧ i2.toInt < 2) ∧ (e0f.toInt = 0 ∨ ¬ e1f.toInt = i1.toInt ∨ ¬ e2f.toInt = i2.toInt)) (zNF (i1.toInt = 0 ∧ 0 < (fk 0).toInt ∧ (0 ≤ i2.toInt ∧ i2.toInt < (fk 2).toInt ∧ i2.toInt < 2) ∧ (e0f.toInt = 0 ∨ ¬ e1f.toInt = i1.toInt ∨ ¬ e2f.toInt = i2.toInt)) m1f (zMw mdA wyA cr0_ inn0_ k10_)) (zMw mdB wyB cr1_ inn1_ k11_) - m1f); omega) (fun r_16 b1 H locs hw G => ?_)
    refine zAn2 hw ?_
    intro hbs9 hc_15
    clear hw
    subst hbs9
    have G : zS T A s.heap s [[zO10 xo t im mk rd po co tr wa wb_ fi cd], z0_, z1_, wg0_, wg1_, wwA, wwB, wff, wt] _ _ := G
    rcases hc_15 with ⟨rfl, h_17⟩ | ⟨rfl, h_18, h_19⟩ | ⟨rfl, h_20, h_21⟩
    · have h_17 : (i2.toInt < 0 ∨ (fk 2).toInt ≤ i2.toInt ∨ 2 ≤ i2.toInt) := h_17
      refine lv_astoreN (lv' := [(4, .null), (3, .ref l0), (0, .ref xo), (1, .int i1), (2, .int i2)]) hx hb dX11_fit_17 hl (by decide) (zLvf_h rfl) (fun ls hl => ?_)
      refine lv_aload_n hx hb dX11_fit_19 rfl (lv_at hl 1 rfl) ?_
      refine lv_ifnull hx hb dX11_fit_20 ?_
      refine lv_aloadN hx hb dX11_fit_23 (lv_at hl 0 rfl) ?_
      refine lv_ifnonnullN hx hb dX11_fit_25 ?_
      refine lv_iconst (v := 0) hx hb dX11_fit_28 (by decide) ?_
      have G := G.sub (bs' := [[zO10 xo t im mk rd po co tr wa wb_ fi cd], wt, z0_, z1_, wg0_, wg1_, wwA, wwB, wff]) [0, 8, 1, 2, 3, 4, 5, 6, 7] rfl
      exact z_back hQz_ (z_zret C hr hlocks G (Nat.le_of_ble_eq_true rfl) (by omega) dX11_fit_29 rfl ⟨laA, mdA, wyA, pc_A, f1A, f2A, f3A, f4A, f5A, f6A, n4A, wwA, laB, mdB, wyB, pc_B, f1B, f2B, f3B, f4B, f5B, f6B, n4B, wwB, e0f, e1f, e2f, e3f, e4f, e5f, r1f, m1f, r2f, wff, rfl, hwwA, hmdA, hwmA, (zNA_n (by omega)).symm, hpwA, (fun q => q), hwwB, hmdB, hwmB, (zNA_n (by omega)).symm, hpwB, (fun q => q), hwff, (((zNF_n (c := (i1.toInt = 1 ∧ 1 < (fk 0).toInt ∧ (0 ≤ i2.toInt ∧ i2.toInt < (fk 2).toInt ∧ i2.toInt < 2) ∧ (e0f.toInt = 0 ∨ ¬ e1f.toInt = i1.toInt ∨ ¬ e2f.toInt = i2.toInt))) (by omega)).trans (zNF_n (by omega))).symm), hfw, hf3, (Or.inl ⟨rfl, by omega⟩), hFI⟩)
    · have h_18 : i2.toInt = 0 := h_18
      have h_19 : 0 < (fk 2).toInt := h_19
      refine lv_astore (lv' := [(4, .ref g0), (3, .ref l0), (0, .ref xo), (1, .int i1), (2, .int i2)]) hx hb dX11_fit_17 hl (by decide) (zLvf_h rfl) (fun ls hl => ?_)
      refine lv_aload_n hx hb dX11_fit_19 rfl (lv_at hl 1 rfl) ?_
      refine lv_ifnull hx hb dX11_fit_20 ?_
      refine lv_aload hx hb dX11_fit_23 (lv_at hl 0 rfl) ?_
      refine lv_ifnonnull (tgt := 30) hx hb dX11_fit_25 (by decide) ?_
      refine lv_aload_n hx hb dX11_fit_30 rfl (lv_at hl 2 rfl) ?_
      refine z_get C G clX11 0 rfl 9 (by decide) m_fl_RX11_65 rfl dX11_fit_31 ?_
      refine zEx2 hwff ?_
      intro a1_22 a2_23 hbs9
      clear hwff
      subst hbs9
      have G : zS T A s.heap s [[zO10 xo t im mk rd po co tr wa wb_ fi cd], z0_, z1_, wg0_, wg1_, wwA, wwB, [zO3 fi e0f e1f e2f e3f e4f e5f a1_22 a2_23], [zAr T 0 a1_22 m1f r1f], [zAr T 0 a2_23 7 r2f], wt] _ _ := G.re rfl
      refine z_get C G clX3 7 rfl 0 (by decide) m_fl_RX11_109 rfl dX11_fit_34 ?_
      refine lv_if_eq (tgt := 62) hx hb dX11_fit_37 (by decide) (fun c_24 => ?_) (fun c_24 => ?_)
      · have c_24n : e0f.toInt = (0 : Int) := (fa_eq _ _).mp c_24
        refine lv_aload_n hx hb dX11_fit_62 rfl (lv_at hl 2 rfl) ?_
        refine z_get C G clX11 0 rfl 9 (by decide) m_fl_RX11_65 rfl dX11_fit_63 ?_
        refine lv_aload_n hx hb dX11_fit_66 rfl (lv_at hl 2 rfl) ?_
        refine lv_iload_n hx hb dX11_fit_67 rfl (lv_at hl 3 rfl) ?_
        refine lv_aload_n hx hb dX11_fit_68 rfl (lv_at hl 1 rfl) ?_
        have hcF : (i1.toInt = 0 ∧ 0 < (fk 0).toInt ∧ (0 ≤ i2.toInt ∧ i2.toInt < (fk 2).toInt ∧ i2.toInt < 2) ∧ (e0f.toInt = 0 ∨ ¬ e1f.toInt = i1.toInt ∨ ¬ e2f.toInt = i2.toInt)) := by omega
        have hcN : ¬ (i1.toInt = 1 ∧ 1 < (fk 0).toInt ∧ (0 ≤ i2.toInt ∧ i2.toInt < (fk 2).toInt ∧ i2.toInt < 2) ∧ (e0f.toInt = 0 ∨ ¬ e1f.toInt = i1.toInt ∨ ¬ e2f.toInt = i2.toInt)) := by omega
        have hNAm : zNA (i1.toInt = 0 ∧ 0 < (fk 0).toInt ∧ (0 ≤ i2.toInt ∧ i2.toInt < (fk 2).toInt ∧ i2.toInt < 2) ∧ (e0f.toInt = 0 ∨ ¬ e1f.toInt = i1.toInt ∨ ¬ e2f.toInt = i2.toInt)) mdA n4A (zPl cr0_ inn0_ k10_) = zMk mdA n4A (zPl cr0_ inn0_ k10_) := zNA_y hcF
        have hNAo : zNA (i1.toInt = 1 ∧ 1 < (fk 0).toInt ∧ (0 ≤ i2.toInt ∧ i2.toInt < (fk 2).toInt ∧ i2.toInt < 2) ∧ (e0f.toInt = 0 ∨ ¬ e1f.toInt = i1.toInt ∨ ¬ e2f.toInt = i2.toInt)) mdB n4B (zPl cr1_ inn1_ k11_) = n4B := zNA_n hcN
        have hn9 : zMk mdA n4A (zPl cr0_ inn0_ k10_) ≤ 131072 := zPw_le (zMk_pw hpwA)
        refine z_Vq (bc := [[zO10 xo t im mk rd po co tr wa wb_ fi cd], wwA, z0_]) (br := [z1_, wg0_, wg1_, wwB, [zO3 fi e0f e1f e2f e3f e4f e5f a1_22 a2_23], [zAr T 0 a1_22 m1f r1f], [zAr T 0 a2_23 7 r2f], wt]) (As := [.int i1, .ref l0]) (rest := [.ref fi]) C G (c_waysInA l T xo t im mk rd po co tr wa wb_ fi cd i1 laA mdA wyA pc_A f1A f2A f3A f4A f5A f6A n4A wwA l0 cr0_ inn0_ k10_ k20_ k30_ k40_ z0_ hwwA hz0_ hI0_ hpwA hmdA hwmA (by omega)) (kV_RX11_235 C.2.2.2.2 (Nat.le_of_ble_eq_true rfl) (Nat.le_of_ble_eq_true rfl)) [0, 5, 1] [0, 0, 3] rfl rfl (ci := 10) (qc := (RX11, TX11, 11)) rfl rfl (List.mem_flatten.mpr ⟨_, List.mem_of_getElem? (i := 0) rfl, List.mem_cons_self⟩) rfl rfl hl.1 dX11_fit_69 (Nat.le_of_ble_eq_true rfl) (by show _ + (6 * (zMk mdA n4A (zPl cr0_ inn0_ k10_) - n4A)) ≤ 6 * (zNA (i1.toInt = 0 ∧ 0 < (fk 0).toInt ∧ (0 ≤ i2.toInt ∧ i2.toInt < (fk 2).toInt ∧ i2.toInt < 2) ∧ (e0f.toInt = 0 ∨ ¬ e1f.toInt = i1.toInt ∨ ¬ e2f.toInt = i2.toInt)) mdA n4A (zPl cr0_ inn0_ k10_) - n4A) + 6 * (zNA (i1.toInt = 1 ∧ 1 < (fk 0).toInt ∧ (0 ≤ i2.toInt ∧ i2.toInt < (fk 2).toInt ∧ i2.toInt < 2) ∧ (e0f.toInt = 0 ∨ ¬ e1f.toInt = i1.toInt ∨ ¬ e2f.toInt = i2.toInt)) mdB n4B (zPl cr1_ inn1_ k11_) - n4B) + 2 * (zNF (i1.toInt = 1 ∧ 1 < (fk 0).toInt ∧ (0 ≤ i2.toInt ∧ i2.toInt < (fk 2).toInt ∧ i2.toInt < 2) ∧ (e0f.toInt = 0 ∨ ¬ e1f.toInt = i1.toInt ∨ ¬ e2f.toInt = i2.toInt)) (zNF (i1.toInt = 0 ∧ 0 < (fk 0).toInt ∧ (0 ≤ i2.toInt ∧ i2.toInt < (fk 2).toInt ∧ i2.toInt < 2) ∧ (e0f.toInt = 0 ∨ ¬ e1f.toInt = i1.toInt ∨ ¬ e2f.toInt = i2.toInt)) m1f (zMw mdA wyA cr0_ inn0_ k10_)) (zMw mdB wyB cr1_ inn1_ k11_) - m1f); omega) (fun r_39 b1 H locs hw G => ?_)
        refine zEx9 hw ?_
        intro w2_25 m2_26 wy2_27 pc2_28 g1_29 g2_30 g4_31 g5_32 g6_33
        refine zCu6 ?_
        intro hbs9 h_34 h_35 h_36 h_37 h_38
        clear hw
        subst hbs9
        have G : zS T A s.heap s [z1_, wg0_, wg1_, wwB, [zO3 fi e0f e1f e2f e3f e4f e5f a1_22 a2_23], [zAr T 0 a1_22 m1f r1f], [zAr T 0 a2_23 7 r2f], wt, [zO10 xo t im mk rd po co tr wa wb_ fi cd], w2_25, z0_] _ _ := G
        subst h_34
        have hwy9 := h_36
        have hNF : zNF (i1.toInt = 1 ∧ 1 < (fk 0).toInt ∧ (0 ≤ i2.toInt ∧ i2.toInt < (fk 2).toInt ∧ i2.toInt < 2) ∧ (e0f.toInt = 0 ∨ ¬ e1f.toInt = i1.toInt ∨ ¬ e2f.toInt = i2.toInt)) (zNF (i1.toInt = 0 ∧ 0 < (fk 0).toInt ∧ (0 ≤ i2.toInt ∧ i2.toInt < (fk 2).toInt ∧ i2.toInt < 2) ∧ (e0f.toInt = 0 ∨ ¬ e1f.toInt = i1.toInt ∨ ¬ e2f.toInt = i2.toInt)) m1f (zMw mdA wyA cr0_ inn0_ k10_)) (zMw mdB wyB cr1_ inn1_ k11_) = zFl m1f wy2_27 := by rw [zNF_n (c := (i1.toInt = 1 ∧ 1 < (fk 0).toInt ∧ (0 ≤ i2.toInt ∧ i2.toInt < (fk 2).toInt ∧ i2.toInt < 2) ∧ (e0f.toInt = 0 ∨ ¬ e1f.toInt = i1.toInt ∨ ¬ e2f.toInt = i2.toInt))) hcN, zNF_y hcF, h_37]
        have hfw9 := zFl_pw (wy := wy2_27) hfw
        refine lv_aload hx hb dX11_fit_72 (lv_at hl 0 rfl) ?_
        have hw_40 : bFit T fi e0f e1f e2f e3f e4f e5f r1f m1f r2f [zO3 fi e0f e1f e2f e3f e4f e5f a1_22 a2_23, zAr T 0 a1_22 m1f r1f, zAr T 0 a2_23 7 r2f] := ⟨a1_22, a2_23, rfl⟩
        have G : zS T A s.heap s [z1_, wg0_, wg1_, wwB, [zO3 fi e0f e1f e2f e3f e4f e5f a1_22 a2_23, zAr T 0 a1_22 m1f r1f, zAr T 0 a2_23 7 r2f], wt, [zO10 xo t im mk rd po co tr wa wb_ fi cd], w2_25, z0_] _ _ := G.re rfl
        refine z_Vv (bc := [[zO3 fi e0f e1f e2f e3f e4f e5f a1_22 a2_23, zAr T 0 a1_22 m1f r1f, zAr T 0 a2_23 7 r2f], w2_25, z0_, wg0_]) (br := [z1_, wg1_, wwB, wt, [zO10 xo t im mk rd po co tr wa wb_ fi cd]]) (As := [.ref wa, .ref g0]) (rest := []) C G (c_find l T fi e0f e1f e2f e3f e4f e5f r1f m1f r2f ([zO3 fi e0f e1f e2f e3f e4f e5f a1_22 a2_23, zAr T 0 a1_22 m1f r1f, zAr T 0 a2_23 7 r2f]) wa l0 m2_26 wy2_27 pc2_28 g1_29 g2_30 f3A g4_31 g5_32 g6_33 (zMk mdA n4A (zPl cr0_ inn0_ k10_)) w2_25 cr0_ inn0_ k10_ k20_ k30_ k40_ z0_ g0 gg0_ q10_ q20_ wg0_ hw_40 h_35 hz0_ hg0_ hn9 hfw hwy9) (kV_RX11_298 C.2.2.2.2 (Nat.le_of_ble_eq_true rfl) (Nat.le_of_ble_eq_true rfl)) [4, 7, 8, 1] [1, 2, 2, 0] rfl rfl (ci := 3) (qc := (RX3, TX3, 8)) rfl rfl (List.mem_flatten.mpr ⟨_, List.mem_of_getElem? (i := 0) rfl, (bFit_mem hw_40).choose_spec⟩) rfl rfl hl.1 dX11_fit_74 (Nat.le_of_ble_eq_true rfl) (by show _ + (2 * (zFl m1f wy2_27 - m1f)) ≤ 6 * (zNA (i1.toInt = 0 ∧ 0 < (fk 0).toInt ∧ (0 ≤ i2.toInt ∧ i2.toInt < (fk 2).toInt ∧ i2.toInt < 2) ∧ (e0f.toInt = 0 ∨ ¬ e1f.toInt = i1.toInt ∨ ¬ e2f.toInt = i2.toInt)) mdA n4A (zPl cr0_ inn0_ k10_) - n4A) + 6 * (zNA (i1.toInt = 1 ∧ 1 < (fk 0).toInt ∧ (0 ≤ i2.toInt ∧ i2.toInt < (fk 2).toInt ∧ i2.toInt < 2) ∧ (e0f.toInt = 0 ∨ ¬ e1f.toInt = i1.toInt ∨ ¬ e2f.toInt = i2.toInt)) mdB n4B (zPl cr1_ inn1_ k11_) - n4B) + 2 * (zNF (i1.toInt = 1 ∧ 1 < (fk 0).toInt ∧ (0 ≤ i2.toInt ∧ i2.toInt < (fk 2).toInt ∧ i2.toInt < 2) ∧ (e0f.toInt = 0 ∨ ¬ e1f.toInt = i1.toInt ∨ ¬ e2f.toInt = i2.toInt)) (zNF (i1.toInt = 0 ∧ 0 < (fk 0).toInt ∧ (0 ≤ i2.toInt ∧ i2.toInt < (fk 2).toInt ∧ i2.toInt < 2) ∧ (e0f.toInt = 0 ∨ ¬ e1f.toInt = i1.toInt ∨ ¬ e2f.toInt = i2.toInt)) m1f (zMw mdA wyA cr0_ inn0_ k10_)) (zMw mdB wyB cr1_ inn1_ k11_) - m1f); omega) (fun b1 H locs hw G => ?_)
        refine zEx5 hw ?_
        intro w2_41 s3_42 s4_43 s5_44 g1_45
        refine zCu3 ?_
        intro hbs9 h_46 h_47
        clear hw
        subst hbs9
        have G : zS T A s.heap s [z1_, wg1_, wwB, wt, [zO10 xo t im mk rd po co tr wa wb_ fi cd], w2_41, w2_25, z0_, wg0_] _ _ := G
        have h39 := h_47
        refine lv_aload_n hx hb dX11_fit_77 rfl (lv_at hl 2 rfl) ?_
        refine z_get C G clX11 4 rfl 9 (by decide) m_fl_RX11_65 rfl dX11_fit_78 ?_
        refine lv_iload_n hx hb dX11_fit_81 rfl (lv_at hl 3 rfl) ?_
        refine zEx2 h_46 ?_
        intro a1_49 a2_50 hbs9
        clear h_46
        subst hbs9
        have G : zS T A s.heap s [z1_, wg1_, wwB, wt, [zO10 xo t im mk rd po co tr wa wb_ fi cd], [zO3 fi e0f e1f e2f s3_42 s4_43 s5_44 a1_49 a2_50], [zAr T 0 a1_49 (zFl m1f wy2_27) g1_45], [zAr T 0 a2_50 7 r2f], w2_25, z0_, wg0_] _ _ := G.re rfl
        refine z_put C G clX3 5 rfl 1 (by decide) m_fl_RX11_292 rfl rfl rfl (Nat.le_of_ble_eq_true rfl) dX11_fit_82 (fun H locs G => ?_)
        have G : zS T A s.heap s [z1_, wg1_, wwB, wt, [zO10 xo t im mk rd po co tr wa wb_ fi cd], [zO3 fi e0f i1 e2f s3_42 s4_43 s5_44 a1_49 a2_50], [zAr T 0 a1_49 (zFl m1f wy2_27) g1_45], [zAr T 0 a2_50 7 r2f], w2_25, z0_, wg0_] _ _ := G
        refine lv_aload_n hx hb dX11_fit_85 rfl (lv_at hl 2 rfl) ?_
        refine z_get C G clX11 4 rfl 9 (by decide) m_fl_RX11_65 rfl dX11_fit_86 ?_
        refine lv_iload_n hx hb dX11_fit_89 rfl (lv_at hl 4 rfl) ?_
        refine z_put C G clX3 5 rfl 2 (by decide) m_fl_RX11_295 rfl rfl rfl (Nat.le_of_ble_eq_true rfl) dX11_fit_90 (fun H locs G => ?_)
        have G : zS T A s.heap s [z1_, wg1_, wwB, wt, [zO10 xo t im mk rd po co tr wa wb_ fi cd], [zO3 fi e0f i1 i2 s3_42 s4_43 s5_44 a1_49 a2_50], [zAr T 0 a1_49 (zFl m1f wy2_27) g1_45], [zAr T 0 a2_50 7 r2f], w2_25, z0_, wg0_] _ _ := G
        refine lv_aload_n hx hb dX11_fit_93 rfl (lv_at hl 2 rfl) ?_
        refine z_get C G clX11 4 rfl 9 (by decide) m_fl_RX11_65 rfl dX11_fit_94 ?_
        refine lv_iconst (v := 1) hx hb dX11_fit_97 (by decide) ?_
        refine z_put C G clX3 5 rfl 0 (by decide) m_fl_RX11_109 rfl rfl rfl (Nat.le_of_ble_eq_true rfl) dX11_fit_98 (fun H locs G => ?_)
        have G : zS T A s.heap s [z1_, wg1_, wwB, wt, [zO10 xo t im mk rd po co tr wa wb_ fi cd], [zO3 fi 1 i1 i2 s3_42 s4_43 s5_44 a1_49 a2_50], [zAr T 0 a1_49 (zFl m1f wy2_27) g1_45], [zAr T 0 a2_50 7 r2f], w2_25, z0_, wg0_] _ _ := G
        refine lv_iconst (v := 1) hx hb dX11_fit_101 (by decide) ?_
        have hw_51 : bFit T fi 1 i1 i2 s3_42 s4_43 s5_44 g1_45 (zFl m1f wy2_27) r2f [zO3 fi 1 i1 i2 s3_42 s4_43 s5_44 a1_49 a2_50, zAr T 0 a1_49 (zFl m1f wy2_27) g1_45, zAr T 0 a2_50 7 r2f] := ⟨a1_49, a2_50, rfl⟩
        have G : zS T A s.heap s [z1_, wg1_, wwB, wt, [zO10 xo t im mk rd po co tr wa wb_ fi cd], [zO3 fi 1 i1 i2 s3_42 s4_43 s5_44 a1_49 a2_50, zAr T 0 a1_49 (zFl m1f wy2_27) g1_45, zAr T 0 a2_50 7 r2f], w2_25, z0_, wg0_] _ _ := G.re rfl
        have G := G.sub (bs' := [[zO10 xo t im mk rd po co tr wa wb_ fi cd], wt, z0_, z1_, wg0_, wg1_, w2_25, wwB, [zO3 fi 1 i1 i2 s3_42 s4_43 s5_44 a1_49 a2_50, zAr T 0 a1_49 (zFl m1f wy2_27) g1_45, zAr T 0 a2_50 7 r2f]]) [4, 3, 7, 0, 8, 1, 6, 2, 5] rfl
        exact z_back hQz_ (z_zret C hr hlocks G (Nat.le_of_ble_eq_true rfl) (by omega) dX11_fit_102 rfl ⟨l0, m2_26, wy2_27, pc2_28, g1_29, g2_30, f3A, g4_31, g5_32, g6_33, (zMk mdA n4A (zPl cr0_ inn0_ k10_)), w2_25, laB, mdB, wyB, pc_B, f1B, f2B, f3B, f4B, f5B, f6B, n4B, wwB, 1, i1, i2, s3_42, s4_43, s5_44, g1_45, (zFl m1f wy2_27), r2f, ([zO3 fi 1 i1 i2 s3_42 s4_43 s5_44 a1_49 a2_50, zAr T 0 a1_49 (zFl m1f wy2_27) g1_45, zAr T 0 a2_50 7 r2f]), rfl, h_35, (Or.inr rfl), hwy9, hNAm.symm, (zMk_pw hpwA), (fun _ => h_38), hwwB, hmdB, hwmB, (zNA_n (by omega)).symm, hpwB, (fun q => q), hw_51, hNF.symm, hfw9, h39, (Or.inr ⟨rfl, by omega, by decide, rfl⟩), (fun _ => Or.inl ⟨by omega, h_38⟩)⟩)
      · have c_24n : ¬ e0f.toInt = (0 : Int) := fun q => c_24 ((fa_eq _ _).mpr q)
        refine lv_aload_n hx hb dX11_fit_40 rfl (lv_at hl 2 rfl) ?_
        refine z_get C G clX11 0 rfl 9 (by decide) m_fl_RX11_65 rfl dX11_fit_41 ?_
        refine z_get C G clX3 7 rfl 1 (by decide) m_fl_RX11_292 rfl dX11_fit_44 ?_
        refine lv_iload_n hx hb dX11_fit_47 rfl (lv_at hl 3 rfl) ?_
        refine lv_icmp_ne (tgt := 62) hx hb dX11_fit_48 (by decide) (fun c_52 => ?_) (fun c_52 => ?_)
        · have c_52n : ¬ e1f.toInt = i1.toInt := fun q => c_52 ((fa_eq _ _).mpr q)
          refine lv_aload_n hx hb dX11_fit_62 rfl (lv_at hl 2 rfl) ?_
          refine z_get C G clX11 0 rfl 9 (by decide) m_fl_RX11_65 rfl dX11_fit_63 ?_
          refine lv_aload_n hx hb dX11_fit_66 rfl (lv_at hl 2 rfl) ?_
          refine lv_iload_n hx hb dX11_fit_67 rfl (lv_at hl 3 rfl) ?_
          refine lv_aload_n hx hb dX11_fit_68 rfl (lv_at hl 1 rfl) ?_
          have hcF : (i1.toInt = 0 ∧ 0 < (fk 0).toInt ∧ (0 ≤ i2.toInt ∧ i2.toInt < (fk 2).toInt ∧ i2.toInt < 2) ∧ (e0f.toInt = 0 ∨ ¬ e1f.toInt = i1.toInt ∨ ¬ e2f.toInt = i2.toInt)) := by omega
          have hcN : ¬ (i1.toInt = 1 ∧ 1 < (fk 0).toInt ∧ (0 ≤ i2.toInt ∧ i2.toInt < (fk 2).toInt ∧ i2.toInt < 2) ∧ (e0f.toInt = 0 ∨ ¬ e1f.toInt = i1.toInt ∨ ¬ e2f.toInt = i2.toInt)) := by omega
          have hNAm : zNA (i1.toInt = 0 ∧ 0 < (fk 0).toInt ∧ (0 ≤ i2.toInt ∧ i2.toInt < (fk 2).toInt ∧ i2.toInt < 2) ∧ (e0f.toInt = 0 ∨ ¬ e1f.toInt = i1.toInt ∨ ¬ e2f.toInt = i2.toInt)) mdA n4A (zPl cr0_ inn0_ k10_) = zMk mdA n4A (zPl cr0_ inn0_ k10_) := zNA_y hcF
          have hNAo : zNA (i1.toInt = 1 ∧ 1 < (fk 0).toInt ∧ (0 ≤ i2.toInt ∧ i2.toInt < (fk 2).toInt ∧ i2.toInt < 2) ∧ (e0f.toInt = 0 ∨ ¬ e1f.toInt = i1.toInt ∨ ¬ e2f.toInt = i2.toInt)) mdB n4B (zPl cr1_ inn1_ k11_) = n4B := zNA_n hcN
          have hn9 : zMk mdA n4A (zPl cr0_ inn0_ k10_) ≤ 131072 := zPw_le (zMk_pw hpwA)
          refine z_Vq (bc := [[zO10 xo t im mk rd po co tr wa wb_ fi cd], wwA, z0_]) (br := [z1_, wg0_, wg1_, wwB, [zO3 fi e0f e1f e2f e3f e4f e5f a1_22 a2_23], [zAr T 0 a1_22 m1f r1f], [zAr T 0 a2_23 7 r2f], wt]) (As := [.int i1, .ref l0]) (rest := [.ref fi]) C G (c_waysInA l T xo t im mk rd po co tr wa wb_ fi cd i1 laA mdA wyA pc_A f1A f2A f3A f4A f5A f6A n4A wwA l0 cr0_ inn0_ k10_ k20_ k30_ k40_ z0_ hwwA hz0_ hI0_ hpwA hmdA hwmA (by omega)) (kV_RX11_235 C.2.2.2.2 (Nat.le_of_ble_eq_true rfl) (Nat.le_of_ble_eq_true rfl)) [0, 5, 1] [0, 0, 3] rfl rfl (ci := 10) (qc := (RX11, TX11, 11)) rfl rfl (List.mem_flatten.mpr ⟨_, List.mem_of_getElem? (i := 0) rfl, List.mem_cons_self⟩) rfl rfl hl.1 dX11_fit_69 (Nat.le_of_ble_eq_true rfl) (by show _ + (6 * (zMk mdA n4A (zPl cr0_ inn0_ k10_) - n4A)) ≤ 6 * (zNA (i1.toInt = 0 ∧ 0 < (fk 0).toInt ∧ (0 ≤ i2.toInt ∧ i2.toInt < (fk 2).toInt ∧ i2.toInt < 2) ∧ (e0f.toInt = 0 ∨ ¬ e1f.toInt = i1.toInt ∨ ¬ e2f.toInt = i2.toInt)) mdA n4A (zPl cr0_ inn0_ k10_) - n4A) + 6 * (zNA (i1.toInt = 1 ∧ 1 < (fk 0).toInt ∧ (0 ≤ i2.toInt ∧ i2.toInt < (fk 2).toInt ∧ i2.toInt < 2) ∧ (e0f.toInt = 0 ∨ ¬ e1f.toInt = i1.toInt ∨ ¬ e2f.toInt = i2.toInt)) mdB n4B (zPl cr1_ inn1_ k11_) - n4B) + 2 * (zNF (i1.toInt = 1 ∧ 1 < (fk 0).toInt ∧ (0 ≤ i2.toInt ∧ i2.toInt < (fk 2).toInt ∧ i2.toInt < 2) ∧ (e0f.toInt = 0 ∨ ¬ e1f.toInt = i1.toInt ∨ ¬ e2f.toInt = i2.toInt)) (zNF (i1.toInt = 0 ∧ 0 < (fk 0).toInt ∧ (0 ≤ i2.toInt ∧ i2.toInt < (fk 2).toInt ∧ i2.toInt < 2) ∧ (e0f.toInt = 0 ∨ ¬ e1f.toInt = i1.toInt ∨ ¬ e2f.toInt = i2.toInt)) m1f (zMw mdA wyA cr0_ inn0_ k10_)) (zMw mdB wyB cr1_ inn1_ k11_) - m1f); omega) (fun r_67 b1 H locs hw G => ?_)
          refine zEx9 hw ?_
          intro w2_53 m2_54 wy2_55 pc2_56 g1_57 g2_58 g4_59 g5_60 g6_61
          refine zCu6 ?_
          intro hbs9 h_62 h_63 h_64 h_65 h_66
          clear hw
          subst hbs9
          have G : zS T A s.heap s [z1_, wg0_, wg1_, wwB, [zO3 fi e0f e1f e2f e3f e4f e5f a1_22 a2_23], [zAr T 0 a1_22 m1f r1f], [zAr T 0 a2_23 7 r2f], wt, [zO10 xo t im mk rd po co tr wa wb_ fi cd], w2_53, z0_] _ _ := G
          subst h_62
          have hwy9 := h_64
          have hNF : zNF (i1.toInt = 1 ∧ 1 < (fk 0).toInt ∧ (0 ≤ i2.toInt ∧ i2.toInt < (fk 2).toInt ∧ i2.toInt < 2) ∧ (e0f.toInt = 0 ∨ ¬ e1f.toInt = i1.toInt ∨ ¬ e2f.toInt = i2.toInt)) (zNF (i1.toInt = 0 ∧ 0 < (fk 0).toInt ∧ (0 ≤ i2.toInt ∧ i2.toInt < (fk 2).toInt ∧ i2.toInt < 2) ∧ (e0f.toInt = 0 ∨ ¬ e1f.toInt = i1.toInt ∨ ¬ e2f.toInt = i2.toInt)) m1f (zMw mdA wyA cr0_ inn0_ k10_)) (zMw mdB wyB cr1_ inn1_ k11_) = zFl m1f wy2_55 := by rw [zNF_n (c := (i1.toInt = 1 ∧ 1 < (fk 0).toInt ∧ (0 ≤ i2.toInt ∧ i2.toInt < (fk 2).toInt ∧ i2.toInt < 2) ∧ (e0f.toInt = 0 ∨ ¬ e1f.toInt = i1.toInt ∨ ¬ e2f.toInt = i2.toInt))) hcN, zNF_y hcF, h_65]
          have hfw9 := zFl_pw (wy := wy2_55) hfw
          refine lv_aload hx hb dX11_fit_72 (lv_at hl 0 rfl) ?_
          have hw_68 : bFit T fi e0f e1f e2f e3f e4f e5f r1f m1f r2f [zO3 fi e0f e1f e2f e3f e4f e5f a1_22 a2_23, zAr T 0 a1_22 m1f r1f, zAr T 0 a2_23 7 r2f] := ⟨a1_22, a2_23, rfl⟩
          have G : zS T A s.heap s [z1_, wg0_, wg1_, wwB, [zO3 fi e0f e1f e2f e3f e4f e5f a1_22 a2_23, zAr T 0 a1_22 m1f r1f, zAr T 0 a2_23 7 r2f], wt, [zO10 xo t im mk rd po co tr wa wb_ fi cd], w2_53, z0_] _ _ := G.re rfl
          refine z_Vv (bc := [[zO3 fi e0f e1f e2f e3f e4f e5f a1_22 a2_23, zAr T 0 a1_22 m1f r1f, zAr T 0 a2_23 7 r2f], w2_53, z0_, wg0_]) (br := [z1_, wg1_, wwB, wt, [zO10 xo t im mk rd po co tr wa wb_ fi cd]]) (As := [.ref wa, .ref g0]) (rest := []) C G (c_find l T fi e0f e1f e2f e3f e4f e5f r1f m1f r2f ([zO3 fi e0f e1f e2f e3f e4f e5f a1_22 a2_23, zAr T 0 a1_22 m1f r1f, zAr T 0 a2_23 7 r2f]) wa l0 m2_54 wy2_55 pc2_56 g1_57 g2_58 f3A g4_59 g5_60 g6_61 (zMk mdA n4A (zPl cr0_ inn0_ k10_)) w2_53 cr0_ inn0_ k10_ k20_ k30_ k40_ z0_ g0 gg0_ q10_ q20_ wg0_ hw_68 h_63 hz0_ hg0_ hn9 hfw hwy9) (kV_RX11_298 C.2.2.2.2 (Nat.le_of_ble_eq_true rfl) (Nat.le_of_ble_eq_true rfl)) [4, 7, 8, 1] [1, 2, 2, 0] rfl rfl (ci := 3) (qc := (RX3, TX3, 8)) rfl rfl (List.mem_flatten.mpr ⟨_, List.mem_of_getElem? (i := 0) rfl, (bFit_mem hw_68).choose_spec⟩) rfl rfl hl.1 dX11_fit_74 (Nat.le_of_ble_eq_true rfl) (by show _ + (2 * (zFl m1f wy2_55 - m1f)) ≤ 6 * (zNA (i1.toInt = 0 ∧ 0 < (fk 0).toInt ∧ (0 ≤ i2.toInt ∧ i2.toInt < (fk 2).toInt ∧ i2.toInt < 2) ∧ (e0f.toInt = 0 ∨ ¬ e1f.toInt = i1.toInt ∨ ¬ e2f.toInt = i2.toInt)) mdA n4A (zPl cr0_ inn0_ k10_) - n4A) + 6 * (zNA (i1.toInt = 1 ∧ 1 < (fk 0).toInt ∧ (0 ≤ i2.toInt ∧ i2.toInt < (fk 2).toInt ∧ i2.toInt < 2) ∧ (e0f.toInt = 0 ∨ ¬ e1f.toInt = i1.toInt ∨ ¬ e2f.toInt = i2.toInt)) mdB n4B (zPl cr1_ inn1_ k11_) - n4B) + 2 * (zNF (i1.toInt = 1 ∧ 1 < (fk 0).toInt ∧ (0 ≤ i2.toInt ∧ i2.toInt < (fk 2).toInt ∧ i2.toInt < 2) ∧ (e0f.toInt = 0 ∨ ¬ e1f.toInt = i1.toInt ∨ ¬ e2f.toInt = i2.toInt)) (zNF (i1.toInt = 0 ∧ 0 < (fk 0).toInt ∧ (0 ≤ i2.toInt ∧ i2.toInt < (fk 2).toInt ∧ i2.toInt < 2) ∧ (e0f.toInt = 0 ∨ ¬ e1f.toInt = i1.toInt ∨ ¬ e2f.toInt = i2.toInt)) m1f (zMw mdA wyA cr0_ inn0_ k10_)) (zMw mdB wyB cr1_ inn1_ k11_) - m1f); omega) (fun b1 H locs hw G => ?_)
          refine zEx5 hw ?_
          intro w2_69 s3_70 s4_71 s5_72 g1_73
          refine zCu3 ?_
          intro hbs9 h_74 h_75
          clear hw
          subst hbs9
          have G : zS T A s.heap s [z1_, wg1_, wwB, wt, [zO10 xo t im mk rd po co tr wa wb_ fi cd], w2_69, w2_53, z0_, wg0_] _ _ := G
          have h39 := h_75
          refine lv_aload_n hx hb dX11_fit_77 rfl (lv_at hl 2 rfl) ?_
          refine z_get C G clX11 4 rfl 9 (by decide) m_fl_RX11_65 rfl dX11_fit_78 ?_
          refine lv_iload_n hx hb dX11_fit_81 rfl (lv_at hl 3 rfl) ?_
          refine zEx2 h_74 ?_
          intro a1_77 a2_78 hbs9
          clear h_74
          subst hbs9
          have G : zS T A s.heap s [z1_, wg1_, wwB, wt, [zO10 xo t im mk rd po co tr wa wb_ fi cd], [zO3 fi e0f e1f e2f s3_70 s4_71 s5_72 a1_77 a2_78], [zAr T 0 a1_77 (zFl m1f wy2_55) g1_73], [zAr T 0 a2_78 7 r2f], w2_53, z0_, wg0_] _ _ := G.re rfl
          refine z_put C G clX3 5 rfl 1 (by decide) m_fl_RX11_292 rfl rfl rfl (Nat.le_of_ble_eq_true rfl) dX11_fit_82 (fun H locs G => ?_)
          have G : zS T A s.heap s [z1_, wg1_, wwB, wt, [zO10 xo t im mk rd po co tr wa wb_ fi cd], [zO3 fi e0f i1 e2f s3_70 s4_71 s5_72 a1_77 a2_78], [zAr T 0 a1_77 (zFl m1f wy2_55) g1_73], [zAr T 0 a2_78 7 r2f], w2_53, z0_, wg0_] _ _ := G
          refine lv_aload_n hx hb dX11_fit_85 rfl (lv_at hl 2 rfl) ?_
          refine z_get C G clX11 4 rfl 9 (by decide) m_fl_RX11_65 rfl dX11_fit_86 ?_
          refine lv_iload_n hx hb dX11_fit_89 rfl (lv_at hl 4 rfl) ?_
          refine z_put C G clX3 5 rfl 2 (by decide) m_fl_RX11_295 rfl rfl rfl (Nat.le_of_ble_eq_true rfl) dX11_fit_90 (fun H locs G => ?_)
          have G : zS T A s.heap s [z1_, wg1_, wwB, wt, [zO10 xo t im mk rd po co tr wa wb_ fi cd], [zO3 fi e0f i1 i2 s3_70 s4_71 s5_72 a1_77 a2_78], [zAr T 0 a1_77 (zFl m1f wy2_55) g1_73], [zAr T 0 a2_78 7 r2f], w2_53, z0_, wg0_] _ _ := G
          refine lv_aload_n hx hb dX11_fit_93 rfl (lv_at hl 2 rfl) ?_
          refine z_get C G clX11 4 rfl 9 (by decide) m_fl_RX11_65 rfl dX11_fit_94 ?_
          refine lv_iconst (v := 1) hx hb dX11_fit_97 (by decide) ?_
          refine z_put C G clX3 5 rfl 0 (by decide) m_fl_RX11_109 rfl rfl rfl (Nat.le_of_ble_eq_true rfl) dX11_fit_98 (fun H locs G => ?_)
          have G : zS T A s.heap s [z1_, wg1_, wwB, wt, [zO10 xo t im mk rd po co tr wa wb_ fi cd], [zO3 fi 1 i1 i2 s3_70 s4_71 s5_72 a1_77 a2_78], [zAr T 0 a1_77 (zFl m1f wy2_55) g1_73], [zAr T 0 a2_78 7 r2f], w2_53, z0_, wg0_] _ _ := G
          refine lv_iconst (v := 1) hx hb dX11_fit_101 (by decide) ?_
          have hw_79 : bFit T fi 1 i1 i2 s3_70 s4_71 s5_72 g1_73 (zFl m1f wy2_55) r2f [zO3 fi 1 i1 i2 s3_70 s4_71 s5_72 a1_77 a2_78, zAr T 0 a1_77 (zFl m1f wy2_55) g1_73, zAr T 0 a2_78 7 r2f] := ⟨a1_77, a2_78, rfl⟩
          have G : zS T A s.heap s [z1_, wg1_, wwB, wt, [zO10 xo t im mk rd po co tr wa wb_ fi cd], [zO3 fi 1 i1 i2 s3_70 s4_71 s5_72 a1_77 a2_78, zAr T 0 a1_77 (zFl m1f wy2_55) g1_73, zAr T 0 a2_78 7 r2f], w2_53, z0_, wg0_] _ _ := G.re rfl
          have G := G.sub (bs' := [[zO10 xo t im mk rd po co tr wa wb_ fi cd], wt, z0_, z1_, wg0_, wg1_, w2_53, wwB, [zO3 fi 1 i1 i2 s3_70 s4_71 s5_72 a1_77 a2_78, zAr T 0 a1_77 (zFl m1f wy2_55) g1_73, zAr T 0 a2_78 7 r2f]]) [4, 3, 7, 0, 8, 1, 6, 2, 5] rfl
          exact z_back hQz_ (z_zret C hr hlocks G (Nat.le_of_ble_eq_true rfl) (by omega) dX11_fit_102 rfl ⟨l0, m2_54, wy2_55, pc2_56, g1_57, g2_58, f3A, g4_59, g5_60, g6_61, (zMk mdA n4A (zPl cr0_ inn0_ k10_)), w2_53, laB, mdB, wyB, pc_B, f1B, f2B, f3B, f4B, f5B, f6B, n4B, wwB, 1, i1, i2, s3_70, s4_71, s5_72, g1_73, (zFl m1f wy2_55), r2f, ([zO3 fi 1 i1 i2 s3_70 s4_71 s5_72 a1_77 a2_78, zAr T 0 a1_77 (zFl m1f wy2_55) g1_73, zAr T 0 a2_78 7 r2f]), rfl, h_63, (Or.inr rfl), hwy9, hNAm.symm, (zMk_pw hpwA), (fun _ => h_66), hwwB, hmdB, hwmB, (zNA_n (by omega)).symm, hpwB, (fun q => q), hw_79, hNF.symm, hfw9, h39, (Or.inr ⟨rfl, by omega, by decide, rfl⟩), (fun _ => Or.inl ⟨by omega, h_66⟩)⟩)
        · have c_52n : e1f.toInt = i1.toInt := (fa_eq _ _).mp c_52
          refine lv_aload_n hx hb dX11_fit_51 rfl (lv_at hl 2 rfl) ?_
          refine z_get C G clX11 0 rfl 9 (by decide) m_fl_RX11_65 rfl dX11_fit_52 ?_
          refine z_get C G clX3 7 rfl 2 (by decide) m_fl_RX11_295 rfl dX11_fit_55 ?_
          refine lv_iload_n hx hb dX11_fit_58 rfl (lv_at hl 4 rfl) ?_
          refine lv_icmp_eq (tgt := 101) hx hb dX11_fit_59 (by decide) (fun c_80 => ?_) (fun c_80 => ?_)
          · have c_80n : e2f.toInt = i2.toInt := (fa_eq _ _).mp c_80
            refine lv_iconst (v := 1) hx hb dX11_fit_101 (by decide) ?_
            have hw_81 : bFit T fi e0f e1f e2f e3f e4f e5f r1f m1f r2f [zO3 fi e0f e1f e2f e3f e4f e5f a1_22 a2_23, zAr T 0 a1_22 m1f r1f, zAr T 0 a2_23 7 r2f] := ⟨a1_22, a2_23, rfl⟩
            have G : zS T A s.heap s [[zO10 xo t im mk rd po co tr wa wb_ fi cd], z0_, z1_, wg0_, wg1_, wwA, wwB, [zO3 fi e0f e1f e2f e3f e4f e5f a1_22 a2_23, zAr T 0 a1_22 m1f r1f, zAr T 0 a2_23 7 r2f], wt] _ _ := G.re rfl
            have G := G.sub (bs' := [[zO10 xo t im mk rd po co tr wa wb_ fi cd], wt, z0_, z1_, wg0_, wg1_, wwA, wwB, [zO3 fi e0f e1f e2f e3f e4f e5f a1_22 a2_23, zAr T 0 a1_22 m1f r1f, zAr T 0 a2_23 7 r2f]]) [0, 8, 1, 2, 3, 4, 5, 6, 7] rfl
            exact z_back hQz_ (z_zret C hr hlocks G (Nat.le_of_ble_eq_true rfl) (by omega) dX11_fit_102 rfl ⟨laA, mdA, wyA, pc_A, f1A, f2A, f3A, f4A, f5A, f6A, n4A, wwA, laB, mdB, wyB, pc_B, f1B, f2B, f3B, f4B, f5B, f6B, n4B, wwB, e0f, e1f, e2f, e3f, e4f, e5f, r1f, m1f, r2f, ([zO3 fi e0f e1f e2f e3f e4f e5f a1_22 a2_23, zAr T 0 a1_22 m1f r1f, zAr T 0 a2_23 7 r2f]), rfl, hwwA, hmdA, hwmA, (zNA_n (by omega)).symm, hpwA, (fun q => q), hwwB, hmdB, hwmB, (zNA_n (by omega)).symm, hpwB, (fun q => q), hw_81, (((zNF_n (c := (i1.toInt = 1 ∧ 1 < (fk 0).toInt ∧ (0 ≤ i2.toInt ∧ i2.toInt < (fk 2).toInt ∧ i2.toInt < 2) ∧ (e0f.toInt = 0 ∨ ¬ e1f.toInt = i1.toInt ∨ ¬ e2f.toInt = i2.toInt))) (by omega)).trans (zNF_n (by omega))).symm), hfw, hf3, (Or.inr ⟨rfl, by omega, (fun q => absurd (congrArg Int32.toInt q) (by show ¬ _ = (0 : Int); omega)), by omega⟩), hFI⟩)
          · have c_80n : ¬ e2f.toInt = i2.toInt := fun q => c_80 ((fa_eq _ _).mpr q)
            refine lv_aload_n hx hb dX11_fit_62 rfl (lv_at hl 2 rfl) ?_
            refine z_get C G clX11 0 rfl 9 (by decide) m_fl_RX11_65 rfl dX11_fit_63 ?_
            refine lv_aload_n hx hb dX11_fit_66 rfl (lv_at hl 2 rfl) ?_
            refine lv_iload_n hx hb dX11_fit_67 rfl (lv_at hl 3 rfl) ?_
            refine lv_aload_n hx hb dX11_fit_68 rfl (lv_at hl 1 rfl) ?_
            have hcF : (i1.toInt = 0 ∧ 0 < (fk 0).toInt ∧ (0 ≤ i2.toInt ∧ i2.toInt < (fk 2).toInt ∧ i2.toInt < 2) ∧ (e0f.toInt = 0 ∨ ¬ e1f.toInt = i1.toInt ∨ ¬ e2f.toInt = i2.toInt)) := by omega
            have hcN : ¬ (i1.toInt = 1 ∧ 1 < (fk 0).toInt ∧ (0 ≤ i2.toInt ∧ i2.toInt < (fk 2).toInt ∧ i2.toInt < 2) ∧ (e0f.toInt = 0 ∨ ¬ e1f.toInt = i1.toInt ∨ ¬ e2f.toInt = i2.toInt)) := by omega
            have hNAm : zNA (i1.toInt = 0 ∧ 0 < (fk 0).toInt ∧ (0 ≤ i2.toInt ∧ i2.toInt < (fk 2).toInt ∧ i2.toInt < 2) ∧ (e0f.toInt = 0 ∨ ¬ e1f.toInt = i1.toInt ∨ ¬ e2f.toInt = i2.toInt)) mdA n4A (zPl cr0_ inn0_ k10_) = zMk mdA n4A (zPl cr0_ inn0_ k10_) := zNA_y hcF
            have hNAo : zNA (i1.toInt = 1 ∧ 1 < (fk 0).toInt ∧ (0 ≤ i2.toInt ∧ i2.toInt < (fk 2).toInt ∧ i2.toInt < 2) ∧ (e0f.toInt = 0 ∨ ¬ e1f.toInt = i1.toInt ∨ ¬ e2f.toInt = i2.toInt)) mdB n4B (zPl cr1_ inn1_ k11_) = n4B := zNA_n hcN
            have hn9 : zMk mdA n4A (zPl cr0_ inn0_ k10_) ≤ 131072 := zPw_le (zMk_pw hpwA)
            refine z_Vq (bc := [[zO10 xo t im mk rd po co tr wa wb_ fi cd], wwA, z0_]) (br := [z1_, wg0_, wg1_, wwB, [zO3 fi e0f e1f e2f e3f e4f e5f a1_22 a2_23], [zAr T 0 a1_22 m1f r1f], [zAr T 0 a2_23 7 r2f], wt]) (As := [.int i1, .ref l0]) (rest := [.ref fi]) C G (c_waysInA l T xo t im mk rd po co tr wa wb_ fi cd i1 laA mdA wyA pc_A f1A f2A f3A f4A f5A f6A n4A wwA l0 cr0_ inn0_ k10_ k20_ k30_ k40_ z0_ hwwA hz0_ hI0_ hpwA hmdA hwmA (by omega)) (kV_RX11_235 C.2.2.2.2 (Nat.le_of_ble_eq_true rfl) (Nat.le_of_ble_eq_true rfl)) [0, 5, 1] [0, 0, 3] rfl rfl (ci := 10) (qc := (RX11, TX11, 11)) rfl rfl (List.mem_flatten.mpr ⟨_, List.mem_of_getElem? (i := 0) rfl, List.mem_cons_self⟩) rfl rfl hl.1 dX11_fit_69 (Nat.le_of_ble_eq_true rfl) (by show _ + (6 * (zMk mdA n4A (zPl cr0_ inn0_ k10_) - n4A)) ≤ 6 * (zNA (i1.toInt = 0 ∧ 0 < (fk 0).toInt ∧ (0 ≤ i2.toInt ∧ i2.toInt < (fk 2).toInt ∧ i2.toInt < 2) ∧ (e0f.toInt = 0 ∨ ¬ e1f.toInt = i1.toInt ∨ ¬ e2f.toInt = i2.toInt)) mdA n4A (zPl cr0_ inn0_ k10_) - n4A) + 6 * (zNA (i1.toInt = 1 ∧ 1 < (fk 0).toInt ∧ (0 ≤ i2.toInt ∧ i2.toInt < (fk 2).toInt ∧ i2.toInt < 2) ∧ (e0f.toInt = 0 ∨ ¬ e1f.toInt = i1.toInt ∨ ¬ e2f.toInt = i2.toInt)) mdB n4B (zPl cr1_ inn1_ k11_) - n4B) + 2 * (zNF (i1.toInt = 1 ∧ 1 < (fk 0).toInt ∧ (0 ≤ i2.toInt ∧ i2.toInt < (fk 2).toInt ∧ i2.toInt < 2) ∧ (e0f.toInt = 0 ∨ ¬ e1f.toInt = i1.toInt ∨ ¬ e2f.toInt = i2.toInt)) (zNF (i1.toInt = 0 ∧ 0 < (fk 0).toInt ∧ (0 ≤ i2.toInt ∧ i2.toInt < (fk 2).toInt ∧ i2.toInt < 2) ∧ (e0f.toInt = 0 ∨ ¬ e1f.toInt = i1.toInt ∨ ¬ e2f.toInt = i2.toInt)) m1f (zMw mdA wyA cr0_ inn0_ k10_)) (zMw mdB wyB cr1_ inn1_ k11_) - m1f); omega) (fun r_96 b1 H locs hw G => ?_)
            refine zEx9 hw ?_
            intro w2_82 m2_83 wy2_84 pc2_85 g1_86 g2_87 g4_88 g5_89 g6_90
            refine zCu6 ?_
            intro hbs9 h_91 h_92 h_93 h_94 h_95
            clear hw
            subst hbs9
            have G : zS T A s.heap s [z1_, wg0_, wg1_, wwB, [zO3 fi e0f e1f e2f e3f e4f e5f a1_22 a2_23], [zAr T 0 a1_22 m1f r1f], [zAr T 0 a2_23 7 r2f], wt, [zO10 xo t im mk rd po co tr wa wb_ fi cd], w2_82, z0_] _ _ := G
            subst h_91
            have hwy9 := h_93
            have hNF : zNF (i1.toInt = 1 ∧ 1 < (fk 0).toInt ∧ (0 ≤ i2.toInt ∧ i2.toInt < (fk 2).toInt ∧ i2.toInt < 2) ∧ (e0f.toInt = 0 ∨ ¬ e1f.toInt = i1.toInt ∨ ¬ e2f.toInt = i2.toInt)) (zNF (i1.toInt = 0 ∧ 0 < (fk 0).toInt ∧ (0 ≤ i2.toInt ∧ i2.toInt < (fk 2).toInt ∧ i2.toInt < 2) ∧ (e0f.toInt = 0 ∨ ¬ e1f.toInt = i1.toInt ∨ ¬ e2f.toInt = i2.toInt)) m1f (zMw mdA wyA cr0_ inn0_ k10_)) (zMw mdB wyB cr1_ inn1_ k11_) = zFl m1f wy2_84 := by rw [zNF_n (c := (i1.toInt = 1 ∧ 1 < (fk 0).toInt ∧ (0 ≤ i2.toInt ∧ i2.toInt < (fk 2).toInt ∧ i2.toInt < 2) ∧ (e0f.toInt = 0 ∨ ¬ e1f.toInt = i1.toInt ∨ ¬ e2f.toInt = i2.toInt))) hcN, zNF_y hcF, h_94]
            have hfw9 := zFl_pw (wy := wy2_84) hfw
            refine lv_aload hx hb dX11_fit_72 (lv_at hl 0 rfl) ?_
            have hw_97 : bFit T fi e0f e1f e2f e3f e4f e5f r1f m1f r2f [zO3 fi e0f e1f e2f e3f e4f e5f a1_22 a2_23, zAr T 0 a1_22 m1f r1f, zAr T 0 a2_23 7 r2f] := ⟨a1_22, a2_23, rfl⟩
            have G : zS T A s.heap s [z1_, wg0_, wg1_, wwB, [zO3 fi e0f e1f e2f e3f e4f e5f a1_22 a2_23, zAr T 0 a1_22 m1f r1f, zAr T 0 a2_23 7 r2f], wt, [zO10 xo t im mk rd po co tr wa wb_ fi cd], w2_82, z0_] _ _ := G.re rfl
            refine z_Vv (bc := [[zO3 fi e0f e1f e2f e3f e4f e5f a1_22 a2_23, zAr T 0 a1_22 m1f r1f, zAr T 0 a2_23 7 r2f], w2_82, z0_, wg0_]) (br := [z1_, wg1_, wwB, wt, [zO10 xo t im mk rd po co tr wa wb_ fi cd]]) (As := [.ref wa, .ref g0]) (rest := []) C G (c_find l T fi e0f e1f e2f e3f e4f e5f r1f m1f r2f ([zO3 fi e0f e1f e2f e3f e4f e5f a1_22 a2_23, zAr T 0 a1_22 m1f r1f, zAr T 0 a2_23 7 r2f]) wa l0 m2_83 wy2_84 pc2_85 g1_86 g2_87 f3A g4_88 g5_89 g6_90 (zMk mdA n4A (zPl cr0_ inn0_ k10_)) w2_82 cr0_ inn0_ k10_ k20_ k30_ k40_ z0_ g0 gg0_ q10_ q20_ wg0_ hw_97 h_92 hz0_ hg0_ hn9 hfw hwy9) (kV_RX11_298 C.2.2.2.2 (Nat.le_of_ble_eq_true rfl) (Nat.le_of_ble_eq_true rfl)) [4, 7, 8, 1] [1, 2, 2, 0] rfl rfl (ci := 3) (qc := (RX3, TX3, 8)) rfl rfl (List.mem_flatten.mpr ⟨_, List.mem_of_getElem? (i := 0) rfl, (bFit_mem hw_97).choose_spec⟩) rfl rfl hl.1 dX11_fit_74 (Nat.le_of_ble_eq_true rfl) (by show _ + (2 * (zFl m1f wy2_84 - m1f)) ≤ 6 * (zNA (i1.toInt = 0 ∧ 0 < (fk 0).toInt ∧ (0 ≤ i2.toInt ∧ i2.toInt < (fk 2).toInt ∧ i2.toInt < 2) ∧ (e0f.toInt = 0 ∨ ¬ e1f.toInt = i1.toInt ∨ ¬ e2f.toInt = i2.toInt)) mdA n4A (zPl cr0_ inn0_ k10_) - n4A) + 6 * (zNA (i1.toInt = 1 ∧ 1 < (fk 0).toInt ∧ (0 ≤ i2.toInt ∧ i2.toInt < (fk 2).toInt ∧ i2.toInt < 2) ∧ (e0f.toInt = 0 ∨ ¬ e1f.toInt = i1.toInt ∨ ¬ e2f.toInt = i2.toInt)) mdB n4B (zPl cr1_ inn1_ k11_) - n4B) + 2 * (zNF (i1.toInt = 1 ∧ 1 < (fk 0).toInt ∧ (0 ≤ i2.toInt ∧ i2.toInt < (fk 2).toInt ∧ i2.toInt < 2) ∧ (e0f.toInt = 0 ∨ ¬ e1f.toInt = i1.toInt ∨ ¬ e2f.toInt = i2.toInt)) (zNF (i1.toInt = 0 ∧ 0 < (fk 0).toInt ∧ (0 ≤ i2.toInt ∧ i2.toInt < (fk 2).toInt ∧ i2.toInt < 2) ∧ (e0f.toInt = 0 ∨ ¬ e1f.toInt = i1.toInt ∨ ¬ e2f.toInt = i2.toInt)) m1f (zMw mdA wyA cr0_ inn0_ k10_)) (zMw mdB wyB cr1_ inn1_ k11_) - m1f); omega) (fun b1 H locs hw G => ?_)
            refine zEx5 hw ?_
            intro w2_98 s3_99 s4_100 s5_101 g1_102
            refine zCu3 ?_
            intro hbs9 h_103 h_104
            clear hw
            subst hbs9
            have G : zS T A s.heap s [z1_, wg1_, wwB, wt, [zO10 xo t im mk rd po co tr wa wb_ fi cd], w2_98, w2_82, z0_, wg0_] _ _ := G
            have h39 := h_104
            refine lv_aload_n hx hb dX11_fit_77 rfl (lv_at hl 2 rfl) ?_
            refine z_get C G clX11 4 rfl 9 (by decide) m_fl_RX11_65 rfl dX11_fit_78 ?_
            refine lv_iload_n hx hb dX11_fit_81 rfl (lv_at hl 3 rfl) ?_
            refine zEx2 h_103 ?_
            intro a1_106 a2_107 hbs9
            clear h_103
            subst hbs9
            have G : zS T A s.heap s [z1_, wg1_, wwB, wt, [zO10 xo t im mk rd po co tr wa wb_ fi cd], [zO3 fi e0f e1f e2f s3_99 s4_100 s5_101 a1_106 a2_107], [zAr T 0 a1_106 (zFl m1f wy2_84) g1_102], [zAr T 0 a2_107 7 r2f], w2_82, z0_, wg0_] _ _ := G.re rfl
            refine z_put C G clX3 5 rfl 1 (by decide) m_fl_RX11_292 rfl rfl rfl (Nat.le_of_ble_eq_true rfl) dX11_fit_82 (fun H locs G => ?_)
            have G : zS T A s.heap s [z1_, wg1_, wwB, wt, [zO10 xo t im mk rd po co tr wa wb_ fi cd], [zO3 fi e0f i1 e2f s3_99 s4_100 s5_101 a1_106 a2_107], [zAr T 0 a1_106 (zFl m1f wy2_84) g1_102], [zAr T 0 a2_107 7 r2f], w2_82, z0_, wg0_] _ _ := G
            refine lv_aload_n hx hb dX11_fit_85 rfl (lv_at hl 2 rfl) ?_
            refine z_get C G clX11 4 rfl 9 (by decide) m_fl_RX11_65 rfl dX11_fit_86 ?_
            refine lv_iload_n hx hb dX11_fit_89 rfl (lv_at hl 4 rfl) ?_
            refine z_put C G clX3 5 rfl 2 (by decide) m_fl_RX11_295 rfl rfl rfl (Nat.le_of_ble_eq_true rfl) dX11_fit_90 (fun H locs G => ?_)
            have G : zS T A s.heap s [z1_, wg1_, wwB, wt, [zO10 xo t im mk rd po co tr wa wb_ fi cd], [zO3 fi e0f i1 i2 s3_99 s4_100 s5_101 a1_106 a2_107], [zAr T 0 a1_106 (zFl m1f wy2_84) g1_102], [zAr T 0 a2_107 7 r2f], w2_82, z0_, wg0_] _ _ := G
            refine lv_aload_n hx hb dX11_fit_93 rfl (lv_at hl 2 rfl) ?_
            refine z_get C G clX11 4 rfl 9 (by decide) m_fl_RX11_65 rfl dX11_fit_94 ?_
            refine lv_iconst (v := 1) hx hb dX11_fit_97 (by decide) ?_
            refine z_put C G clX3 5 rfl 0 (by decide) m_fl_RX11_109 rfl rfl rfl (Nat.le_of_ble_eq_true rfl) dX11_fit_98 (fun H locs G => ?_)
            have G : zS T A s.heap s [z1_, wg1_, wwB, wt, [zO10 xo t im mk rd po co tr wa wb_ fi cd], [zO3 fi 1 i1 i2 s3_99 s4_100 s5_101 a1_106 a2_107], [zAr T 0 a1_106 (zFl m1f wy2_84) g1_102], [zAr T 0 a2_107 7 r2f], w2_82, z0_, wg0_] _ _ := G
            refine lv_iconst (v := 1) hx hb dX11_fit_101 (by decide) ?_
            have hw_108 : bFit T fi 1 i1 i2 s3_99 s4_100 s5_101 g1_102 (zFl m1f wy2_84) r2f [zO3 fi 1 i1 i2 s3_99 s4_100 s5_101 a1_106 a2_107, zAr T 0 a1_106 (zFl m1f wy2_84) g1_102, zAr T 0 a2_107 7 r2f] := ⟨a1_106, a2_107, rfl⟩
            have G : zS T A s.heap s [z1_, wg1_, wwB, wt, [zO10 xo t im mk rd po co tr wa wb_ fi cd], [zO3 fi 1 i1 i2 s3_99 s4_100 s5_101 a1_106 a2_107, zAr T 0 a1_106 (zFl m1f wy2_84) g1_102, zAr T 0 a2_107 7 r2f], w2_82, z0_, wg0_] _ _ := G.re rfl
            have G := G.sub (bs' := [[zO10 xo t im mk rd po co tr wa wb_ fi cd], wt, z0_, z1_, wg0_, wg1_, w2_82, wwB, [zO3 fi 1 i1 i2 s3_99 s4_100 s5_101 a1_106 a2_107, zAr T 0 a1_106 (zFl m1f wy2_84) g1_102, zAr T 0 a2_107 7 r2f]]) [4, 3, 7, 0, 8, 1, 6, 2, 5] rfl
            exact z_back hQz_ (z_zret C hr hlocks G (Nat.le_of_ble_eq_true rfl) (by omega) dX11_fit_102 rfl ⟨l0, m2_83, wy2_84, pc2_85, g1_86, g2_87, f3A, g4_88, g5_89, g6_90, (zMk mdA n4A (zPl cr0_ inn0_ k10_)), w2_82, laB, mdB, wyB, pc_B, f1B, f2B, f3B, f4B, f5B, f6B, n4B, wwB, 1, i1, i2, s3_99, s4_100, s5_101, g1_102, (zFl m1f wy2_84), r2f, ([zO3 fi 1 i1 i2 s3_99 s4_100 s5_101 a1_106 a2_107, zAr T 0 a1_106 (zFl m1f wy2_84) g1_102, zAr T 0 a2_107 7 r2f]), rfl, h_92, (Or.inr rfl), hwy9, hNAm.symm, (zMk_pw hpwA), (fun _ => h_95), hwwB, hmdB, hwmB, (zNA_n (by omega)).symm, hpwB, (fun q => q), hw_108, hNF.symm, hfw9, h39, (Or.inr ⟨rfl, by omega, by decide, rfl⟩), (fun _ => Or.inl ⟨by omega, h_95⟩)⟩)
    · have h_20 : i2.toInt = 1 := h_20
      have h_21 : 1 < (fk 2).toInt := h_21
      refine lv_astore (lv' := [(4, .ref g1), (3, .ref l0), (0, .ref xo), (1, .int i1), (2, .int i2)]) hx hb dX11_fit_17 hl (by decide) (zLvf_h rfl) (fun ls hl => ?_)
      refine lv_aload_n hx hb dX11_fit_19 rfl (lv_at hl 1 rfl) ?_
      refine lv_ifnull hx hb dX11_fit_20 ?_
      refine lv_aload hx hb dX11_fit_23 (lv_at hl 0 rfl) ?_
      refine lv_ifnonnull (tgt := 30) hx hb dX11_fit_25 (by decide) ?_
      refine lv_aload_n hx hb dX11_fit_30 rfl (lv_at hl 2 rfl) ?_
      refine z_get C G clX11 0 rfl 9 (by decide) m_fl_RX11_65 rfl dX11_fit_31 ?_
      refine zEx2 hwff ?_
      intro a1_109 a2_110 hbs9
      clear hwff
      subst hbs9
      have G : zS T A s.heap s [[zO10 xo t im mk rd po co tr wa wb_ fi cd], z0_, z1_, wg0_, wg1_, wwA, wwB, [zO3 fi e0f e1f e2f e3f e4f e5f a1_109 a2_110], [zAr T 0 a1_109 m1f r1f], [zAr T 0 a2_110 7 r2f], wt] _ _ := G.re rfl
      refine z_get C G clX3 7 rfl 0 (by decide) m_fl_RX11_109 rfl dX11_fit_34 ?_
      refine lv_if_eq (tgt := 62) hx hb dX11_fit_37 (by decide) (fun c_111 => ?_) (fun c_111 => ?_)
      · have c_111n : e0f.toInt = (0 : Int) := (fa_eq _ _).mp c_111
        refine lv_aload_n hx hb dX11_fit_62 rfl (lv_at hl 2 rfl) ?_
        refine z_get C G clX11 0 rfl 9 (by decide) m_fl_RX11_65 rfl dX11_fit_63 ?_
        refine lv_aload_n hx hb dX11_fit_66 rfl (lv_at hl 2 rfl) ?_
        refine lv_iload_n hx hb dX11_fit_67 rfl (lv_at hl 3 rfl) ?_
        refine lv_aload_n hx hb dX11_fit_68 rfl (lv_at hl 1 rfl) ?_
        have hcF : (i1.toInt = 0 ∧ 0 < (fk 0).toInt ∧ (0 ≤ i2.toInt ∧ i2.toInt < (fk 2).toInt ∧ i2.toInt < 2) ∧ (e0f.toInt = 0 ∨ ¬ e1f.toInt = i1.toInt ∨ ¬ e2f.toInt = i2.toInt)) := by omega
        have hcN : ¬ (i1.toInt = 1 ∧ 1 < (fk 0).toInt ∧ (0 ≤ i2.toInt ∧ i2.toInt < (fk 2).toInt ∧ i2.toInt < 2) ∧ (e0f.toInt = 0 ∨ ¬ e1f.toInt = i1.toInt ∨ ¬ e2f.toInt = i2.toInt)) := by omega
        have hNAm : zNA (i1.toInt = 0 ∧ 0 < (fk 0).toInt ∧ (0 ≤ i2.toInt ∧ i2.toInt < (fk 2).toInt ∧ i2.toInt < 2) ∧ (e0f.toInt = 0 ∨ ¬ e1f.toInt = i1.toInt ∨ ¬ e2f.toInt = i2.toInt)) mdA n4A (zPl cr0_ inn0_ k10_) = zMk mdA n4A (zPl cr0_ inn0_ k10_) := zNA_y hcF
        have hNAo : zNA (i1.toInt = 1 ∧ 1 < (fk 0).toInt ∧ (0 ≤ i2.toInt ∧ i2.toInt < (fk 2).toInt ∧ i2.toInt < 2) ∧ (e0f.toInt = 0 ∨ ¬ e1f.toInt = i1.toInt ∨ ¬ e2f.toInt = i2.toInt)) mdB n4B (zPl cr1_ inn1_ k11_) = n4B := zNA_n hcN
        have hn9 : zMk mdA n4A (zPl cr0_ inn0_ k10_) ≤ 131072 := zPw_le (zMk_pw hpwA)
        refine z_Vq (bc := [[zO10 xo t im mk rd po co tr wa wb_ fi cd], wwA, z0_]) (br := [z1_, wg0_, wg1_, wwB, [zO3 fi e0f e1f e2f e3f e4f e5f a1_109 a2_110], [zAr T 0 a1_109 m1f r1f], [zAr T 0 a2_110 7 r2f], wt]) (As := [.int i1, .ref l0]) (rest := [.ref fi]) C G (c_waysInA l T xo t im mk rd po co tr wa wb_ fi cd i1 laA mdA wyA pc_A f1A f2A f3A f4A f5A f6A n4A wwA l0 cr0_ inn0_ k10_ k20_ k30_ k40_ z0_ hwwA hz0_ hI0_ hpwA hmdA hwmA (by omega)) (kV_RX11_235 C.2.2.2.2 (Nat.le_of_ble_eq_true rfl) (Nat.le_of_ble_eq_true rfl)) [0, 5, 1] [0, 0, 3] rfl rfl (ci := 10) (qc := (RX11, TX11, 11)) rfl rfl (List.mem_flatten.mpr ⟨_, List.mem_of_getElem? (i := 0) rfl, List.mem_cons_self⟩) rfl rfl hl.1 dX11_fit_69 (Nat.le_of_ble_eq_true rfl) (by show _ + (6 * (zMk mdA n4A (zPl cr0_ inn0_ k10_) - n4A)) ≤ 6 * (zNA (i1.toInt = 0 ∧ 0 < (fk 0).toInt ∧ (0 ≤ i2.toInt ∧ i2.toInt < (fk 2).toInt ∧ i2.toInt < 2) ∧ (e0f.toInt = 0 ∨ ¬ e1f.toInt = i1.toInt ∨ ¬ e2f.toInt = i2.toInt)) mdA n4A (zPl cr0_ inn0_ k10_) - n4A) + 6 * (zNA (i1.toInt = 1 ∧ 1 < (fk 0).toInt ∧ (0 ≤ i2.toInt ∧ i2.toInt < (fk 2).toInt ∧ i2.toInt < 2) ∧ (e0f.toInt = 0 ∨ ¬ e1f.toInt = i1.toInt ∨ ¬ e2f.toInt = i2.toInt)) mdB n4B (zPl cr1_ inn1_ k11_) - n4B) + 2 * (zNF (i1.toInt = 1 ∧ 1 < (fk 0).toInt ∧ (0 ≤ i2.toInt ∧ i2.toInt < (fk 2).toInt ∧ i2.toInt < 2) ∧ (e0f.toInt = 0 ∨ ¬ e1f.toInt = i1.toInt ∨ ¬ e2f.toInt = i2.toInt)) (zNF (i1.toInt = 0 ∧ 0 < (fk 0).toInt ∧ (0 ≤ i2.toInt ∧ i2.toInt < (fk 2).toInt ∧ i2.toInt < 2) ∧ (e0f.toInt = 0 ∨ ¬ e1f.toInt = i1.toInt ∨ ¬ e2f.toInt = i2.toInt)) m1f (zMw mdA wyA cr0_ inn0_ k10_)) (zMw mdB wyB cr1_ inn1_ k11_) - m1f); omega) (fun r_126 b1 H locs hw G => ?_)
        refine zEx9 hw ?_
        intro w2_112 m2_113 wy2_114 pc2_115 g1_116 g2_117 g4_118 g5_119 g6_120
        refine zCu6 ?_
        intro hbs9 h_121 h_122 h_123 h_124 h_125
        clear hw
        subst hbs9
        have G : zS T A s.heap s [z1_, wg0_, wg1_, wwB, [zO3 fi e0f e1f e2f e3f e4f e5f a1_109 a2_110], [zAr T 0 a1_109 m1f r1f], [zAr T 0 a2_110 7 r2f], wt, [zO10 xo t im mk rd po co tr wa wb_ fi cd], w2_112, z0_] _ _ := G
        subst h_121
        have hwy9 := h_123
        have hNF : zNF (i1.toInt = 1 ∧ 1 < (fk 0).toInt ∧ (0 ≤ i2.toInt ∧ i2.toInt < (fk 2).toInt ∧ i2.toInt < 2) ∧ (e0f.toInt = 0 ∨ ¬ e1f.toInt = i1.toInt ∨ ¬ e2f.toInt = i2.toInt)) (zNF (i1.toInt = 0 ∧ 0 < (fk 0).toInt ∧ (0 ≤ i2.toInt ∧ i2.toInt < (fk 2).toInt ∧ i2.toInt < 2) ∧ (e0f.toInt = 0 ∨ ¬ e1f.toInt = i1.toInt ∨ ¬ e2f.toInt = i2.toInt)) m1f (zMw mdA wyA cr0_ inn0_ k10_)) (zMw mdB wyB cr1_ inn1_ k11_) = zFl m1f wy2_114 := by rw [zNF_n (c := (i1.toInt = 1 ∧ 1 < (fk 0).toInt ∧ (0 ≤ i2.toInt ∧ i2.toInt < (fk 2).toInt ∧ i2.toInt < 2) ∧ (e0f.toInt = 0 ∨ ¬ e1f.toInt = i1.toInt ∨ ¬ e2f.toInt = i2.toInt))) hcN, zNF_y hcF, h_124]
        have hfw9 := zFl_pw (wy := wy2_114) hfw
        refine lv_aload hx hb dX11_fit_72 (lv_at hl 0 rfl) ?_
        have hw_127 : bFit T fi e0f e1f e2f e3f e4f e5f r1f m1f r2f [zO3 fi e0f e1f e2f e3f e4f e5f a1_109 a2_110, zAr T 0 a1_109 m1f r1f, zAr T 0 a2_110 7 r2f] := ⟨a1_109, a2_110, rfl⟩
        have G : zS T A s.heap s [z1_, wg0_, wg1_, wwB, [zO3 fi e0f e1f e2f e3f e4f e5f a1_109 a2_110, zAr T 0 a1_109 m1f r1f, zAr T 0 a2_110 7 r2f], wt, [zO10 xo t im mk rd po co tr wa wb_ fi cd], w2_112, z0_] _ _ := G.re rfl
        refine z_Vv (bc := [[zO3 fi e0f e1f e2f e3f e4f e5f a1_109 a2_110, zAr T 0 a1_109 m1f r1f, zAr T 0 a2_110 7 r2f], w2_112, z0_, wg1_]) (br := [z1_, wg0_, wwB, wt, [zO10 xo t im mk rd po co tr wa wb_ fi cd]]) (As := [.ref wa, .ref g1]) (rest := []) C G (c_find l T fi e0f e1f e2f e3f e4f e5f r1f m1f r2f ([zO3 fi e0f e1f e2f e3f e4f e5f a1_109 a2_110, zAr T 0 a1_109 m1f r1f, zAr T 0 a2_110 7 r2f]) wa l0 m2_113 wy2_114 pc2_115 g1_116 g2_117 f3A g4_118 g5_119 g6_120 (zMk mdA n4A (zPl cr0_ inn0_ k10_)) w2_112 cr0_ inn0_ k10_ k20_ k30_ k40_ z0_ g1 gg1_ q11_ q21_ wg1_ hw_127 h_122 hz0_ hg1_ hn9 hfw hwy9) (kV_RX11_298 C.2.2.2.2 (Nat.le_of_ble_eq_true rfl) (Nat.le_of_ble_eq_true rfl)) [4, 7, 8, 2] [2, 1, 2, 0] rfl rfl (ci := 3) (qc := (RX3, TX3, 8)) rfl rfl (List.mem_flatten.mpr ⟨_, List.mem_of_getElem? (i := 0) rfl, (bFit_mem hw_127).choose_spec⟩) rfl rfl hl.1 dX11_fit_74 (Nat.le_of_ble_eq_true rfl) (by show _ + (2 * (zFl m1f wy2_114 - m1f)) ≤ 6 * (zNA (i1.toInt = 0 ∧ 0 < (fk 0).toInt ∧ (0 ≤ i2.toInt ∧ i2.toInt < (fk 2).toInt ∧ i2.toInt < 2) ∧ (e0f.toInt = 0 ∨ ¬ e1f.toInt = i1.toInt ∨ ¬ e2f.toInt = i2.toInt)) mdA n4A (zPl cr0_ inn0_ k10_) - n4A) + 6 * (zNA (i1.toInt = 1 ∧ 1 < (fk 0).toInt ∧ (0 ≤ i2.toInt ∧ i2.toInt < (fk 2).toInt ∧ i2.toInt < 2) ∧ (e0f.toInt = 0 ∨ ¬ e1f.toInt = i1.toInt ∨ ¬ e2f.toInt = i2.toInt)) mdB n4B (zPl cr1_ inn1_ k11_) - n4B) + 2 * (zNF (i1.toInt = 1 ∧ 1 < (fk 0).toInt ∧ (0 ≤ i2.toInt ∧ i2.toInt < (fk 2).toInt ∧ i2.toInt < 2) ∧ (e0f.toInt = 0 ∨ ¬ e1f.toInt = i1.toInt ∨ ¬ e2f.toInt = i2.toInt)) (zNF (i1.toInt = 0 ∧ 0 < (fk 0).toInt ∧ (0 ≤ i2.toInt ∧ i2.toInt < (fk 2).toInt ∧ i2.toInt < 2) ∧ (e0f.toInt = 0 ∨ ¬ e1f.toInt = i1.toInt ∨ ¬ e2f.toInt = i2.toInt)) m1f (zMw mdA wyA cr0_ inn0_ k10_)) (zMw mdB wyB cr1_ inn1_ k11_) - m1f); omega) (fun b1 H locs hw G => ?_)
        refine zEx5 hw ?_
        intro w2_128 s3_129 s4_130 s5_131 g1_132
        refine zCu3 ?_
        intro hbs9 h_133 h_134
        clear hw
        subst hbs9
        have G : zS T A s.heap s [z1_, wg0_, wwB, wt, [zO10 xo t im mk rd po co tr wa wb_ fi cd], w2_128, w2_112, z0_, wg1_] _ _ := G
        have h39 := h_134
        refine lv_aload_n hx hb dX11_fit_77 rfl (lv_at hl 2 rfl) ?_
        refine z_get C G clX11 4 rfl 9 (by decide) m_fl_RX11_65 rfl dX11_fit_78 ?_
        refine lv_iload_n hx hb dX11_fit_81 rfl (lv_at hl 3 rfl) ?_
        refine zEx2 h_133 ?_
        intro a1_136 a2_137 hbs9
        clear h_133
        subst hbs9
        have G : zS T A s.heap s [z1_, wg0_, wwB, wt, [zO10 xo t im mk rd po co tr wa wb_ fi cd], [zO3 fi e0f e1f e2f s3_129 s4_130 s5_131 a1_136 a2_137], [zAr T 0 a1_136 (zFl m1f wy2_114) g1_132], [zAr T 0 a2_137 7 r2f], w2_112, z0_, wg1_] _ _ := G.re rfl
        refine z_put C G clX3 5 rfl 1 (by decide) m_fl_RX11_292 rfl rfl rfl (Nat.le_of_ble_eq_true rfl) dX11_fit_82 (fun H locs G => ?_)
        have G : zS T A s.heap s [z1_, wg0_, wwB, wt, [zO10 xo t im mk rd po co tr wa wb_ fi cd], [zO3 fi e0f i1 e2f s3_129 s4_130 s5_131 a1_136 a2_137], [zAr T 0 a1_136 (zFl m1f wy2_114) g1_132], [zAr T 0 a2_137 7 r2f], w2_112, z0_, wg1_] _ _ := G
        refine lv_aload_n hx hb dX11_fit_85 rfl (lv_at hl 2 rfl) ?_
        refine z_get C G clX11 4 rfl 9 (by decide) m_fl_RX11_65 rfl dX11_fit_86 ?_
        refine lv_iload_n hx hb dX11_fit_89 rfl (lv_at hl 4 rfl) ?_
        refine z_put C G clX3 5 rfl 2 (by decide) m_fl_RX11_295 rfl rfl rfl (Nat.le_of_ble_eq_true rfl) dX11_fit_90 (fun H locs G => ?_)
        have G : zS T A s.heap s [z1_, wg0_, wwB, wt, [zO10 xo t im mk rd po co tr wa wb_ fi cd], [zO3 fi e0f i1 i2 s3_129 s4_130 s5_131 a1_136 a2_137], [zAr T 0 a1_136 (zFl m1f wy2_114) g1_132], [zAr T 0 a2_137 7 r2f], w2_112, z0_, wg1_] _ _ := G
        refine lv_aload_n hx hb dX11_fit_93 rfl (lv_at hl 2 rfl) ?_
        refine z_get C G clX11 4 rfl 9 (by decide) m_fl_RX11_65 rfl dX11_fit_94 ?_
        refine lv_iconst (v := 1) hx hb dX11_fit_97 (by decide) ?_
        refine z_put C G clX3 5 rfl 0 (by decide) m_fl_RX11_109 rfl rfl rfl (Nat.le_of_ble_eq_true rfl) dX11_fit_98 (fun H locs G => ?_)
        have G : zS T A s.heap s [z1_, wg0_, wwB, wt, [zO10 xo t im mk rd po co tr wa wb_ fi cd], [zO3 fi 1 i1 i2 s3_129 s4_130 s5_131 a1_136 a2_137], [zAr T 0 a1_136 (zFl m1f wy2_114) g1_132], [zAr T 0 a2_137 7 r2f], w2_112, z0_, wg1_] _ _ := G
        refine lv_iconst (v := 1) hx hb dX11_fit_101 (by decide) ?_
        have hw_138 : bFit T fi 1 i1 i2 s3_129 s4_130 s5_131 g1_132 (zFl m1f wy2_114) r2f [zO3 fi 1 i1 i2 s3_129 s4_130 s5_131 a1_136 a2_137, zAr T 0 a1_136 (zFl m1f wy2_114) g1_132, zAr T 0 a2_137 7 r2f] := ⟨a1_136, a2_137, rfl⟩
        have G : zS T A s.heap s [z1_, wg0_, wwB, wt, [zO10 xo t im mk rd po co tr wa wb_ fi cd], [zO3 fi 1 i1 i2 s3_129 s4_130 s5_131 a1_136 a2_137, zAr T 0 a1_136 (zFl m1f wy2_114) g1_132, zAr T 0 a2_137 7 r2f], w2_112, z0_, wg1_] _ _ := G.re rfl
        have G := G.sub (bs' := [[zO10 xo t im mk rd po co tr wa wb_ fi cd], wt, z0_, z1_, wg0_, wg1_, w2_112, wwB, [zO3 fi 1 i1 i2 s3_129 s4_130 s5_131 a1_136 a2_137, zAr T 0 a1_136 (zFl m1f wy2_114) g1_132, zAr T 0 a2_137 7 r2f]]) [4, 3, 7, 0, 1, 8, 6, 2, 5] rfl
        exact z_back hQz_ (z_zret C hr hlocks G (Nat.le_of_ble_eq_true rfl) (by omega) dX11_fit_102 rfl ⟨l0, m2_113, wy2_114, pc2_115, g1_116, g2_117, f3A, g4_118, g5_119, g6_120, (zMk mdA n4A (zPl cr0_ inn0_ k10_)), w2_112, laB, mdB, wyB, pc_B, f1B, f2B, f3B, f4B, f5B, f6B, n4B, wwB, 1, i1, i2, s3_129, s4_130, s5_131, g1_132, (zFl m1f wy2_114), r2f, ([zO3 fi 1 i1 i2 s3_129 s4_130 s5_131 a1_136 a2_137, zAr T 0 a1_136 (zFl m1f wy2_114) g1_132, zAr T 0 a2_137 7 r2f]), rfl, h_122, (Or.inr rfl), hwy9, hNAm.symm, (zMk_pw hpwA), (fun _ => h_125), hwwB, hmdB, hwmB, (zNA_n (by omega)).symm, hpwB, (fun q => q), hw_138, hNF.symm, hfw9, h39, (Or.inr ⟨rfl, by omega, by decide, rfl⟩), (fun _ => Or.inl ⟨by omega, h_125⟩)⟩)
      · have c_111n : ¬ e0f.toInt = (0 : Int) := fun q => c_111 ((fa_eq _ _).mpr q)
        refine lv_aload_n hx hb dX11_fit_40 rfl (lv_at hl 2 rfl) ?_
        refine z_get C G clX11 0 rfl 9 (by decide) m_fl_RX11_65 rfl dX11_fit_41 ?_
        refine z_get C G clX3 7 rfl 1 (by decide) m_fl_RX11_292 rfl dX11_fit_44 ?_
        refine lv_iload_n hx hb dX11_fit_47 rfl (lv_at hl 3 rfl) ?_
        refine lv_icmp_ne (tgt := 62) hx hb dX11_fit_48 (by decide) (fun c_139 => ?_) (fun c_139 => ?_)
        · have c_139n : ¬ e1f.toInt = i1.toInt := fun q => c_139 ((fa_eq _ _).mpr q)
          refine lv_aload_n hx hb dX11_fit_62 rfl (lv_at hl 2 rfl) ?_
          refine z_get C G clX11 0 rfl 9 (by decide) m_fl_RX11_65 rfl dX11_fit_63 ?_
          refine lv_aload_n hx hb dX11_fit_66 rfl (lv_at hl 2 rfl) ?_
          refine lv_iload_n hx hb dX11_fit_67 rfl (lv_at hl 3 rfl) ?_
          refine lv_aload_n hx hb dX11_fit_68 rfl (lv_at hl 1 rfl) ?_
          have hcF : (i1.toInt = 0 ∧ 0 < (fk 0).toInt ∧ (0 ≤ i2.toInt ∧ i2.toInt < (fk 2).toInt ∧ i2.toInt < 2) ∧ (e0f.toInt = 0 ∨ ¬ e1f.toInt = i1.toInt ∨ ¬ e2f.toInt = i2.toInt)) := by omega
          have hcN : ¬ (i1.toInt = 1 ∧ 1 < (fk 0).toInt ∧ (0 ≤ i2.toInt ∧ i2.toInt < (fk 2).toInt ∧ i2.toInt < 2) ∧ (e0f.toInt = 0 ∨ ¬ e1f.toInt = i1.toInt ∨ ¬ e2f.toInt = i2.toInt)) := by omega
          have hNAm : zNA (i1.toInt = 0 ∧ 0 < (fk 0).toInt ∧ (0 ≤ i2.toInt ∧ i2.toInt < (fk 2).toInt ∧ i2.toInt < 2) ∧ (e0f.toInt = 0 ∨ ¬ e1f.toInt = i1.toInt ∨ ¬ e2f.toInt = i2.toInt)) mdA n4A (zPl cr0_ inn0_ k10_) = zMk mdA n4A (zPl cr0_ inn0_ k10_) := zNA_y hcF
          have hNAo : zNA (i1.toInt = 1 ∧ 1 < (fk 0).toInt ∧ (0 ≤ i2.toInt ∧ i2.toInt < (fk 2).toInt ∧ i2.toInt < 2) ∧ (e0f.toInt = 0 ∨ ¬ e1f.toInt = i1.toInt ∨ ¬ e2f.toInt = i2.toInt)) mdB n4B (zPl cr1_ inn1_ k11_) = n4B := zNA_n hcN
          have hn9 : zMk mdA n4A (zPl cr0_ inn0_ k10_) ≤ 131072 := zPw_le (zMk_pw hpwA)
          refine z_Vq (bc := [[zO10 xo t im mk rd po co tr wa wb_ fi cd], wwA, z0_]) (br := [z1_, wg0_, wg1_, wwB, [zO3 fi e0f e1f e2f e3f e4f e5f a1_109 a2_110], [zAr T 0 a1_109 m1f r1f], [zAr T 0 a2_110 7 r2f], wt]) (As := [.int i1, .ref l0]) (rest := [.ref fi]) C G (c_waysInA l T xo t im mk rd po co tr wa wb_ fi cd i1 laA mdA wyA pc_A f1A f2A f3A f4A f5A f6A n4A wwA l0 cr0_ inn0_ k10_ k20_ k30_ k40_ z0_ hwwA hz0_ hI0_ hpwA hmdA hwmA (by omega)) (kV_RX11_235 C.2.2.2.2 (Nat.le_of_ble_eq_true rfl) (Nat.le_of_ble_eq_true rfl)) [0, 5, 1] [0, 0, 3] rfl rfl (ci := 10) (qc := (RX11, TX11, 11)) rfl rfl (List.mem_flatten.mpr ⟨_, List.mem_of_getElem? (i := 0) rfl, List.mem_cons_self⟩) rfl rfl hl.1 dX11_fit_69 (Nat.le_of_ble_eq_true rfl) (by show _ + (6 * (zMk mdA n4A (zPl cr0_ inn0_ k10_) - n4A)) ≤ 6 * (zNA (i1.toInt = 0 ∧ 0 < (fk 0).toInt ∧ (0 ≤ i2.toInt ∧ i2.toInt < (fk 2).toInt ∧ i2.toInt < 2) ∧ (e0f.toInt = 0 ∨ ¬ e1f.toInt = i1.toInt ∨ ¬ e2f.toInt = i2.toInt)) mdA n4A (zPl cr0_ inn0_ k10_) - n4A) + 6 * (zNA (i1.toInt = 1 ∧ 1 < (fk 0).toInt ∧ (0 ≤ i2.toInt ∧ i2.toInt < (fk 2).toInt ∧ i2.toInt < 2) ∧ (e0f.toInt = 0 ∨ ¬ e1f.toInt = i1.toInt ∨ ¬ e2f.toInt = i2.toInt)) mdB n4B (zPl cr1_ inn1_ k11_) - n4B) + 2 * (zNF (i1.toInt = 1 ∧ 1 < (fk 0).toInt ∧ (0 ≤ i2.toInt ∧ i2.toInt < (fk 2).toInt ∧ i2.toInt < 2) ∧ (e0f.toInt = 0 ∨ ¬ e1f.toInt = i1.toInt ∨ ¬ e2f.toInt = i2.toInt)) (zNF (i1.toInt = 0 ∧ 0 < (fk 0).toInt ∧ (0 ≤ i2.toInt ∧ i2.toInt < (fk 2).toInt ∧ i2.toInt < 2) ∧ (e0f.toInt = 0 ∨ ¬ e1f.toInt = i1.toInt ∨ ¬ e2f.toInt = i2.toInt)) m1f (zMw mdA wyA cr0_ inn0_ k10_)) (zMw mdB wyB cr1_ inn1_ k11_) - m1f); omega) (fun r_154 b1 H locs hw G => ?_)
          refine zEx9 hw ?_
          intro w2_140 m2_141 wy2_142 pc2_143 g1_144 g2_145 g4_146 g5_147 g6_148
          refine zCu6 ?_
          intro hbs9 h_149 h_150 h_151 h_152 h_153
          clear hw
          subst hbs9
          have G : zS T A s.heap s [z1_, wg0_, wg1_, wwB, [zO3 fi e0f e1f e2f e3f e4f e5f a1_109 a2_110], [zAr T 0 a1_109 m1f r1f], [zAr T 0 a2_110 7 r2f], wt, [zO10 xo t im mk rd po co tr wa wb_ fi cd], w2_140, z0_] _ _ := G
          subst h_149
          have hwy9 := h_151
          have hNF : zNF (i1.toInt = 1 ∧ 1 < (fk 0).toInt ∧ (0 ≤ i2.toInt ∧ i2.toInt < (fk 2).toInt ∧ i2.toInt < 2) ∧ (e0f.toInt = 0 ∨ ¬ e1f.toInt = i1.toInt ∨ ¬ e2f.toInt = i2.toInt)) (zNF (i1.toInt = 0 ∧ 0 < (fk 0).toInt ∧ (0 ≤ i2.toInt ∧ i2.toInt < (fk 2).toInt ∧ i2.toInt < 2) ∧ (e0f.toInt = 0 ∨ ¬ e1f.toInt = i1.toInt ∨ ¬ e2f.toInt = i2.toInt)) m1f (zMw mdA wyA cr0_ inn0_ k10_)) (zMw mdB wyB cr1_ inn1_ k11_) = zFl m1f wy2_142 := by rw [zNF_n (c := (i1.toInt = 1 ∧ 1 < (fk 0).toInt ∧ (0 ≤ i2.toInt ∧ i2.toInt < (fk 2).toInt ∧ i2.toInt < 2) ∧ (e0f.toInt = 0 ∨ ¬ e1f.toInt = i1.toInt ∨ ¬ e2f.toInt = i2.toInt))) hcN, zNF_y hcF, h_152]
          have hfw9 := zFl_pw (wy := wy2_142) hfw
          refine lv_aload hx hb dX11_fit_72 (lv_at hl 0 rfl) ?_
          have hw_155 : bFit T fi e0f e1f e2f e3f e4f e5f r1f m1f r2f [zO3 fi e0f e1f e2f e3f e4f e5f a1_109 a2_110, zAr T 0 a1_109 m1f r1f, zAr T 0 a2_110 7 r2f] := ⟨a1_109, a2_110, rfl⟩
          have G : zS T A s.heap s [z1_, wg0_, wg1_, wwB, [zO3 fi e0f e1f e2f e3f e4f e5f a1_109 a2_110, zAr T 0 a1_109 m1f r1f, zAr T 0 a2_110 7 r2f], wt, [zO10 xo t im mk rd po co tr wa wb_ fi cd], w2_140, z0_] _ _ := G.re rfl
          refine z_Vv (bc := [[zO3 fi e0f e1f e2f e3f e4f e5f a1_109 a2_110, zAr T 0 a1_109 m1f r1f, zAr T 0 a2_110 7 r2f], w2_140, z0_, wg1_]) (br := [z1_, wg0_, wwB, wt, [zO10 xo t im mk rd po co tr wa wb_ fi cd]]) (As := [.ref wa, .ref g1]) (rest := []) C G (c_find l T fi e0f e1f e2f e3f e4f e5f r1f m1f r2f ([zO3 fi e0f e1f e2f e3f e4f e5f a1_109 a2_110, zAr T 0 a1_109 m1f r1f, zAr T 0 a2_110 7 r2f]) wa l0 m2_141 wy2_142 pc2_143 g1_144 g2_145 f3A g4_146 g5_147 g6_148 (zMk mdA n4A (zPl cr0_ inn0_ k10_)) w2_140 cr0_ inn0_ k10_ k20_ k30_ k40_ z0_ g1 gg1_ q11_ q21_ wg1_ hw_155 h_150 hz0_ hg1_ hn9 hfw hwy9) (kV_RX11_298 C.2.2.2.2 (Nat.le_of_ble_eq_true rfl) (Nat.le_of_ble_eq_true rfl)) [4, 7, 8, 2] [2, 1, 2, 0] rfl rfl (ci := 3) (qc := (RX3, TX3, 8)) rfl rfl (List.mem_flatten.mpr ⟨_, List.mem_of_getElem? (i := 0) rfl, (bFit_mem hw_155).choose_spec⟩) rfl rfl hl.1 dX11_fit_74 (Nat.le_of_ble_eq_true rfl) (by show _ + (2 * (zFl m1f wy2_142 - m1f)) ≤ 6 * (zNA (i1.toInt = 0 ∧ 0 < (fk 0).toInt ∧ (0 ≤ i2.toInt ∧ i2.toInt < (fk 2).toInt ∧ i2.toInt < 2) ∧ (e0f.toInt = 0 ∨ ¬ e1f.toInt = i1.toInt ∨ ¬ e2f.toInt = i2.toInt)) mdA n4A (zPl cr0_ inn0_ k10_) - n4A) + 6 * (zNA (i1.toInt = 1 ∧ 1 < (fk 0).toInt ∧ (0 ≤ i2.toInt ∧ i2.toInt < (fk 2).toInt ∧ i2.toInt < 2) ∧ (e0f.toInt = 0 ∨ ¬ e1f.toInt = i1.toInt ∨ ¬ e2f.toInt = i2.toInt)) mdB n4B (zPl cr1_ inn1_ k11_) - n4B) + 2 * (zNF (i1.toInt = 1 ∧ 1 < (fk 0).toInt ∧ (0 ≤ i2.toInt ∧ i2.toInt < (fk 2).toInt ∧ i2.toInt < 2) ∧ (e0f.toInt = 0 ∨ ¬ e1f.toInt = i1.toInt ∨ ¬ e2f.toInt = i2.toInt)) (zNF (i1.toInt = 0 ∧ 0 < (fk 0).toInt ∧ (0 ≤ i2.toInt ∧ i2.toInt < (fk 2).toInt ∧ i2.toInt < 2) ∧ (e0f.toInt = 0 ∨ ¬ e1f.toInt = i1.toInt ∨ ¬ e2f.toInt = i2.toInt)) m1f (zMw mdA wyA cr0_ inn0_ k10_)) (zMw mdB wyB cr1_ inn1_ k11_) - m1f); omega) (fun b1 H locs hw G => ?_)
          refine zEx5 hw ?_
          intro w2_156 s3_157 s4_158 s5_159 g1_160
          refine zCu3 ?_
          intro hbs9 h_161 h_162
          clear hw
          subst hbs9
          have G : zS T A s.heap s [z1_, wg0_, wwB, wt, [zO10 xo t im mk rd po co tr wa wb_ fi cd], w2_156, w2_140, z0_, wg1_] _ _ := G
          have h39 := h_162
          refine lv_aload_n hx hb dX11_fit_77 rfl (lv_at hl 2 rfl) ?_
          refine z_get C G clX11 4 rfl 9 (by decide) m_fl_RX11_65 rfl dX11_fit_78 ?_
          refine lv_iload_n hx hb dX11_fit_81 rfl (lv_at hl 3 rfl) ?_
          refine zEx2 h_161 ?_
          intro a1_164 a2_165 hbs9
          clear h_161
          subst hbs9
          have G : zS T A s.heap s [z1_, wg0_, wwB, wt, [zO10 xo t im mk rd po co tr wa wb_ fi cd], [zO3 fi e0f e1f e2f s3_157 s4_158 s5_159 a1_164 a2_165], [zAr T 0 a1_164 (zFl m1f wy2_142) g1_160], [zAr T 0 a2_165 7 r2f], w2_140, z0_, wg1_] _ _ := G.re rfl
          refine z_put C G clX3 5 rfl 1 (by decide) m_fl_RX11_292 rfl rfl rfl (Nat.le_of_ble_eq_true rfl) dX11_fit_82 (fun H locs G => ?_)
          have G : zS T A s.heap s [z1_, wg0_, wwB, wt, [zO10 xo t im mk rd po co tr wa wb_ fi cd], [zO3 fi e0f i1 e2f s3_157 s4_158 s5_159 a1_164 a2_165], [zAr T 0 a1_164 (zFl m1f wy2_142) g1_160], [zAr T 0 a2_165 7 r2f], w2_140, z0_, wg1_] _ _ := G
          refine lv_aload_n hx hb dX11_fit_85 rfl (lv_at hl 2 rfl) ?_
          refine z_get C G clX11 4 rfl 9 (by decide) m_fl_RX11_65 rfl dX11_fit_86 ?_
          refine lv_iload_n hx hb dX11_fit_89 rfl (lv_at hl 4 rfl) ?_
          refine z_put C G clX3 5 rfl 2 (by decide) m_fl_RX11_295 rfl rfl rfl (Nat.le_of_ble_eq_true rfl) dX11_fit_90 (fun H locs G => ?_)
          have G : zS T A s.heap s [z1_, wg0_, wwB, wt, [zO10 xo t im mk rd po co tr wa wb_ fi cd], [zO3 fi e0f i1 i2 s3_157 s4_158 s5_159 a1_164 a2_165], [zAr T 0 a1_164 (zFl m1f wy2_142) g1_160], [zAr T 0 a2_165 7 r2f], w2_140, z0_, wg1_] _ _ := G
          refine lv_aload_n hx hb dX11_fit_93 rfl (lv_at hl 2 rfl) ?_
          refine z_get C G clX11 4 rfl 9 (by decide) m_fl_RX11_65 rfl dX11_fit_94 ?_
          refine lv_iconst (v := 1) hx hb dX11_fit_97 (by decide) ?_
          refine z_put C G clX3 5 rfl 0 (by decide) m_fl_RX11_109 rfl rfl rfl (Nat.le_of_ble_eq_true rfl) dX11_fit_98 (fun H locs G => ?_)
          have G : zS T A s.heap s [z1_, wg0_, wwB, wt, [zO10 xo t im mk rd po co tr wa wb_ fi cd], [zO3 fi 1 i1 i2 s3_157 s4_158 s5_159 a1_164 a2_165], [zAr T 0 a1_164 (zFl m1f wy2_142) g1_160], [zAr T 0 a2_165 7 r2f], w2_140, z0_, wg1_] _ _ := G
          refine lv_iconst (v := 1) hx hb dX11_fit_101 (by decide) ?_
          have hw_166 : bFit T fi 1 i1 i2 s3_157 s4_158 s5_159 g1_160 (zFl m1f wy2_142) r2f [zO3 fi 1 i1 i2 s3_157 s4_158 s5_159 a1_164 a2_165, zAr T 0 a1_164 (zFl m1f wy2_142) g1_160, zAr T 0 a2_165 7 r2f] := ⟨a1_164, a2_165, rfl⟩
          have G : zS T A s.heap s [z1_, wg0_, wwB, wt, [zO10 xo t im mk rd po co tr wa wb_ fi cd], [zO3 fi 1 i1 i2 s3_157 s4_158 s5_159 a1_164 a2_165, zAr T 0 a1_164 (zFl m1f wy2_142) g1_160, zAr T 0 a2_165 7 r2f], w2_140, z0_, wg1_] _ _ := G.re rfl
          have G := G.sub (bs' := [[zO10 xo t im mk rd po co tr wa wb_ fi cd], wt, z0_, z1_, wg0_, wg1_, w2_140, wwB, [zO3 fi 1 i1 i2 s3_157 s4_158 s5_159 a1_164 a2_165, zAr T 0 a1_164 (zFl m1f wy2_142) g1_160, zAr T 0 a2_165 7 r2f]]) [4, 3, 7, 0, 1, 8, 6, 2, 5] rfl
          exact z_back hQz_ (z_zret C hr hlocks G (Nat.le_of_ble_eq_true rfl) (by omega) dX11_fit_102 rfl ⟨l0, m2_141, wy2_142, pc2_143, g1_144, g2_145, f3A, g4_146, g5_147, g6_148, (zMk mdA n4A (zPl cr0_ inn0_ k10_)), w2_140, laB, mdB, wyB, pc_B, f1B, f2B, f3B, f4B, f5B, f6B, n4B, wwB, 1, i1, i2, s3_157, s4_158, s5_159, g1_160, (zFl m1f wy2_142), r2f, ([zO3 fi 1 i1 i2 s3_157 s4_158 s5_159 a1_164 a2_165, zAr T 0 a1_164 (zFl m1f wy2_142) g1_160, zAr T 0 a2_165 7 r2f]), rfl, h_150, (Or.inr rfl), hwy9, hNAm.symm, (zMk_pw hpwA), (fun _ => h_153), hwwB, hmdB, hwmB, (zNA_n (by omega)).symm, hpwB, (fun q => q), hw_166, hNF.symm, hfw9, h39, (Or.inr ⟨rfl, by omega, by decide, rfl⟩), (fun _ => Or.inl ⟨by omega, h_153⟩)⟩)
        · have c_139n : e1f.toInt = i1.toInt := (fa_eq _ _).mp c_139
          refine lv_aload_n hx hb dX11_fit_51 rfl (lv_at hl 2 rfl) ?_
          refine z_get C G clX11 0 rfl 9 (by decide) m_fl_RX11_65 rfl dX11_fit_52 ?_
          refine z_get C G clX3 7 rfl 2 (by decide) m_fl_RX11_295 rfl dX11_fit_55 ?_
          refine lv_iload_n hx hb dX11_fit_58 rfl (lv_at hl 4 rfl) ?_
          refine lv_icmp_eq (tgt := 101) hx hb dX11_fit_59 (by decide) (fun c_167 => ?_) (fun c_167 => ?_)
          · have c_167n : e2f.toInt = i2.toInt := (fa_eq _ _).mp c_167
            refine lv_iconst (v := 1) hx hb dX11_fit_101 (by decide) ?_
            have hw_168 : bFit T fi e0f e1f e2f e3f e4f e5f r1f m1f r2f [zO3 fi e0f e1f e2f e3f e4f e5f a1_109 a2_110, zAr T 0 a1_109 m1f r1f, zAr T 0 a2_110 7 r2f] := ⟨a1_109, a2_110, rfl⟩
            have G : zS T A s.heap s [[zO10 xo t im mk rd po co tr wa wb_ fi cd], z0_, z1_, wg0_, wg1_, wwA, wwB, [zO3 fi e0f e1f e2f e3f e4f e5f a1_109 a2_110, zAr T 0 a1_109 m1f r1f, zAr T 0 a2_110 7 r2f], wt] _ _ := G.re rfl
            have G := G.sub (bs' := [[zO10 xo t im mk rd po co tr wa wb_ fi cd], wt, z0_, z1_, wg0_, wg1_, wwA, wwB, [zO3 fi e0f e1f e2f e3f e4f e5f a1_109 a2_110, zAr T 0 a1_109 m1f r1f, zAr T 0 a2_110 7 r2f]]) [0, 8, 1, 2, 3, 4, 5, 6, 7] rfl
            exact z_back hQz_ (z_zret C hr hlocks G (Nat.le_of_ble_eq_true rfl) (by omega) dX11_fit_102 rfl ⟨laA, mdA, wyA, pc_A, f1A, f2A, f3A, f4A, f5A, f6A, n4A, wwA, laB, mdB, wyB, pc_B, f1B, f2B, f3B, f4B, f5B, f6B, n4B, wwB, e0f, e1f, e2f, e3f, e4f, e5f, r1f, m1f, r2f, ([zO3 fi e0f e1f e2f e3f e4f e5f a1_109 a2_110, zAr T 0 a1_109 m1f r1f, zAr T 0 a2_110 7 r2f]), rfl, hwwA, hmdA, hwmA, (zNA_n (by omega)).symm, hpwA, (fun q => q), hwwB, hmdB, hwmB, (zNA_n (by omega)).symm, hpwB, (fun q => q), hw_168, (((zNF_n (c := (i1.toInt = 1 ∧ 1 < (fk 0).toInt ∧ (0 ≤ i2.toInt ∧ i2.toInt < (fk 2).toInt ∧ i2.toInt < 2) ∧ (e0f.toInt = 0 ∨ ¬ e1f.toInt = i1.toInt ∨ ¬ e2f.toInt = i2.toInt))) (by omega)).trans (zNF_n (by omega))).symm), hfw, hf3, (Or.inr ⟨rfl, by omega, (fun q => absurd (congrArg Int32.toInt q) (by show ¬ _ = (0 : Int); omega)), by omega⟩), hFI⟩)
          · have c_167n : ¬ e2f.toInt = i2.toInt := fun q => c_167 ((fa_eq _ _).mpr q)
            refine lv_aload_n hx hb dX11_fit_62 rfl (lv_at hl 2 rfl) ?_
            refine z_get C G clX11 0 rfl 9 (by decide) m_fl_RX11_65 rfl dX11_fit_63 ?_
            refine lv_aload_n hx hb dX11_fit_66 rfl (lv_at hl 2 rfl) ?_
            refine lv_iload_n hx hb dX11_fit_67 rfl (lv_at hl 3 rfl) ?_
            refine lv_aload_n hx hb dX11_fit_68 rfl (lv_at hl 1 rfl) ?_
            have hcF : (i1.toInt = 0 ∧ 0 < (fk 0).toInt ∧ (0 ≤ i2.toInt ∧ i2.toInt < (fk 2).toInt ∧ i2.toInt < 2) ∧ (e0f.toInt = 0 ∨ ¬ e1f.toInt = i1.toInt ∨ ¬ e2f.toInt = i2.toInt)) := by omega
            have hcN : ¬ (i1.toInt = 1 ∧ 1 < (fk 0).toInt ∧ (0 ≤ i2.toInt ∧ i2.toInt < (fk 2).toInt ∧ i2.toInt < 2) ∧ (e0f.toInt = 0 ∨ ¬ e1f.toInt = i1.toInt ∨ ¬ e2f.toInt = i2.toInt)) := by omega
            have hNAm : zNA (i1.toInt = 0 ∧ 0 < (fk 0).toInt ∧ (0 ≤ i2.toInt ∧ i2.toInt < (fk 2).toInt ∧ i2.toInt < 2) ∧ (e0f.toInt = 0 ∨ ¬ e1f.toInt = i1.toInt ∨ ¬ e2f.toInt = i2.toInt)) mdA n4A (zPl cr0_ inn0_ k10_) = zMk mdA n4A (zPl cr0_ inn0_ k10_) := zNA_y hcF
            have hNAo : zNA (i1.toInt = 1 ∧ 1 < (fk 0).toInt ∧ (0 ≤ i2.toInt ∧ i2.toInt < (fk 2).toInt ∧ i2.toInt < 2) ∧ (e0f.toInt = 0 ∨ ¬ e1f.toInt = i1.toInt ∨ ¬ e2f.toInt = i2.toInt)) mdB n4B (zPl cr1_ inn1_ k11_) = n4B := zNA_n hcN
            have hn9 : zMk mdA n4A (zPl cr0_ inn0_ k10_) ≤ 131072 := zPw_le (zMk_pw hpwA)
            refine z_Vq (bc := [[zO10 xo t im mk rd po co tr wa wb_ fi cd], wwA, z0_]) (br := [z1_, wg0_, wg1_, wwB, [zO3 fi e0f e1f e2f e3f e4f e5f a1_109 a2_110], [zAr T 0 a1_109 m1f r1f], [zAr T 0 a2_110 7 r2f], wt]) (As := [.int i1, .ref l0]) (rest := [.ref fi]) C G (c_waysInA l T xo t im mk rd po co tr wa wb_ fi cd i1 laA mdA wyA pc_A f1A f2A f3A f4A f5A f6A n4A wwA l0 cr0_ inn0_ k10_ k20_ k30_ k40_ z0_ hwwA hz0_ hI0_ hpwA hmdA hwmA (by omega)) (kV_RX11_235 C.2.2.2.2 (Nat.le_of_ble_eq_true rfl) (Nat.le_of_ble_eq_true rfl)) [0, 5, 1] [0, 0, 3] rfl rfl (ci := 10) (qc := (RX11, TX11, 11)) rfl rfl (List.mem_flatten.mpr ⟨_, List.mem_of_getElem? (i := 0) rfl, List.mem_cons_self⟩) rfl rfl hl.1 dX11_fit_69 (Nat.le_of_ble_eq_true rfl) (by show _ + (6 * (zMk mdA n4A (zPl cr0_ inn0_ k10_) - n4A)) ≤ 6 * (zNA (i1.toInt = 0 ∧ 0 < (fk 0).toInt ∧ (0 ≤ i2.toInt ∧ i2.toInt < (fk 2).toInt ∧ i2.toInt < 2) ∧ (e0f.toInt = 0 ∨ ¬ e1f.toInt = i1.toInt ∨ ¬ e2f.toInt = i2.toInt)) mdA n4A (zPl cr0_ inn0_ k10_) - n4A) + 6 * (zNA (i1.toInt = 1 ∧ 1 < (fk 0).toInt ∧ (0 ≤ i2.toInt ∧ i2.toInt < (fk 2).toInt ∧ i2.toInt < 2) ∧ (e0f.toInt = 0 ∨ ¬ e1f.toInt = i1.toInt ∨ ¬ e2f.toInt = i2.toInt)) mdB n4B (zPl cr1_ inn1_ k11_) - n4B) + 2 * (zNF (i1.toInt = 1 ∧ 1 < (fk 0).toInt ∧ (0 ≤ i2.toInt ∧ i2.toInt < (fk 2).toInt ∧ i2.toInt < 2) ∧ (e0f.toInt = 0 ∨ ¬ e1f.toInt = i1.toInt ∨ ¬ e2f.toInt = i2.toInt)) (zNF (i1.toInt = 0 ∧ 0 < (fk 0).toInt ∧ (0 ≤ i2.toInt ∧ i2.toInt < (fk 2).toInt ∧ i2.toInt < 2) ∧ (e0f.toInt = 0 ∨ ¬ e1f.toInt = i1.toInt ∨ ¬ e2f.toInt = i2.toInt)) m1f (zMw mdA wyA cr0_ inn0_ k10_)) (zMw mdB wyB cr1_ inn1_ k11_) - m1f); omega) (fun r_183 b1 H locs hw G => ?_)
            refine zEx9 hw ?_
            intro w2_169 m2_170 wy2_171 pc2_172 g1_173 g2_174 g4_175 g5_176 g6_177
            refine zCu6 ?_
            intro hbs9 h_178 h_179 h_180 h_181 h_182
            clear hw
            subst hbs9
            have G : zS T A s.heap s [z1_, wg0_, wg1_, wwB, [zO3 fi e0f e1f e2f e3f e4f e5f a1_109 a2_110], [zAr T 0 a1_109 m1f r1f], [zAr T 0 a2_110 7 r2f], wt, [zO10 xo t im mk rd po co tr wa wb_ fi cd], w2_169, z0_] _ _ := G
            subst h_178
            have hwy9 := h_180
            have hNF : zNF (i1.toInt = 1 ∧ 1 < (fk 0).toInt ∧ (0 ≤ i2.toInt ∧ i2.toInt < (fk 2).toInt ∧ i2.toInt < 2) ∧ (e0f.toInt = 0 ∨ ¬ e1f.toInt = i1.toInt ∨ ¬ e2f.toInt = i2.toInt)) (zNF (i1.toInt = 0 ∧ 0 < (fk 0).toInt ∧ (0 ≤ i2.toInt ∧ i2.toInt < (fk 2).toInt ∧ i2.toInt < 2) ∧ (e0f.toInt = 0 ∨ ¬ e1f.toInt = i1.toInt ∨ ¬ e2f.toInt = i2.toInt)) m1f (zMw mdA wyA cr0_ inn0_ k10_)) (zMw mdB wyB cr1_ inn1_ k11_) = zFl m1f wy2_171 := by rw [zNF_n (c := (i1.toInt = 1 ∧ 1 < (fk 0).toInt ∧ (0 ≤ i2.toInt ∧ i2.toInt < (fk 2).toInt ∧ i2.toInt < 2) ∧ (e0f.toInt = 0 ∨ ¬ e1f.toInt = i1.toInt ∨ ¬ e2f.toInt = i2.toInt))) hcN, zNF_y hcF, h_181]
            have hfw9 := zFl_pw (wy := wy2_171) hfw
            refine lv_aload hx hb dX11_fit_72 (lv_at hl 0 rfl) ?_
            have hw_184 : bFit T fi e0f e1f e2f e3f e4f e5f r1f m1f r2f [zO3 fi e0f e1f e2f e3f e4f e5f a1_109 a2_110, zAr T 0 a1_109 m1f r1f, zAr T 0 a2_110 7 r2f] := ⟨a1_109, a2_110, rfl⟩
            have G : zS T A s.heap s [z1_, wg0_, wg1_, wwB, [zO3 fi e0f e1f e2f e3f e4f e5f a1_109 a2_110, zAr T 0 a1_109 m1f r1f, zAr T 0 a2_110 7 r2f], wt, [zO10 xo t im mk rd po co tr wa wb_ fi cd], w2_169, z0_] _ _ := G.re rfl
            refine z_Vv (bc := [[zO3 fi e0f e1f e2f e3f e4f e5f a1_109 a2_110, zAr T 0 a1_109 m1f r1f, zAr T 0 a2_110 7 r2f], w2_169, z0_, wg1_]) (br := [z1_, wg0_, wwB, wt, [zO10 xo t im mk rd po co tr wa wb_ fi cd]]) (As := [.ref wa, .ref g1]) (rest := []) C G (c_find l T fi e0f e1f e2f e3f e4f e5f r1f m1f r2f ([zO3 fi e0f e1f e2f e3f e4f e5f a1_109 a2_110, zAr T 0 a1_109 m1f r1f, zAr T 0 a2_110 7 r2f]) wa l0 m2_170 wy2_171 pc2_172 g1_173 g2_174 f3A g4_175 g5_176 g6_177 (zMk mdA n4A (zPl cr0_ inn0_ k10_)) w2_169 cr0_ inn0_ k10_ k20_ k30_ k40_ z0_ g1 gg1_ q11_ q21_ wg1_ hw_184 h_179 hz0_ hg1_ hn9 hfw hwy9) (kV_RX11_298 C.2.2.2.2 (Nat.le_of_ble_eq_true rfl) (Nat.le_of_ble_eq_true rfl)) [4, 7, 8, 2] [2, 1, 2, 0] rfl rfl (ci := 3) (qc := (RX3, TX3, 8)) rfl rfl (List.mem_flatten.mpr ⟨_, List.mem_of_getElem? (i := 0) rfl, (bFit_mem hw_184).choose_spec⟩) rfl rfl hl.1 dX11_fit_74 (Nat.le_of_ble_eq_true rfl) (by show _ + (2 * (zFl m1f wy2_171 - m1f)) ≤ 6 * (zNA (i1.toInt = 0 ∧ 0 < (fk 0).toInt ∧ (0 ≤ i2.toInt ∧ i2.toInt < (fk 2).toInt ∧ i2.toInt < 2) ∧ (e0f.toInt = 0 ∨ ¬ e1f.toInt = i1.toInt ∨ ¬ e2f.toInt = i2.toInt)) mdA n4A (zPl cr0_ inn0_ k10_) - n4A) + 6 * (zNA (i1.toInt = 1 ∧ 1 < (fk 0).toInt ∧ (0 ≤ i2.toInt ∧ i2.toInt < (fk 2).toInt ∧ i2.toInt < 2) ∧ (e0f.toInt = 0 ∨ ¬ e1f.toInt = i1.toInt ∨ ¬ e2f.toInt = i2.toInt)) mdB n4B (zPl cr1_ inn1_ k11_) - n4B) + 2 * (zNF (i1.toInt = 1 ∧ 1 < (fk 0).toInt ∧ (0 ≤ i2.toInt ∧ i2.toInt < (fk 2).toInt ∧ i2.toInt < 2) ∧ (e0f.toInt = 0 ∨ ¬ e1f.toInt = i1.toInt ∨ ¬ e2f.toInt = i2.toInt)) (zNF (i1.toInt = 0 ∧ 0 < (fk 0).toInt ∧ (0 ≤ i2.toInt ∧ i2.toInt < (fk 2).toInt ∧ i2.toInt < 2) ∧ (e0f.toInt = 0 ∨ ¬ e1f.toInt = i1.toInt ∨ ¬ e2f.toInt = i2.toInt)) m1f (zMw mdA wyA cr0_ inn0_ k10_)) (zMw mdB wyB cr1_ inn1_ k11_) - m1f); omega) (fun b1 H locs hw G => ?_)
            refine zEx5 hw ?_
            intro w2_185 s3_186 s4_187 s5_188 g1_189
            refine zCu3 ?_
            intro hbs9 h_190 h_191
            clear hw
            subst hbs9
            have G : zS T A s.heap s [z1_, wg0_, wwB, wt, [zO10 xo t im mk rd po co tr wa wb_ fi cd], w2_185, w2_169, z0_, wg1_] _ _ := G
            have h39 := h_191
            refine lv_aload_n hx hb dX11_fit_77 rfl (lv_at hl 2 rfl) ?_
            refine z_get C G clX11 4 rfl 9 (by decide) m_fl_RX11_65 rfl dX11_fit_78 ?_
            refine lv_iload_n hx hb dX11_fit_81 rfl (lv_at hl 3 rfl) ?_
            refine zEx2 h_190 ?_
            intro a1_193 a2_194 hbs9
            clear h_190
            subst hbs9
            have G : zS T A s.heap s [z1_, wg0_, wwB, wt, [zO10 xo t im mk rd po co tr wa wb_ fi cd], [zO3 fi e0f e1f e2f s3_186 s4_187 s5_188 a1_193 a2_194], [zAr T 0 a1_193 (zFl m1f wy2_171) g1_189], [zAr T 0 a2_194 7 r2f], w2_169, z0_, wg1_] _ _ := G.re rfl
            refine z_put C G clX3 5 rfl 1 (by decide) m_fl_RX11_292 rfl rfl rfl (Nat.le_of_ble_eq_true rfl) dX11_fit_82 (fun H locs G => ?_)
            have G : zS T A s.heap s [z1_, wg0_, wwB, wt, [zO10 xo t im mk rd po co tr wa wb_ fi cd], [zO3 fi e0f i1 e2f s3_186 s4_187 s5_188 a1_193 a2_194], [zAr T 0 a1_193 (zFl m1f wy2_171) g1_189], [zAr T 0 a2_194 7 r2f], w2_169, z0_, wg1_] _ _ := G
            refine lv_aload_n hx hb dX11_fit_85 rfl (lv_at hl 2 rfl) ?_
            refine z_get C G clX11 4 rfl 9 (by decide) m_fl_RX11_65 rfl dX11_fit_86 ?_
            refine lv_iload_n hx hb dX11_fit_89 rfl (lv_at hl 4 rfl) ?_
            refine z_put C G clX3 5 rfl 2 (by decide) m_fl_RX11_295 rfl rfl rfl (Nat.le_of_ble_eq_true rfl) dX11_fit_90 (fun H locs G => ?_)
            have G : zS T A s.heap s [z1_, wg0_, wwB, wt, [zO10 xo t im mk rd po co tr wa wb_ fi cd], [zO3 fi e0f i1 i2 s3_186 s4_187 s5_188 a1_193 a2_194], [zAr T 0 a1_193 (zFl m1f wy2_171) g1_189], [zAr T 0 a2_194 7 r2f], w2_169, z0_, wg1_] _ _ := G
            refine lv_aload_n hx hb dX11_fit_93 rfl (lv_at hl 2 rfl) ?_
            refine z_get C G clX11 4 rfl 9 (by decide) m_fl_RX11_65 rfl dX11_fit_94 ?_
            refine lv_iconst (v := 1) hx hb dX11_fit_97 (by decide) ?_
            refine z_put C G clX3 5 rfl 0 (by decide) m_fl_RX11_109 rfl rfl rfl (Nat.le_of_ble_eq_true rfl) dX11_fit_98 (fun H locs G => ?_)
            have G : zS T A s.heap s [z1_, wg0_, wwB, wt, [zO10 xo t im mk rd po co tr wa wb_ fi cd], [zO3 fi 1 i1 i2 s3_186 s4_187 s5_188 a1_193 a2_194], [zAr T 0 a1_193 (zFl m1f wy2_171) g1_189], [zAr T 0 a2_194 7 r2f], w2_169, z0_, wg1_] _ _ := G
            refine lv_iconst (v := 1) hx hb dX11_fit_101 (by decide) ?_
            have hw_195 : bFit T fi 1 i1 i2 s3_186 s4_187 s5_188 g1_189 (zFl m1f wy2_171) r2f [zO3 fi 1 i1 i2 s3_186 s4_187 s5_188 a1_193 a2_194, zAr T 0 a1_193 (zFl m1f wy2_171) g1_189, zAr T 0 a2_194 7 r2f] := ⟨a1_193, a2_194, rfl⟩
            have G : zS T A s.heap s [z1_, wg0_, wwB, wt, [zO10 xo t im mk rd po co tr wa wb_ fi cd], [zO3 fi 1 i1 i2 s3_186 s4_187 s5_188 a1_193 a2_194, zAr T 0 a1_193 (zFl m1f wy2_171) g1_189, zAr T 0 a2_194 7 r2f], w2_169, z0_, wg1_] _ _ := G.re rfl
            have G := G.sub (bs' := [[zO10 xo t im mk rd po co tr wa wb_ fi cd], wt, z0_, z1_, wg0_, wg1_, w2_169, wwB, [zO3 fi 1 i1 i2 s3_186 s4_187 s5_188 a1_193 a2_194, zAr T 0 a1_193 (zFl m1f wy2_171) g1_189, zAr T 0 a2_194 7 r2f]]) [4, 3, 7, 0, 1, 8, 6, 2, 5] rfl
            exact z_back hQz_ (z_zret C hr hlocks G (Nat.le_of_ble_eq_true rfl) (by omega) dX11_fit_102 rfl ⟨l0, m2_170, wy2_171, pc2_172, g1_173, g2_174, f3A, g4_175, g5_176, g6_177, (zMk mdA n4A (zPl cr0_ inn0_ k10_)), w2_169, laB, mdB, wyB, pc_B, f1B, f2B, f3B, f4B, f5B, f6B, n4B, wwB, 1, i1, i2, s3_186, s4_187, s5_188, g1_189, (zFl m1f wy2_171), r2f, ([zO3 fi 1 i1 i2 s3_186 s4_187 s5_188 a1_193 a2_194, zAr T 0 a1_193 (zFl m1f wy2_171) g1_189, zAr T 0 a2_194 7 r2f]), rfl, h_179, (Or.inr rfl), hwy9, hNAm.symm, (zMk_pw hpwA), (fun _ => h_182), hwwB, hmdB, hwmB, (zNA_n (by omega)).symm, hpwB, (fun q => q), hw_195, hNF.symm, hfw9, h39, (Or.inr ⟨rfl, by omega, by decide, rfl⟩), (fun _ => Or.inl ⟨by omega, h_182⟩)⟩)
  · have h_6 : i1.toInt = 1 := h_6
    have h_7 : 1 < (fk 0).toInt := h_7
    refine lv_astore_n (lv' := [(3, .ref l1), (0, .ref xo), (1, .int i1), (2, .int i2)]) hx hb dX11_fit_8 rfl hl (by decide) (zLvf_h rfl) (fun ls hl => ?_)
    refine lv_aload_n hx hb dX11_fit_9 rfl (lv_at hl 1 rfl) ?_
    refine z_get C G clX11 0 rfl 0 (by decide) m_fl_RX11_10 rfl dX11_fit_10 ?_
    refine lv_iload_n hx hb dX11_fit_13 rfl (lv_at hl 3 rfl) ?_
    refine z_Vq (bc := [wt]) (br := [[zO10 xo t im mk rd po co tr wa wb_ fi cd], z0_, z1_, wg0_, wg1_, wwA, wwB, wff]) (As := [.int i2]) (rest := []) C G (c_logAt l T t l0 l1 d0 d1 g0 g1 ln fl pl ft fk wt i2 ht) (kV_RX11_138 C.2.2.2.2 (Nat.le_of_ble_eq_true rfl) (Nat.le_of_ble_eq_true rfl)) [8] [8] rfl rfl (ci := 8) (qc := (RX9, TX9, 8)) rfl rfl (List.mem_flatten.mpr ⟨_, List.mem_of_getElem? (i := 0) rfl, (bTold_mem ht).choose_spec⟩) rfl rfl hl.1 dX11_fit_14 (Nat.le_of_ble_eq_true rfl) (by show _ + 0 ≤ 6 * (zNA (i1.toInt = 0 ∧ 0 < (fk 0).toInt ∧ (0 ≤ i2.toInt ∧ i2.toInt < (fk 2).toInt ∧ i2.toInt < 2) ∧ (e0f.toInt = 0 ∨ ¬ e1f.toInt = i1.toInt ∨ ¬ e2f.toInt = i2.toInt)) mdA n4A (zPl cr0_ inn0_ k10_) - n4A) + 6 * (zNA (i1.toInt = 1 ∧ 1 < (fk 0).toInt ∧ (0 ≤ i2.toInt ∧ i2.toInt < (fk 2).toInt ∧ i2.toInt < 2) ∧ (e0f.toInt = 0 ∨ ¬ e1f.toInt = i1.toInt ∨ ¬ e2f.toInt = i2.toInt)) mdB n4B (zPl cr1_ inn1_ k11_) - n4B) + 2 * (zNF (i1.toInt = 1 ∧ 1 < (fk 0).toInt ∧ (0 ≤ i2.toInt ∧ i2.toInt < (fk 2).toInt ∧ i2.toInt < 2) ∧ (e0f.toInt = 0 ∨ ¬ e1f.toInt = i1.toInt ∨ ¬ e2f.toInt = i2.toInt)) (zNF (i1.toInt = 0 ∧ 0 < (fk 0).toInt ∧ (0 ≤ i2.toInt ∧ i2.toInt < (fk 2).toInt ∧ i2.toInt < 2) ∧ (e0f.toInt = 0 ∨ ¬ e1f.toInt = i1.toInt ∨ ¬ e2f.toInt = i2.toInt)) m1f (zMw mdA wyA cr0_ inn0_ k10_)) (zMw mdB wyB cr1_ inn1_ k11_) - m1f); omega) (fun r_197 b1 H locs hw G => ?_)
    refine zAn2 hw ?_
    intro hbs9 hc_196
    clear hw
    subst hbs9
    have G : zS T A s.heap s [[zO10 xo t im mk rd po co tr wa wb_ fi cd], z0_, z1_, wg0_, wg1_, wwA, wwB, wff, wt] _ _ := G
    rcases hc_196 with ⟨rfl, h_198⟩ | ⟨rfl, h_199, h_200⟩ | ⟨rfl, h_201, h_202⟩
    · have h_198 : (i2.toInt < 0 ∨ (fk 2).toInt ≤ i2.toInt ∨ 2 ≤ i2.toInt) := h_198
      refine lv_astoreN (lv' := [(4, .null), (3, .ref l1), (0, .ref xo), (1, .int i1), (2, .int i2)]) hx hb dX11_fit_17 hl (by decide) (zLvf_h rfl) (fun ls hl => ?_)
      refine lv_aload_n hx hb dX11_fit_19 rfl (lv_at hl 1 rfl) ?_
      refine lv_ifnull hx hb dX11_fit_20 ?_
      refine lv_aloadN hx hb dX11_fit_23 (lv_at hl 0 rfl) ?_
      refine lv_ifnonnullN hx hb dX11_fit_25 ?_
      refine lv_iconst (v := 0) hx hb dX11_fit_28 (by decide) ?_
      have G := G.sub (bs' := [[zO10 xo t im mk rd po co tr wa wb_ fi cd], wt, z0_, z1_, wg0_, wg1_, wwA, wwB, wff]) [0, 8, 1, 2, 3, 4, 5, 6, 7] rfl
      exact z_back hQz_ (z_zret C hr hlocks G (Nat.le_of_ble_eq_true rfl) (by omega) dX11_fit_29 rfl ⟨laA, mdA, wyA, pc_A, f1A, f2A, f3A, f4A, f5A, f6A, n4A, wwA, laB, mdB, wyB, pc_B, f1B, f2B, f3B, f4B, f5B, f6B, n4B, wwB, e0f, e1f, e2f, e3f, e4f, e5f, r1f, m1f, r2f, wff, rfl, hwwA, hmdA, hwmA, (zNA_n (by omega)).symm, hpwA, (fun q => q), hwwB, hmdB, hwmB, (zNA_n (by omega)).symm, hpwB, (fun q => q), hwff, (((zNF_n (c := (i1.toInt = 1 ∧ 1 < (fk 0).toInt ∧ (0 ≤ i2.toInt ∧ i2.toInt < (fk 2).toInt ∧ i2.toInt < 2) ∧ (e0f.toInt = 0 ∨ ¬ e1f.toInt = i1.toInt ∨ ¬ e2f.toInt = i2.toInt))) (by omega)).trans (zNF_n (by omega))).symm), hfw, hf3, (Or.inl ⟨rfl, by omega⟩), hFI⟩)
    · have h_199 : i2.toInt = 0 := h_199
      have h_200 : 0 < (fk 2).toInt := h_200
      refine lv_astore (lv' := [(4, .ref g0), (3, .ref l1), (0, .ref xo), (1, .int i1), (2, .int i2)]) hx hb dX11_fit_17 hl (by decide) (zLvf_h rfl) (fun ls hl => ?_)
      refine lv_aload_n hx hb dX11_fit_19 rfl (lv_at hl 1 rfl) ?_
      refine lv_ifnull hx hb dX11_fit_20 ?_
      refine lv_aload hx hb dX11_fit_23 (lv_at hl 0 rfl) ?_
      refine lv_ifnonnull (tgt := 30) hx hb dX11_fit_25 (by decide) ?_
      refine lv_aload_n hx hb dX11_fit_30 rfl (lv_at hl 2 rfl) ?_
      refine z_get C G clX11 0 rfl 9 (by decide) m_fl_RX11_65 rfl dX11_fit_31 ?_
      refine zEx2 hwff ?_
      intro a1_203 a2_204 hbs9
      clear hwff
      subst hbs9
      have G : zS T A s.heap s [[zO10 xo t im mk rd po co tr wa wb_ fi cd], z0_, z1_, wg0_, wg1_, wwA, wwB, [zO3 fi e0f e1f e2f e3f e4f e5f a1_203 a2_204], [zAr T 0 a1_203 m1f r1f], [zAr T 0 a2_204 7 r2f], wt] _ _ := G.re rfl
      refine z_get C G clX3 7 rfl 0 (by decide) m_fl_RX11_109 rfl dX11_fit_34 ?_
      refine lv_if_eq (tgt := 62) hx hb dX11_fit_37 (by decide) (fun c_205 => ?_) (fun c_205 => ?_)
      · have c_205n : e0f.toInt = (0 : Int) := (fa_eq _ _).mp c_205
        refine lv_aload_n hx hb dX11_fit_62 rfl (lv_at hl 2 rfl) ?_
        refine z_get C G clX11 0 rfl 9 (by decide) m_fl_RX11_65 rfl dX11_fit_63 ?_
        refine lv_aload_n hx hb dX11_fit_66 rfl (lv_at hl 2 rfl) ?_
        refine lv_iload_n hx hb dX11_fit_67 rfl (lv_at hl 3 rfl) ?_
        refine lv_aload_n hx hb dX11_fit_68 rfl (lv_at hl 1 rfl) ?_
        have hcF : (i1.toInt = 1 ∧ 1 < (fk 0).toInt ∧ (0 ≤ i2.toInt ∧ i2.toInt < (fk 2).toInt ∧ i2.toInt < 2) ∧ (e0f.toInt = 0 ∨ ¬ e1f.toInt = i1.toInt ∨ ¬ e2f.toInt = i2.toInt)) := by omega
        have hcN : ¬ (i1.toInt = 0 ∧ 0 < (fk 0).toInt ∧ (0 ≤ i2.toInt ∧ i2.toInt < (fk 2).toInt ∧ i2.toInt < 2) ∧ (e0f.toInt = 0 ∨ ¬ e1f.toInt = i1.toInt ∨ ¬ e2f.toInt = i2.toInt)) := by omega
        have hNAm : zNA (i1.toInt = 1 ∧ 1 < (fk 0).toInt ∧ (0 ≤ i2.toInt ∧ i2.toInt < (fk 2).toInt ∧ i2.toInt < 2) ∧ (e0f.toInt = 0 ∨ ¬ e1f.toInt = i1.toInt ∨ ¬ e2f.toInt = i2.toInt)) mdB n4B (zPl cr1_ inn1_ k11_) = zMk mdB n4B (zPl cr1_ inn1_ k11_) := zNA_y hcF
        have hNAo : zNA (i1.toInt = 0 ∧ 0 < (fk 0).toInt ∧ (0 ≤ i2.toInt ∧ i2.toInt < (fk 2).toInt ∧ i2.toInt < 2) ∧ (e0f.toInt = 0 ∨ ¬ e1f.toInt = i1.toInt ∨ ¬ e2f.toInt = i2.toInt)) mdA n4A (zPl cr0_ inn0_ k10_) = n4A := zNA_n hcN
        have hn9 : zMk mdB n4B (zPl cr1_ inn1_ k11_) ≤ 131072 := zPw_le (zMk_pw hpwB)
        refine z_Vq (bc := [[zO10 xo t im mk rd po co tr wa wb_ fi cd], wwB, z1_]) (br := [z0_, wg0_, wg1_, wwA, [zO3 fi e0f e1f e2f e3f e4f e5f a1_203 a2_204], [zAr T 0 a1_203 m1f r1f], [zAr T 0 a2_204 7 r2f], wt]) (As := [.int i1, .ref l1]) (rest := [.ref fi]) C G (c_waysInB l T xo t im mk rd po co tr wa wb_ fi cd i1 laB mdB wyB pc_B f1B f2B f3B f4B f5B f6B n4B wwB l1 cr1_ inn1_ k11_ k21_ k31_ k41_ z1_ hwwB hz1_ hI1_ hpwB hmdB hwmB (by omega)) (kV_RX11_235 C.2.2.2.2 (Nat.le_of_ble_eq_true rfl) (Nat.le_of_ble_eq_true rfl)) [0, 6, 2] [0, 1, 3] rfl rfl (ci := 10) (qc := (RX11, TX11, 11)) rfl rfl (List.mem_flatten.mpr ⟨_, List.mem_of_getElem? (i := 0) rfl, List.mem_cons_self⟩) rfl rfl hl.1 dX11_fit_69 (Nat.le_of_ble_eq_true rfl) (by show _ + (6 * (zMk mdB n4B (zPl cr1_ inn1_ k11_) - n4B)) ≤ 6 * (zNA (i1.toInt = 0 ∧ 0 < (fk 0).toInt ∧ (0 ≤ i2.toInt ∧ i2.toInt < (fk 2).toInt ∧ i2.toInt < 2) ∧ (e0f.toInt = 0 ∨ ¬ e1f.toInt = i1.toInt ∨ ¬ e2f.toInt = i2.toInt)) mdA n4A (zPl cr0_ inn0_ k10_) - n4A) + 6 * (zNA (i1.toInt = 1 ∧ 1 < (fk 0).toInt ∧ (0 ≤ i2.toInt ∧ i2.toInt < (fk 2).toInt ∧ i2.toInt < 2) ∧ (e0f.toInt = 0 ∨ ¬ e1f.toInt = i1.toInt ∨ ¬ e2f.toInt = i2.toInt)) mdB n4B (zPl cr1_ inn1_ k11_) - n4B) + 2 * (zNF (i1.toInt = 1 ∧ 1 < (fk 0).toInt ∧ (0 ≤ i2.toInt ∧ i2.toInt < (fk 2).toInt ∧ i2.toInt < 2) ∧ (e0f.toInt = 0 ∨ ¬ e1f.toInt = i1.toInt ∨ ¬ e2f.toInt = i2.toInt)) (zNF (i1.toInt = 0 ∧ 0 < (fk 0).toInt ∧ (0 ≤ i2.toInt ∧ i2.toInt < (fk 2).toInt ∧ i2.toInt < 2) ∧ (e0f.toInt = 0 ∨ ¬ e1f.toInt = i1.toInt ∨ ¬ e2f.toInt = i2.toInt)) m1f (zMw mdA wyA cr0_ inn0_ k10_)) (zMw mdB wyB cr1_ inn1_ k11_) - m1f); omega) (fun r_220 b1 H locs hw G => ?_)
        refine zEx9 hw ?_
        intro w2_206 m2_207 wy2_208 pc2_209 g1_210 g2_211 g4_212 g5_213 g6_214
        refine zCu6 ?_
        intro hbs9 h_215 h_216 h_217 h_218 h_219
        clear hw
        subst hbs9
        have G : zS T A s.heap s [z0_, wg0_, wg1_, wwA, [zO3 fi e0f e1f e2f e3f e4f e5f a1_203 a2_204], [zAr T 0 a1_203 m1f r1f], [zAr T 0 a2_204 7 r2f], wt, [zO10 xo t im mk rd po co tr wa wb_ fi cd], w2_206, z1_] _ _ := G
        subst h_215
        have hwy9 := h_217
        have hNF : zNF (i1.toInt = 1 ∧ 1 < (fk 0).toInt ∧ (0 ≤ i2.toInt ∧ i2.toInt < (fk 2).toInt ∧ i2.toInt < 2) ∧ (e0f.toInt = 0 ∨ ¬ e1f.toInt = i1.toInt ∨ ¬ e2f.toInt = i2.toInt)) (zNF (i1.toInt = 0 ∧ 0 < (fk 0).toInt ∧ (0 ≤ i2.toInt ∧ i2.toInt < (fk 2).toInt ∧ i2.toInt < 2) ∧ (e0f.toInt = 0 ∨ ¬ e1f.toInt = i1.toInt ∨ ¬ e2f.toInt = i2.toInt)) m1f (zMw mdA wyA cr0_ inn0_ k10_)) (zMw mdB wyB cr1_ inn1_ k11_) = zFl m1f wy2_208 := by rw [zNF_y (c := (i1.toInt = 1 ∧ 1 < (fk 0).toInt ∧ (0 ≤ i2.toInt ∧ i2.toInt < (fk 2).toInt ∧ i2.toInt < 2) ∧ (e0f.toInt = 0 ∨ ¬ e1f.toInt = i1.toInt ∨ ¬ e2f.toInt = i2.toInt))) hcF, zNF_n (c := (i1.toInt = 0 ∧ 0 < (fk 0).toInt ∧ (0 ≤ i2.toInt ∧ i2.toInt < (fk 2).toInt ∧ i2.toInt < 2) ∧ (e0f.toInt = 0 ∨ ¬ e1f.toInt = i1.toInt ∨ ¬ e2f.toInt = i2.toInt))) hcN, h_218]
        have hfw9 := zFl_pw (wy := wy2_208) hfw
        refine lv_aload hx hb dX11_fit_72 (lv_at hl 0 rfl) ?_
        have hw_221 : bFit T fi e0f e1f e2f e3f e4f e5f r1f m1f r2f [zO3 fi e0f e1f e2f e3f e4f e5f a1_203 a2_204, zAr T 0 a1_203 m1f r1f, zAr T 0 a2_204 7 r2f] := ⟨a1_203, a2_204, rfl⟩
        have G : zS T A s.heap s [z0_, wg0_, wg1_, wwA, [zO3 fi e0f e1f e2f e3f e4f e5f a1_203 a2_204, zAr T 0 a1_203 m1f r1f, zAr T 0 a2_204 7 r2f], wt, [zO10 xo t im mk rd po co tr wa wb_ fi cd], w2_206, z1_] _ _ := G.re rfl
        refine z_Vv (bc := [[zO3 fi e0f e1f e2f e3f e4f e5f a1_203 a2_204, zAr T 0 a1_203 m1f r1f, zAr T 0 a2_204 7 r2f], w2_206, z1_, wg0_]) (br := [z0_, wg1_, wwA, wt, [zO10 xo t im mk rd po co tr wa wb_ fi cd]]) (As := [.ref wb_, .ref g0]) (rest := []) C G (c_find l T fi e0f e1f e2f e3f e4f e5f r1f m1f r2f ([zO3 fi e0f e1f e2f e3f e4f e5f a1_203 a2_204, zAr T 0 a1_203 m1f r1f, zAr T 0 a2_204 7 r2f]) wb_ l1 m2_207 wy2_208 pc2_209 g1_210 g2_211 f3B g4_212 g5_213 g6_214 (zMk mdB n4B (zPl cr1_ inn1_ k11_)) w2_206 cr1_ inn1_ k11_ k21_ k31_ k41_ z1_ g0 gg0_ q10_ q20_ wg0_ hw_221 h_216 hz1_ hg0_ hn9 hfw hwy9) (kV_RX11_298 C.2.2.2.2 (Nat.le_of_ble_eq_true rfl) (Nat.le_of_ble_eq_true rfl)) [4, 7, 8, 1] [1, 2, 2, 0] rfl rfl (ci := 3) (qc := (RX3, TX3, 8)) rfl rfl (List.mem_flatten.mpr ⟨_, List.mem_of_getElem? (i := 0) rfl, (bFit_mem hw_221).choose_spec⟩) rfl rfl hl.1 dX11_fit_74 (Nat.le_of_ble_eq_true rfl) (by show _ + (2 * (zFl m1f wy2_208 - m1f)) ≤ 6 * (zNA (i1.toInt = 0 ∧ 0 < (fk 0).toInt ∧ (0 ≤ i2.toInt ∧ i2.toInt < (fk 2).toInt ∧ i2.toInt < 2) ∧ (e0f.toInt = 0 ∨ ¬ e1f.toInt = i1.toInt ∨ ¬ e2f.toInt = i2.toInt)) mdA n4A (zPl cr0_ inn0_ k10_) - n4A) + 6 * (zNA (i1.toInt = 1 ∧ 1 < (fk 0).toInt ∧ (0 ≤ i2.toInt ∧ i2.toInt < (fk 2).toInt ∧ i2.toInt < 2) ∧ (e0f.toInt = 0 ∨ ¬ e1f.toInt = i1.toInt ∨ ¬ e2f.toInt = i2.toInt)) mdB n4B (zPl cr1_ inn1_ k11_) - n4B) + 2 * (zNF (i1.toInt = 1 ∧ 1 < (fk 0).toInt ∧ (0 ≤ i2.toInt ∧ i2.toInt < (fk 2).toInt ∧ i2.toInt < 2) ∧ (e0f.toInt = 0 ∨ ¬ e1f.toInt = i1.toInt ∨ ¬ e2f.toInt = i2.toInt)) (zNF (i1.toInt = 0 ∧ 0 < (fk 0).toInt ∧ (0 ≤ i2.toInt ∧ i2.toInt < (fk 2).toInt ∧ i2.toInt < 2) ∧ (e0f.toInt = 0 ∨ ¬ e1f.toInt = i1.toInt ∨ ¬ e2f.toInt = i2.toInt)) m1f (zMw mdA wyA cr0_ inn0_ k10_)) (zMw mdB wyB cr1_ inn1_ k11_) - m1f); omega) (fun b1 H locs hw G => ?_)
        refine zEx5 hw ?_
        intro w2_222 s3_223 s4_224 s5_225 g1_226
        refine zCu3 ?_
        intro hbs9 h_227 h_228
        clear hw
        subst hbs9
        have G : zS T A s.heap s [z0_, wg1_, wwA, wt, [zO10 xo t im mk rd po co tr wa wb_ fi cd], w2_222, w2_206, z1_, wg0_] _ _ := G
        have h39 := h_228
        refine lv_aload_n hx hb dX11_fit_77 rfl (lv_at hl 2 rfl) ?_
        refine z_get C G clX11 4 rfl 9 (by decide) m_fl_RX11_65 rfl dX11_fit_78 ?_
        refine lv_iload_n hx hb dX11_fit_81 rfl (lv_at hl 3 rfl) ?_
        refine zEx2 h_227 ?_
        intro a1_230 a2_231 hbs9
        clear h_227
        subst hbs9
        have G : zS T A s.heap s [z0_, wg1_, wwA, wt, [zO10 xo t im mk rd po co tr wa wb_ fi cd], [zO3 fi e0f e1f e2f s3_223 s4_224 s5_225 a1_230 a2_231], [zAr T 0 a1_230 (zFl m1f wy2_208) g1_226], [zAr T 0 a2_231 7 r2f], w2_206, z1_, wg0_] _ _ := G.re rfl
        refine z_put C G clX3 5 rfl 1 (by decide) m_fl_RX11_292 rfl rfl rfl (Nat.le_of_ble_eq_true rfl) dX11_fit_82 (fun H locs G => ?_)
        have G : zS T A s.heap s [z0_, wg1_, wwA, wt, [zO10 xo t im mk rd po co tr wa wb_ fi cd], [zO3 fi e0f i1 e2f s3_223 s4_224 s5_225 a1_230 a2_231], [zAr T 0 a1_230 (zFl m1f wy2_208) g1_226], [zAr T 0 a2_231 7 r2f], w2_206, z1_, wg0_] _ _ := G
        refine lv_aload_n hx hb dX11_fit_85 rfl (lv_at hl 2 rfl) ?_
        refine z_get C G clX11 4 rfl 9 (by decide) m_fl_RX11_65 rfl dX11_fit_86 ?_
        refine lv_iload_n hx hb dX11_fit_89 rfl (lv_at hl 4 rfl) ?_
        refine z_put C G clX3 5 rfl 2 (by decide) m_fl_RX11_295 rfl rfl rfl (Nat.le_of_ble_eq_true rfl) dX11_fit_90 (fun H locs G => ?_)
        have G : zS T A s.heap s [z0_, wg1_, wwA, wt, [zO10 xo t im mk rd po co tr wa wb_ fi cd], [zO3 fi e0f i1 i2 s3_223 s4_224 s5_225 a1_230 a2_231], [zAr T 0 a1_230 (zFl m1f wy2_208) g1_226], [zAr T 0 a2_231 7 r2f], w2_206, z1_, wg0_] _ _ := G
        refine lv_aload_n hx hb dX11_fit_93 rfl (lv_at hl 2 rfl) ?_
        refine z_get C G clX11 4 rfl 9 (by decide) m_fl_RX11_65 rfl dX11_fit_94 ?_
        refine lv_iconst (v := 1) hx hb dX11_fit_97 (by decide) ?_
        refine z_put C G clX3 5 rfl 0 (by decide) m_fl_RX11_109 rfl rfl rfl (Nat.le_of_ble_eq_true rfl) dX11_fit_98 (fun H locs G => ?_)
        have G : zS T A s.heap s [z0_, wg1_, wwA, wt, [zO10 xo t im mk rd po co tr wa wb_ fi cd], [zO3 fi 1 i1 i2 s3_223 s4_224 s5_225 a1_230 a2_231], [zAr T 0 a1_230 (zFl m1f wy2_208) g1_226], [zAr T 0 a2_231 7 r2f], w2_206, z1_, wg0_] _ _ := G
        refine lv_iconst (v := 1) hx hb dX11_fit_101 (by decide) ?_
        have hw_232 : bFit T fi 1 i1 i2 s3_223 s4_224 s5_225 g1_226 (zFl m1f wy2_208) r2f [zO3 fi 1 i1 i2 s3_223 s4_224 s5_225 a1_230 a2_231, zAr T 0 a1_230 (zFl m1f wy2_208) g1_226, zAr T 0 a2_231 7 r2f] := ⟨a1_230, a2_231, rfl⟩
        have G : zS T A s.heap s [z0_, wg1_, wwA, wt, [zO10 xo t im mk rd po co tr wa wb_ fi cd], [zO3 fi 1 i1 i2 s3_223 s4_224 s5_225 a1_230 a2_231, zAr T 0 a1_230 (zFl m1f wy2_208) g1_226, zAr T 0 a2_231 7 r2f], w2_206, z1_, wg0_] _ _ := G.re rfl
        have G := G.sub (bs' := [[zO10 xo t im mk rd po co tr wa wb_ fi cd], wt, z0_, z1_, wg0_, wg1_, wwA, w2_206, [zO3 fi 1 i1 i2 s3_223 s4_224 s5_225 a1_230 a2_231, zAr T 0 a1_230 (zFl m1f wy2_208) g1_226, zAr T 0 a2_231 7 r2f]]) [4, 3, 0, 7, 8, 1, 2, 6, 5] rfl
        exact z_back hQz_ (z_zret C hr hlocks G (Nat.le_of_ble_eq_true rfl) (by omega) dX11_fit_102 rfl ⟨laA, mdA, wyA, pc_A, f1A, f2A, f3A, f4A, f5A, f6A, n4A, wwA, l1, m2_207, wy2_208, pc2_209, g1_210, g2_211, f3B, g4_212, g5_213, g6_214, (zMk mdB n4B (zPl cr1_ inn1_ k11_)), w2_206, 1, i1, i2, s3_223, s4_224, s5_225, g1_226, (zFl m1f wy2_208), r2f, ([zO3 fi 1 i1 i2 s3_223 s4_224 s5_225 a1_230 a2_231, zAr T 0 a1_230 (zFl m1f wy2_208) g1_226, zAr T 0 a2_231 7 r2f]), rfl, hwwA, hmdA, hwmA, (zNA_n (by omega)).symm, hpwA, (fun q => q), h_216, (Or.inr rfl), hwy9, hNAm.symm, (zMk_pw hpwB), (fun _ => h_219), hw_232, hNF.symm, hfw9, h39, (Or.inr ⟨rfl, by omega, by decide, rfl⟩), (fun _ => Or.inr ⟨by omega, h_219⟩)⟩)
      · have c_205n : ¬ e0f.toInt = (0 : Int) := fun q => c_205 ((fa_eq _ _).mpr q)
        refine lv_aload_n hx hb dX11_fit_40 rfl (lv_at hl 2 rfl) ?_
        refine z_get C G clX11 0 rfl 9 (by decide) m_fl_RX11_65 rfl dX11_fit_41 ?_
        refine z_get C G clX3 7 rfl 1 (by decide) m_fl_RX11_292 rfl dX11_fit_44 ?_
        refine lv_iload_n hx hb dX11_fit_47 rfl (lv_at hl 3 rfl) ?_
        refine lv_icmp_ne (tgt := 62) hx hb dX11_fit_48 (by decide) (fun c_233 => ?_) (fun c_233 => ?_)
        · have c_233n : ¬ e1f.toInt = i1.toInt := fun q => c_233 ((fa_eq _ _).mpr q)
          refine lv_aload_n hx hb dX11_fit_62 rfl (lv_at hl 2 rfl) ?_
          refine z_get C G clX11 0 rfl 9 (by decide) m_fl_RX11_65 rfl dX11_fit_63 ?_
          refine lv_aload_n hx hb dX11_fit_66 rfl (lv_at hl 2 rfl) ?_
          refine lv_iload_n hx hb dX11_fit_67 rfl (lv_at hl 3 rfl) ?_
          refine lv_aload_n hx hb dX11_fit_68 rfl (lv_at hl 1 rfl) ?_
          have hcF : (i1.toInt = 1 ∧ 1 < (fk 0).toInt ∧ (0 ≤ i2.toInt ∧ i2.toInt < (fk 2).toInt ∧ i2.toInt < 2) ∧ (e0f.toInt = 0 ∨ ¬ e1f.toInt = i1.toInt ∨ ¬ e2f.toInt = i2.toInt)) := by omega
          have hcN : ¬ (i1.toInt = 0 ∧ 0 < (fk 0).toInt ∧ (0 ≤ i2.toInt ∧ i2.toInt < (fk 2).toInt ∧ i2.toInt < 2) ∧ (e0f.toInt = 0 ∨ ¬ e1f.toInt = i1.toInt ∨ ¬ e2f.toInt = i2.toInt)) := by omega
          have hNAm : zNA (i1.toInt = 1 ∧ 1 < (fk 0).toInt ∧ (0 ≤ i2.toInt ∧ i2.toInt < (fk 2).toInt ∧ i2.toInt < 2) ∧ (e0f.toInt = 0 ∨ ¬ e1f.toInt = i1.toInt ∨ ¬ e2f.toInt = i2.toInt)) mdB n4B (zPl cr1_ inn1_ k11_) = zMk mdB n4B (zPl cr1_ inn1_ k11_) := zNA_y hcF
          have hNAo : zNA (i1.toInt = 0 ∧ 0 < (fk 0).toInt ∧ (0 ≤ i2.toInt ∧ i2.toInt < (fk 2).toInt ∧ i2.toInt < 2) ∧ (e0f.toInt = 0 ∨ ¬ e1f.toInt = i1.toInt ∨ ¬ e2f.toInt = i2.toInt)) mdA n4A (zPl cr0_ inn0_ k10_) = n4A := zNA_n hcN
          have hn9 : zMk mdB n4B (zPl cr1_ inn1_ k11_) ≤ 131072 := zPw_le (zMk_pw hpwB)
          refine z_Vq (bc := [[zO10 xo t im mk rd po co tr wa wb_ fi cd], wwB, z1_]) (br := [z0_, wg0_, wg1_, wwA, [zO3 fi e0f e1f e2f e3f e4f e5f a1_203 a2_204], [zAr T 0 a1_203 m1f r1f], [zAr T 0 a2_204 7 r2f], wt]) (As := [.int i1, .ref l1]) (rest := [.ref fi]) C G (c_waysInB l T xo t im mk rd po co tr wa wb_ fi cd i1 laB mdB wyB pc_B f1B f2B f3B f4B f5B f6B n4B wwB l1 cr1_ inn1_ k11_ k21_ k31_ k41_ z1_ hwwB hz1_ hI1_ hpwB hmdB hwmB (by omega)) (kV_RX11_235 C.2.2.2.2 (Nat.le_of_ble_eq_true rfl) (Nat.le_of_ble_eq_true rfl)) [0, 6, 2] [0, 1, 3] rfl rfl (ci := 10) (qc := (RX11, TX11, 11)) rfl rfl (List.mem_flatten.mpr ⟨_, List.mem_of_getElem? (i := 0) rfl, List.mem_cons_self⟩) rfl rfl hl.1 dX11_fit_69 (Nat.le_of_ble_eq_true rfl) (by show _ + (6 * (zMk mdB n4B (zPl cr1_ inn1_ k11_) - n4B)) ≤ 6 * (zNA (i1.toInt = 0 ∧ 0 < (fk 0).toInt ∧ (0 ≤ i2.toInt ∧ i2.toInt < (fk 2).toInt ∧ i2.toInt < 2) ∧ (e0f.toInt = 0 ∨ ¬ e1f.toInt = i1.toInt ∨ ¬ e2f.toInt = i2.toInt)) mdA n4A (zPl cr0_ inn0_ k10_) - n4A) + 6 * (zNA (i1.toInt = 1 ∧ 1 < (fk 0).toInt ∧ (0 ≤ i2.toInt ∧ i2.toInt < (fk 2).toInt ∧ i2.toInt < 2) ∧ (e0f.toInt = 0 ∨ ¬ e1f.toInt = i1.toInt ∨ ¬ e2f.toInt = i2.toInt)) mdB n4B (zPl cr1_ inn1_ k11_) - n4B) + 2 * (zNF (i1.toInt = 1 ∧ 1 < (fk 0).toInt ∧ (0 ≤ i2.toInt ∧ i2.toInt < (fk 2).toInt ∧ i2.toInt < 2) ∧ (e0f.toInt = 0 ∨ ¬ e1f.toInt = i1.toInt ∨ ¬ e2f.toInt = i2.toInt)) (zNF (i1.toInt = 0 ∧ 0 < (fk 0).toInt ∧ (0 ≤ i2.toInt ∧ i2.toInt < (fk 2).toInt ∧ i2.toInt < 2) ∧ (e0f.toInt = 0 ∨ ¬ e1f.toInt = i1.toInt ∨ ¬ e2f.toInt = i2.toInt)) m1f (zMw mdA wyA cr0_ inn0_ k10_)) (zMw mdB wyB cr1_ inn1_ k11_) - m1f); omega) (fun r_248 b1 H locs hw G => ?_)
          refine zEx9 hw ?_
          intro w2_234 m2_235 wy2_236 pc2_237 g1_238 g2_239 g4_240 g5_241 g6_242
          refine zCu6 ?_
          intro hbs9 h_243 h_244 h_245 h_246 h_247
          clear hw
          subst hbs9
          have G : zS T A s.heap s [z0_, wg0_, wg1_, wwA, [zO3 fi e0f e1f e2f e3f e4f e5f a1_203 a2_204], [zAr T 0 a1_203 m1f r1f], [zAr T 0 a2_204 7 r2f], wt, [zO10 xo t im mk rd po co tr wa wb_ fi cd], w2_234, z1_] _ _ := G
          subst h_243
          have hwy9 := h_245
          have hNF : zNF (i1.toInt = 1 ∧ 1 < (fk 0).toInt ∧ (0 ≤ i2.toInt ∧ i2.toInt < (fk 2).toInt ∧ i2.toInt < 2) ∧ (e0f.toInt = 0 ∨ ¬ e1f.toInt = i1.toInt ∨ ¬ e2f.toInt = i2.toInt)) (zNF (i1.toInt = 0 ∧ 0 < (fk 0).toInt ∧ (0 ≤ i2.toInt ∧ i2.toInt < (fk 2).toInt ∧ i2.toInt < 2) ∧ (e0f.toInt = 0 ∨ ¬ e1f.toInt = i1.toInt ∨ ¬ e2f.toInt = i2.toInt)) m1f (zMw mdA wyA cr0_ inn0_ k10_)) (zMw mdB wyB cr1_ inn1_ k11_) = zFl m1f wy2_236 := by rw [zNF_y (c := (i1.toInt = 1 ∧ 1 < (fk 0).toInt ∧ (0 ≤ i2.toInt ∧ i2.toInt < (fk 2).toInt ∧ i2.toInt < 2) ∧ (e0f.toInt = 0 ∨ ¬ e1f.toInt = i1.toInt ∨ ¬ e2f.toInt = i2.toInt))) hcF, zNF_n (c := (i1.toInt = 0 ∧ 0 < (fk 0).toInt ∧ (0 ≤ i2.toInt ∧ i2.toInt < (fk 2).toInt ∧ i2.toInt < 2) ∧ (e0f.toInt = 0 ∨ ¬ e1f.toInt = i1.toInt ∨ ¬ e2f.toInt = i2.toInt))) hcN, h_246]
          have hfw9 := zFl_pw (wy := wy2_236) hfw
          refine lv_aload hx hb dX11_fit_72 (lv_at hl 0 rfl) ?_
          have hw_249 : bFit T fi e0f e1f e2f e3f e4f e5f r1f m1f r2f [zO3 fi e0f e1f e2f e3f e4f e5f a1_203 a2_204, zAr T 0 a1_203 m1f r1f, zAr T 0 a2_204 7 r2f] := ⟨a1_203, a2_204, rfl⟩
          have G : zS T A s.heap s [z0_, wg0_, wg1_, wwA, [zO3 fi e0f e1f e2f e3f e4f e5f a1_203 a2_204, zAr T 0 a1_203 m1f r1f, zAr T 0 a2_204 7 r2f], wt, [zO10 xo t im mk rd po co tr wa wb_ fi cd], w2_234, z1_] _ _ := G.re rfl
          refine z_Vv (bc := [[zO3 fi e0f e1f e2f e3f e4f e5f a1_203 a2_204, zAr T 0 a1_203 m1f r1f, zAr T 0 a2_204 7 r2f], w2_234, z1_, wg0_]) (br := [z0_, wg1_, wwA, wt, [zO10 xo t im mk rd po co tr wa wb_ fi cd]]) (As := [.ref wb_, .ref g0]) (rest := []) C G (c_find l T fi e0f e1f e2f e3f e4f e5f r1f m1f r2f ([zO3 fi e0f e1f e2f e3f e4f e5f a1_203 a2_204, zAr T 0 a1_203 m1f r1f, zAr T 0 a2_204 7 r2f]) wb_ l1 m2_235 wy2_236 pc2_237 g1_238 g2_239 f3B g4_240 g5_241 g6_242 (zMk mdB n4B (zPl cr1_ inn1_ k11_)) w2_234 cr1_ inn1_ k11_ k21_ k31_ k41_ z1_ g0 gg0_ q10_ q20_ wg0_ hw_249 h_244 hz1_ hg0_ hn9 hfw hwy9) (kV_RX11_298 C.2.2.2.2 (Nat.le_of_ble_eq_true rfl) (Nat.le_of_ble_eq_true rfl)) [4, 7, 8, 1] [1, 2, 2, 0] rfl rfl (ci := 3) (qc := (RX3, TX3, 8)) rfl rfl (List.mem_flatten.mpr ⟨_, List.mem_of_getElem? (i := 0) rfl, (bFit_mem hw_249).choose_spec⟩) rfl rfl hl.1 dX11_fit_74 (Nat.le_of_ble_eq_true rfl) (by show _ + (2 * (zFl m1f wy2_236 - m1f)) ≤ 6 * (zNA (i1.toInt = 0 ∧ 0 < (fk 0).toInt ∧ (0 ≤ i2.toInt ∧ i2.toInt < (fk 2).toInt ∧ i2.toInt < 2) ∧ (e0f.toInt = 0 ∨ ¬ e1f.toInt = i1.toInt ∨ ¬ e2f.toInt = i2.toInt)) mdA n4A (zPl cr0_ inn0_ k10_) - n4A) + 6 * (zNA (i1.toInt = 1 ∧ 1 < (fk 0).toInt ∧ (0 ≤ i2.toInt ∧ i2.toInt < (fk 2).toInt ∧ i2.toInt < 2) ∧ (e0f.toInt = 0 ∨ ¬ e1f.toInt = i1.toInt ∨ ¬ e2f.toInt = i2.toInt)) mdB n4B (zPl cr1_ inn1_ k11_) - n4B) + 2 * (zNF (i1.toInt = 1 ∧ 1 < (fk 0).toInt ∧ (0 ≤ i2.toInt ∧ i2.toInt < (fk 2).toInt ∧ i2.toInt < 2) ∧ (e0f.toInt = 0 ∨ ¬ e1f.toInt = i1.toInt ∨ ¬ e2f.toInt = i2.toInt)) (zNF (i1.toInt = 0 ∧ 0 < (fk 0).toInt ∧ (0 ≤ i2.toInt ∧ i2.toInt < (fk 2).toInt ∧ i2.toInt < 2) ∧ (e0f.toInt = 0 ∨ ¬ e1f.toInt = i1.toInt ∨ ¬ e2f.toInt = i2.toInt)) m1f (zMw mdA wyA cr0_ inn0_ k10_)) (zMw mdB wyB cr1_ inn1_ k11_) - m1f); omega) (fun b1 H locs hw G => ?_)
          refine zEx5 hw ?_
          intro w2_250 s3_251 s4_252 s5_253 g1_254
          refine zCu3 ?_
          intro hbs9 h_255 h_256
          clear hw
          subst hbs9
          have G : zS T A s.heap s [z0_, wg1_, wwA, wt, [zO10 xo t im mk rd po co tr wa wb_ fi cd], w2_250, w2_234, z1_, wg0_] _ _ := G
          have h39 := h_256
          refine lv_aload_n hx hb dX11_fit_77 rfl (lv_at hl 2 rfl) ?_
          refine z_get C G clX11 4 rfl 9 (by decide) m_fl_RX11_65 rfl dX11_fit_78 ?_
          refine lv_iload_n hx hb dX11_fit_81 rfl (lv_at hl 3 rfl) ?_
          refine zEx2 h_255 ?_
          intro a1_258 a2_259 hbs9
          clear h_255
          subst hbs9
          have G : zS T A s.heap s [z0_, wg1_, wwA, wt, [zO10 xo t im mk rd po co tr wa wb_ fi cd], [zO3 fi e0f e1f e2f s3_251 s4_252 s5_253 a1_258 a2_259], [zAr T 0 a1_258 (zFl m1f wy2_236) g1_254], [zAr T 0 a2_259 7 r2f], w2_234, z1_, wg0_] _ _ := G.re rfl
          refine z_put C G clX3 5 rfl 1 (by decide) m_fl_RX11_292 rfl rfl rfl (Nat.le_of_ble_eq_true rfl) dX11_fit_82 (fun H locs G => ?_)
          have G : zS T A s.heap s [z0_, wg1_, wwA, wt, [zO10 xo t im mk rd po co tr wa wb_ fi cd], [zO3 fi e0f i1 e2f s3_251 s4_252 s5_253 a1_258 a2_259], [zAr T 0 a1_258 (zFl m1f wy2_236) g1_254], [zAr T 0 a2_259 7 r2f], w2_234, z1_, wg0_] _ _ := G
          refine lv_aload_n hx hb dX11_fit_85 rfl (lv_at hl 2 rfl) ?_
          refine z_get C G clX11 4 rfl 9 (by decide) m_fl_RX11_65 rfl dX11_fit_86 ?_
          refine lv_iload_n hx hb dX11_fit_89 rfl (lv_at hl 4 rfl) ?_
          refine z_put C G clX3 5 rfl 2 (by decide) m_fl_RX11_295 rfl rfl rfl (Nat.le_of_ble_eq_true rfl) dX11_fit_90 (fun H locs G => ?_)
          have G : zS T A s.heap s [z0_, wg1_, wwA, wt, [zO10 xo t im mk rd po co tr wa wb_ fi cd], [zO3 fi e0f i1 i2 s3_251 s4_252 s5_253 a1_258 a2_259], [zAr T 0 a1_258 (zFl m1f wy2_236) g1_254], [zAr T 0 a2_259 7 r2f], w2_234, z1_, wg0_] _ _ := G
          refine lv_aload_n hx hb dX11_fit_93 rfl (lv_at hl 2 rfl) ?_
          refine z_get C G clX11 4 rfl 9 (by decide) m_fl_RX11_65 rfl dX11_fit_94 ?_
          refine lv_iconst (v := 1) hx hb dX11_fit_97 (by decide) ?_
          refine z_put C G clX3 5 rfl 0 (by decide) m_fl_RX11_109 rfl rfl rfl (Nat.le_of_ble_eq_true rfl) dX11_fit_98 (fun H locs G => ?_)
          have G : zS T A s.heap s [z0_, wg1_, wwA, wt, [zO10 xo t im mk rd po co tr wa wb_ fi cd], [zO3 fi 1 i1 i2 s3_251 s4_252 s5_253 a1_258 a2_259], [zAr T 0 a1_258 (zFl m1f wy2_236) g1_254], [zAr T 0 a2_259 7 r2f], w2_234, z1_, wg0_] _ _ := G
          refine lv_iconst (v := 1) hx hb dX11_fit_101 (by decide) ?_
          have hw_260 : bFit T fi 1 i1 i2 s3_251 s4_252 s5_253 g1_254 (zFl m1f wy2_236) r2f [zO3 fi 1 i1 i2 s3_251 s4_252 s5_253 a1_258 a2_259, zAr T 0 a1_258 (zFl m1f wy2_236) g1_254, zAr T 0 a2_259 7 r2f] := ⟨a1_258, a2_259, rfl⟩
          have G : zS T A s.heap s [z0_, wg1_, wwA, wt, [zO10 xo t im mk rd po co tr wa wb_ fi cd], [zO3 fi 1 i1 i2 s3_251 s4_252 s5_253 a1_258 a2_259, zAr T 0 a1_258 (zFl m1f wy2_236) g1_254, zAr T 0 a2_259 7 r2f], w2_234, z1_, wg0_] _ _ := G.re rfl
          have G := G.sub (bs' := [[zO10 xo t im mk rd po co tr wa wb_ fi cd], wt, z0_, z1_, wg0_, wg1_, wwA, w2_234, [zO3 fi 1 i1 i2 s3_251 s4_252 s5_253 a1_258 a2_259, zAr T 0 a1_258 (zFl m1f wy2_236) g1_254, zAr T 0 a2_259 7 r2f]]) [4, 3, 0, 7, 8, 1, 2, 6, 5] rfl
          exact z_back hQz_ (z_zret C hr hlocks G (Nat.le_of_ble_eq_true rfl) (by omega) dX11_fit_102 rfl ⟨laA, mdA, wyA, pc_A, f1A, f2A, f3A, f4A, f5A, f6A, n4A, wwA, l1, m2_235, wy2_236, pc2_237, g1_238, g2_239, f3B, g4_240, g5_241, g6_242, (zMk mdB n4B (zPl cr1_ inn1_ k11_)), w2_234, 1, i1, i2, s3_251, s4_252, s5_253, g1_254, (zFl m1f wy2_236), r2f, ([zO3 fi 1 i1 i2 s3_251 s4_252 s5_253 a1_258 a2_259, zAr T 0 a1_258 (zFl m1f wy2_236) g1_254, zAr T 0 a2_259 7 r2f]), rfl, hwwA, hmdA, hwmA, (zNA_n (by omega)).symm, hpwA, (fun q => q), h_244, (Or.inr rfl), hwy9, hNAm.symm, (zMk_pw hpwB), (fun _ => h_247), hw_260, hNF.symm, hfw9, h39, (Or.inr ⟨rfl, by omega, by decide, rfl⟩), (fun _ => Or.inr ⟨by omega, h_247⟩)⟩)
        · have c_233n : e1f.toInt = i1.toInt := (fa_eq _ _).mp c_233
          refine lv_aload_n hx hb dX11_fit_51 rfl (lv_at hl 2 rfl) ?_
          refine z_get C G clX11 0 rfl 9 (by decide) m_fl_RX11_65 rfl dX11_fit_52 ?_
          refine z_get C G clX3 7 rfl 2 (by decide) m_fl_RX11_295 rfl dX11_fit_55 ?_
          refine lv_iload_n hx hb dX11_fit_58 rfl (lv_at hl 4 rfl) ?_
          refine lv_icmp_eq (tgt := 101) hx hb dX11_fit_59 (by decide) (fun c_261 => ?_) (fun c_261 => ?_)
          · have c_261n : e2f.toInt = i2.toInt := (fa_eq _ _).mp c_261
            refine lv_iconst (v := 1) hx hb dX11_fit_101 (by decide) ?_
            have hw_262 : bFit T fi e0f e1f e2f e3f e4f e5f r1f m1f r2f [zO3 fi e0f e1f e2f e3f e4f e5f a1_203 a2_204, zAr T 0 a1_203 m1f r1f, zAr T 0 a2_204 7 r2f] := ⟨a1_203, a2_204, rfl⟩
            have G : zS T A s.heap s [[zO10 xo t im mk rd po co tr wa wb_ fi cd], z0_, z1_, wg0_, wg1_, wwA, wwB, [zO3 fi e0f e1f e2f e3f e4f e5f a1_203 a2_204, zAr T 0 a1_203 m1f r1f, zAr T 0 a2_204 7 r2f], wt] _ _ := G.re rfl
            have G := G.sub (bs' := [[zO10 xo t im mk rd po co tr wa wb_ fi cd], wt, z0_, z1_, wg0_, wg1_, wwA, wwB, [zO3 fi e0f e1f e2f e3f e4f e5f a1_203 a2_204, zAr T 0 a1_203 m1f r1f, zAr T 0 a2_204 7 r2f]]) [0, 8, 1, 2, 3, 4, 5, 6, 7] rfl
            exact z_back hQz_ (z_zret C hr hlocks G (Nat.le_of_ble_eq_true rfl) (by omega) dX11_fit_102 rfl ⟨laA, mdA, wyA, pc_A, f1A, f2A, f3A, f4A, f5A, f6A, n4A, wwA, laB, mdB, wyB, pc_B, f1B, f2B, f3B, f4B, f5B, f6B, n4B, wwB, e0f, e1f, e2f, e3f, e4f, e5f, r1f, m1f, r2f, ([zO3 fi e0f e1f e2f e3f e4f e5f a1_203 a2_204, zAr T 0 a1_203 m1f r1f, zAr T 0 a2_204 7 r2f]), rfl, hwwA, hmdA, hwmA, (zNA_n (by omega)).symm, hpwA, (fun q => q), hwwB, hmdB, hwmB, (zNA_n (by omega)).symm, hpwB, (fun q => q), hw_262, (((zNF_n (c := (i1.toInt = 1 ∧ 1 < (fk 0).toInt ∧ (0 ≤ i2.toInt ∧ i2.toInt < (fk 2).toInt ∧ i2.toInt < 2) ∧ (e0f.toInt = 0 ∨ ¬ e1f.toInt = i1.toInt ∨ ¬ e2f.toInt = i2.toInt))) (by omega)).trans (zNF_n (by omega))).symm), hfw, hf3, (Or.inr ⟨rfl, by omega, (fun q => absurd (congrArg Int32.toInt q) (by show ¬ _ = (0 : Int); omega)), by omega⟩), hFI⟩)
          · have c_261n : ¬ e2f.toInt = i2.toInt := fun q => c_261 ((fa_eq _ _).mpr q)
            refine lv_aload_n hx hb dX11_fit_62 rfl (lv_at hl 2 rfl) ?_
            refine z_get C G clX11 0 rfl 9 (by decide) m_fl_RX11_65 rfl dX11_fit_63 ?_
            refine lv_aload_n hx hb dX11_fit_66 rfl (lv_at hl 2 rfl) ?_
            refine lv_iload_n hx hb dX11_fit_67 rfl (lv_at hl 3 rfl) ?_
            refine lv_aload_n hx hb dX11_fit_68 rfl (lv_at hl 1 rfl) ?_
            have hcF : (i1.toInt = 1 ∧ 1 < (fk 0).toInt ∧ (0 ≤ i2.toInt ∧ i2.toInt < (fk 2).toInt ∧ i2.toInt < 2) ∧ (e0f.toInt = 0 ∨ ¬ e1f.toInt = i1.toInt ∨ ¬ e2f.toInt = i2.toInt)) := by omega
            have hcN : ¬ (i1.toInt = 0 ∧ 0 < (fk 0).toInt ∧ (0 ≤ i2.toInt ∧ i2.toInt < (fk 2).toInt ∧ i2.toInt < 2) ∧ (e0f.toInt = 0 ∨ ¬ e1f.toInt = i1.toInt ∨ ¬ e2f.toInt = i2.toInt)) := by omega
            have hNAm : zNA (i1.toInt = 1 ∧ 1 < (fk 0).toInt ∧ (0 ≤ i2.toInt ∧ i2.toInt < (fk 2).toInt ∧ i2.toInt < 2) ∧ (e0f.toInt = 0 ∨ ¬ e1f.toInt = i1.toInt ∨ ¬ e2f.toInt = i2.toInt)) mdB n4B (zPl cr1_ inn1_ k11_) = zMk mdB n4B (zPl cr1_ inn1_ k11_) := zNA_y hcF
            have hNAo : zNA (i1.toInt = 0 ∧ 0 < (fk 0).toInt ∧ (0 ≤ i2.toInt ∧ i2.toInt < (fk 2).toInt ∧ i2.toInt < 2) ∧ (e0f.toInt = 0 ∨ ¬ e1f.toInt = i1.toInt ∨ ¬ e2f.toInt = i2.toInt)) mdA n4A (zPl cr0_ inn0_ k10_) = n4A := zNA_n hcN
            have hn9 : zMk mdB n4B (zPl cr1_ inn1_ k11_) ≤ 131072 := zPw_le (zMk_pw hpwB)
            refine z_Vq (bc := [[zO10 xo t im mk rd po co tr wa wb_ fi cd], wwB, z1_]) (br := [z0_, wg0_, wg1_, wwA, [zO3 fi e0f e1f e2f e3f e4f e5f a1_203 a2_204], [zAr T 0 a1_203 m1f r1f], [zAr T 0 a2_204 7 r2f], wt]) (As := [.int i1, .ref l1]) (rest := [.ref fi]) C G (c_waysInB l T xo t im mk rd po co tr wa wb_ fi cd i1 laB mdB wyB pc_B f1B f2B f3B f4B f5B f6B n4B wwB l1 cr1_ inn1_ k11_ k21_ k31_ k41_ z1_ hwwB hz1_ hI1_ hpwB hmdB hwmB (by omega)) (kV_RX11_235 C.2.2.2.2 (Nat.le_of_ble_eq_true rfl) (Nat.le_of_ble_eq_true rfl)) [0, 6, 2] [0, 1, 3] rfl rfl (ci := 10) (qc := (RX11, TX11, 11)) rfl rfl (List.mem_flatten.mpr ⟨_, List.mem_of_getElem? (i := 0) rfl, List.mem_cons_self⟩) rfl rfl hl.1 dX11_fit_69 (Nat.le_of_ble_eq_true rfl) (by show _ + (6 * (zMk mdB n4B (zPl cr1_ inn1_ k11_) - n4B)) ≤ 6 * (zNA (i1.toInt = 0 ∧ 0 < (fk 0).toInt ∧ (0 ≤ i2.toInt ∧ i2.toInt < (fk 2).toInt ∧ i2.toInt < 2) ∧ (e0f.toInt = 0 ∨ ¬ e1f.toInt = i1.toInt ∨ ¬ e2f.toInt = i2.toInt)) mdA n4A (zPl cr0_ inn0_ k10_) - n4A) + 6 * (zNA (i1.toInt = 1 ∧ 1 < (fk 0).toInt ∧ (0 ≤ i2.toInt ∧ i2.toInt < (fk 2).toInt ∧ i2.toInt < 2) ∧ (e0f.toInt = 0 ∨ ¬ e1f.toInt = i1.toInt ∨ ¬ e2f.toInt = i2.toInt)) mdB n4B (zPl cr1_ inn1_ k11_) - n4B) + 2 * (zNF (i1.toInt = 1 ∧ 1 < (fk 0).toInt ∧ (0 ≤ i2.toInt ∧ i2.toInt < (fk 2).toInt ∧ i2.toInt < 2) ∧ (e0f.toInt = 0 ∨ ¬ e1f.toInt = i1.toInt ∨ ¬ e2f.toInt = i2.toInt)) (zNF (i1.toInt = 0 ∧ 0 < (fk 0).toInt ∧ (0 ≤ i2.toInt ∧ i2.toInt < (fk 2).toInt ∧ i2.toInt < 2) ∧ (e0f.toInt = 0 ∨ ¬ e1f.toInt = i1.toInt ∨ ¬ e2f.toInt = i2.toInt)) m1f (zMw mdA wyA cr0_ inn0_ k10_)) (zMw mdB wyB cr1_ inn1_ k11_) - m1f); omega) (fun r_277 b1 H locs hw G => ?_)
            refine zEx9 hw ?_
            intro w2_263 m2_264 wy2_265 pc2_266 g1_267 g2_268 g4_269 g5_270 g6_271
            refine zCu6 ?_
            intro hbs9 h_272 h_273 h_274 h_275 h_276
            clear hw
            subst hbs9
            have G : zS T A s.heap s [z0_, wg0_, wg1_, wwA, [zO3 fi e0f e1f e2f e3f e4f e5f a1_203 a2_204], [zAr T 0 a1_203 m1f r1f], [zAr T 0 a2_204 7 r2f], wt, [zO10 xo t im mk rd po co tr wa wb_ fi cd], w2_263, z1_] _ _ := G
            subst h_272
            have hwy9 := h_274
            have hNF : zNF (i1.toInt = 1 ∧ 1 < (fk 0).toInt ∧ (0 ≤ i2.toInt ∧ i2.toInt < (fk 2).toInt ∧ i2.toInt < 2) ∧ (e0f.toInt = 0 ∨ ¬ e1f.toInt = i1.toInt ∨ ¬ e2f.toInt = i2.toInt)) (zNF (i1.toInt = 0 ∧ 0 < (fk 0).toInt ∧ (0 ≤ i2.toInt ∧ i2.toInt < (fk 2).toInt ∧ i2.toInt < 2) ∧ (e0f.toInt = 0 ∨ ¬ e1f.toInt = i1.toInt ∨ ¬ e2f.toInt = i2.toInt)) m1f (zMw mdA wyA cr0_ inn0_ k10_)) (zMw mdB wyB cr1_ inn1_ k11_) = zFl m1f wy2_265 := by rw [zNF_y (c := (i1.toInt = 1 ∧ 1 < (fk 0).toInt ∧ (0 ≤ i2.toInt ∧ i2.toInt < (fk 2).toInt ∧ i2.toInt < 2) ∧ (e0f.toInt = 0 ∨ ¬ e1f.toInt = i1.toInt ∨ ¬ e2f.toInt = i2.toInt))) hcF, zNF_n (c := (i1.toInt = 0 ∧ 0 < (fk 0).toInt ∧ (0 ≤ i2.toInt ∧ i2.toInt < (fk 2).toInt ∧ i2.toInt < 2) ∧ (e0f.toInt = 0 ∨ ¬ e1f.toInt = i1.toInt ∨ ¬ e2f.toInt = i2.toInt))) hcN, h_275]
            have hfw9 := zFl_pw (wy := wy2_265) hfw
            refine lv_aload hx hb dX11_fit_72 (lv_at hl 0 rfl) ?_
            have hw_278 : bFit T fi e0f e1f e2f e3f e4f e5f r1f m1f r2f [zO3 fi e0f e1f e2f e3f e4f e5f a1_203 a2_204, zAr T 0 a1_203 m1f r1f, zAr T 0 a2_204 7 r2f] := ⟨a1_203, a2_204, rfl⟩
            have G : zS T A s.heap s [z0_, wg0_, wg1_, wwA, [zO3 fi e0f e1f e2f e3f e4f e5f a1_203 a2_204, zAr T 0 a1_203 m1f r1f, zAr T 0 a2_204 7 r2f], wt, [zO10 xo t im mk rd po co tr wa wb_ fi cd], w2_263, z1_] _ _ := G.re rfl
            refine z_Vv (bc := [[zO3 fi e0f e1f e2f e3f e4f e5f a1_203 a2_204, zAr T 0 a1_203 m1f r1f, zAr T 0 a2_204 7 r2f], w2_263, z1_, wg0_]) (br := [z0_, wg1_, wwA, wt, [zO10 xo t im mk rd po co tr wa wb_ fi cd]]) (As := [.ref wb_, .ref g0]) (rest := []) C G (c_find l T fi e0f e1f e2f e3f e4f e5f r1f m1f r2f ([zO3 fi e0f e1f e2f e3f e4f e5f a1_203 a2_204, zAr T 0 a1_203 m1f r1f, zAr T 0 a2_204 7 r2f]) wb_ l1 m2_264 wy2_265 pc2_266 g1_267 g2_268 f3B g4_269 g5_270 g6_271 (zMk mdB n4B (zPl cr1_ inn1_ k11_)) w2_263 cr1_ inn1_ k11_ k21_ k31_ k41_ z1_ g0 gg0_ q10_ q20_ wg0_ hw_278 h_273 hz1_ hg0_ hn9 hfw hwy9) (kV_RX11_298 C.2.2.2.2 (Nat.le_of_ble_eq_true rfl) (Nat.le_of_ble_eq_true rfl)) [4, 7, 8, 1] [1, 2, 2, 0] rfl rfl (ci := 3) (qc := (RX3, TX3, 8)) rfl rfl (List.mem_flatten.mpr ⟨_, List.mem_of_getElem? (i := 0) rfl, (bFit_mem hw_278).choose_spec⟩) rfl rfl hl.1 dX11_fit_74 (Nat.le_of_ble_eq_true rfl) (by show _ + (2 * (zFl m1f wy2_265 - m1f)) ≤ 6 * (zNA (i1.toInt = 0 ∧ 0 < (fk 0).toInt ∧ (0 ≤ i2.toInt ∧ i2.toInt < (fk 2).toInt ∧ i2.toInt < 2) ∧ (e0f.toInt = 0 ∨ ¬ e1f.toInt = i1.toInt ∨ ¬ e2f.toInt = i2.toInt)) mdA n4A (zPl cr0_ inn0_ k10_) - n4A) + 6 * (zNA (i1.toInt = 1 ∧ 1 < (fk 0).toInt ∧ (0 ≤ i2.toInt ∧ i2.toInt < (fk 2).toInt ∧ i2.toInt < 2) ∧ (e0f.toInt = 0 ∨ ¬ e1f.toInt = i1.toInt ∨ ¬ e2f.toInt = i2.toInt)) mdB n4B (zPl cr1_ inn1_ k11_) - n4B) + 2 * (zNF (i1.toInt = 1 ∧ 1 < (fk 0).toInt ∧ (0 ≤ i2.toInt ∧ i2.toInt < (fk 2).toInt ∧ i2.toInt < 2) ∧ (e0f.toInt = 0 ∨ ¬ e1f.toInt = i1.toInt ∨ ¬ e2f.toInt = i2.toInt)) (zNF (i1.toInt = 0 ∧ 0 < (fk 0).toInt ∧ (0 ≤ i2.toInt ∧ i2.toInt < (fk 2).toInt ∧ i2.toInt < 2) ∧ (e0f.toInt = 0 ∨ ¬ e1f.toInt = i1.toInt ∨ ¬ e2f.toInt = i2.toInt)) m1f (zMw mdA wyA cr0_ inn0_ k10_)) (zMw mdB wyB cr1_ inn1_ k11_) - m1f); omega) (fun b1 H locs hw G => ?_)
            refine zEx5 hw ?_
            intro w2_279 s3_280 s4_281 s5_282 g1_283
            refine zCu3 ?_
            intro hbs9 h_284 h_285
            clear hw
            subst hbs9
            have G : zS T A s.heap s [z0_, wg1_, wwA, wt, [zO10 xo t im mk rd po co tr wa wb_ fi cd], w2_279, w2_263, z1_, wg0_] _ _ := G
            have h39 := h_285
            refine lv_aload_n hx hb dX11_fit_77 rfl (lv_at hl 2 rfl) ?_
            refine z_get C G clX11 4 rfl 9 (by decide) m_fl_RX11_65 rfl dX11_fit_78 ?_
            refine lv_iload_n hx hb dX11_fit_81 rfl (lv_at hl 3 rfl) ?_
            refine zEx2 h_284 ?_
            intro a1_287 a2_288 hbs9
            clear h_284
            subst hbs9
            have G : zS T A s.heap s [z0_, wg1_, wwA, wt, [zO10 xo t im mk rd po co tr wa wb_ fi cd], [zO3 fi e0f e1f e2f s3_280 s4_281 s5_282 a1_287 a2_288], [zAr T 0 a1_287 (zFl m1f wy2_265) g1_283], [zAr T 0 a2_288 7 r2f], w2_263, z1_, wg0_] _ _ := G.re rfl
            refine z_put C G clX3 5 rfl 1 (by decide) m_fl_RX11_292 rfl rfl rfl (Nat.le_of_ble_eq_true rfl) dX11_fit_82 (fun H locs G => ?_)
            have G : zS T A s.heap s [z0_, wg1_, wwA, wt, [zO10 xo t im mk rd po co tr wa wb_ fi cd], [zO3 fi e0f i1 e2f s3_280 s4_281 s5_282 a1_287 a2_288], [zAr T 0 a1_287 (zFl m1f wy2_265) g1_283], [zAr T 0 a2_288 7 r2f], w2_263, z1_, wg0_] _ _ := G
            refine lv_aload_n hx hb dX11_fit_85 rfl (lv_at hl 2 rfl) ?_
            refine z_get C G clX11 4 rfl 9 (by decide) m_fl_RX11_65 rfl dX11_fit_86 ?_
            refine lv_iload_n hx hb dX11_fit_89 rfl (lv_at hl 4 rfl) ?_
            refine z_put C G clX3 5 rfl 2 (by decide) m_fl_RX11_295 rfl rfl rfl (Nat.le_of_ble_eq_true rfl) dX11_fit_90 (fun H locs G => ?_)
            have G : zS T A s.heap s [z0_, wg1_, wwA, wt, [zO10 xo t im mk rd po co tr wa wb_ fi cd], [zO3 fi e0f i1 i2 s3_280 s4_281 s5_282 a1_287 a2_288], [zAr T 0 a1_287 (zFl m1f wy2_265) g1_283], [zAr T 0 a2_288 7 r2f], w2_263, z1_, wg0_] _ _ := G
            refine lv_aload_n hx hb dX11_fit_93 rfl (lv_at hl 2 rfl) ?_
            refine z_get C G clX11 4 rfl 9 (by decide) m_fl_RX11_65 rfl dX11_fit_94 ?_
            refine lv_iconst (v := 1) hx hb dX11_fit_97 (by decide) ?_
            refine z_put C G clX3 5 rfl 0 (by decide) m_fl_RX11_109 rfl rfl rfl (Nat.le_of_ble_eq_true rfl) dX11_fit_98 (fun H locs G => ?_)
            have G : zS T A s.heap s [z0_, wg1_, wwA, wt, [zO10 xo t im mk rd po co tr wa wb_ fi cd], [zO3 fi 1 i1 i2 s3_280 s4_281 s5_282 a1_287 a2_288], [zAr T 0 a1_287 (zFl m1f wy2_265) g1_283], [zAr T 0 a2_288 7 r2f], w2_263, z1_, wg0_] _ _ := G
            refine lv_iconst (v := 1) hx hb dX11_fit_101 (by decide) ?_
            have hw_289 : bFit T fi 1 i1 i2 s3_280 s4_281 s5_282 g1_283 (zFl m1f wy2_265) r2f [zO3 fi 1 i1 i2 s3_280 s4_281 s5_282 a1_287 a2_288, zAr T 0 a1_287 (zFl m1f wy2_265) g1_283, zAr T 0 a2_288 7 r2f] := ⟨a1_287, a2_288, rfl⟩
            have G : zS T A s.heap s [z0_, wg1_, wwA, wt, [zO10 xo t im mk rd po co tr wa wb_ fi cd], [zO3 fi 1 i1 i2 s3_280 s4_281 s5_282 a1_287 a2_288, zAr T 0 a1_287 (zFl m1f wy2_265) g1_283, zAr T 0 a2_288 7 r2f], w2_263, z1_, wg0_] _ _ := G.re rfl
            have G := G.sub (bs' := [[zO10 xo t im mk rd po co tr wa wb_ fi cd], wt, z0_, z1_, wg0_, wg1_, wwA, w2_263, [zO3 fi 1 i1 i2 s3_280 s4_281 s5_282 a1_287 a2_288, zAr T 0 a1_287 (zFl m1f wy2_265) g1_283, zAr T 0 a2_288 7 r2f]]) [4, 3, 0, 7, 8, 1, 2, 6, 5] rfl
            exact z_back hQz_ (z_zret C hr hlocks G (Nat.le_of_ble_eq_true rfl) (by omega) dX11_fit_102 rfl ⟨laA, mdA, wyA, pc_A, f1A, f2A, f3A, f4A, f5A, f6A, n4A, wwA, l1, m2_264, wy2_265, pc2_266, g1_267, g2_268, f3B, g4_269, g5_270, g6_271, (zMk mdB n4B (zPl cr1_ inn1_ k11_)), w2_263, 1, i1, i2, s3_280, s4_281, s5_282, g1_283, (zFl m1f wy2_265), r2f, ([zO3 fi 1 i1 i2 s3_280 s4_281 s5_282 a1_287 a2_288, zAr T 0 a1_287 (zFl m1f wy2_265) g1_283, zAr T 0 a2_288 7 r2f]), rfl, hwwA, hmdA, hwmA, (zNA_n (by omega)).symm, hpwA, (fun q => q), h_273, (Or.inr rfl), hwy9, hNAm.symm, (zMk_pw hpwB), (fun _ => h_276), hw_289, hNF.symm, hfw9, h39, (Or.inr ⟨rfl, by omega, by decide, rfl⟩), (fun _ => Or.inr ⟨by omega, h_276⟩)⟩)
    · have h_201 : i2.toInt = 1 := h_201
      have h_202 : 1 < (fk 2).toInt := h_202
      refine lv_astore (lv' := [(4, .ref g1), (3, .ref l1), (0, .ref xo), (1, .int i1), (2, .int i2)]) hx hb dX11_fit_17 hl (by decide) (zLvf_h rfl) (fun ls hl => ?_)
      refine lv_aload_n hx hb dX11_fit_19 rfl (lv_at hl 1 rfl) ?_
      refine lv_ifnull hx hb dX11_fit_20 ?_
      refine lv_aload hx hb dX11_fit_23 (lv_at hl 0 rfl) ?_
      refine lv_ifnonnull (tgt := 30) hx hb dX11_fit_25 (by decide) ?_
      refine lv_aload_n hx hb dX11_fit_30 rfl (lv_at hl 2 rfl) ?_
      refine z_get C G clX11 0 rfl 9 (by decide) m_fl_RX11_65 rfl dX11_fit_31 ?_
      refine zEx2 hwff ?_
      intro a1_290 a2_291 hbs9
      clear hwff
      subst hbs9
      have G : zS T A s.heap s [[zO10 xo t im mk rd po co tr wa wb_ fi cd], z0_, z1_, wg0_, wg1_, wwA, wwB, [zO3 fi e0f e1f e2f e3f e4f e5f a1_290 a2_291], [zAr T 0 a1_290 m1f r1f], [zAr T 0 a2_291 7 r2f], wt] _ _ := G.re rfl
      refine z_get C G clX3 7 rfl 0 (by decide) m_fl_RX11_109 rfl dX11_fit_34 ?_
      refine lv_if_eq (tgt := 62) hx hb dX11_fit_37 (by decide) (fun c_292 => ?_) (fun c_292 => ?_)
      · have c_292n : e0f.toInt = (0 : Int) := (fa_eq _ _).mp c_292
        refine lv_aload_n hx hb dX11_fit_62 rfl (lv_at hl 2 rfl) ?_
        refine z_get C G clX11 0 rfl 9 (by decide) m_fl_RX11_65 rfl dX11_fit_63 ?_
        refine lv_aload_n hx hb dX11_fit_66 rfl (lv_at hl 2 rfl) ?_
        refine lv_iload_n hx hb dX11_fit_67 rfl (lv_at hl 3 rfl) ?_
        refine lv_aload_n hx hb dX11_fit_68 rfl (lv_at hl 1 rfl) ?_
        have hcF : (i1.toInt = 1 ∧ 1 < (fk 0).toInt ∧ (0 ≤ i2.toInt ∧ i2.toInt < (fk 2).toInt ∧ i2.toInt < 2) ∧ (e0f.toInt = 0 ∨ ¬ e1f.toInt = i1.toInt ∨ ¬ e2f.toInt = i2.toInt)) := by omega
        have hcN : ¬ (i1.toInt = 0 ∧ 0 < (fk 0).toInt ∧ (0 ≤ i2.toInt ∧ i2.toInt < (fk 2).toInt ∧ i2.toInt < 2) ∧ (e0f.toInt = 0 ∨ ¬ e1f.toInt = i1.toInt ∨ ¬ e2f.toInt = i2.toInt)) := by omega
        have hNAm : zNA (i1.toInt = 1 ∧ 1 < (fk 0).toInt ∧ (0 ≤ i2.toInt ∧ i2.toInt < (fk 2).toInt ∧ i2.toInt < 2) ∧ (e0f.toInt = 0 ∨ ¬ e1f.toInt = i1.toInt ∨ ¬ e2f.toInt = i2.toInt)) mdB n4B (zPl cr1_ inn1_ k11_) = zMk mdB n4B (zPl cr1_ inn1_ k11_) := zNA_y hcF
        have hNAo : zNA (i1.toInt = 0 ∧ 0 < (fk 0).toInt ∧ (0 ≤ i2.toInt ∧ i2.toInt < (fk 2).toInt ∧ i2.toInt < 2) ∧ (e0f.toInt = 0 ∨ ¬ e1f.toInt = i1.toInt ∨ ¬ e2f.toInt = i2.toInt)) mdA n4A (zPl cr0_ inn0_ k10_) = n4A := zNA_n hcN
        have hn9 : zMk mdB n4B (zPl cr1_ inn1_ k11_) ≤ 131072 := zPw_le (zMk_pw hpwB)
        refine z_Vq (bc := [[zO10 xo t im mk rd po co tr wa wb_ fi cd], wwB, z1_]) (br := [z0_, wg0_, wg1_, wwA, [zO3 fi e0f e1f e2f e3f e4f e5f a1_290 a2_291], [zAr T 0 a1_290 m1f r1f], [zAr T 0 a2_291 7 r2f], wt]) (As := [.int i1, .ref l1]) (rest := [.ref fi]) C G (c_waysInB l T xo t im mk rd po co tr wa wb_ fi cd i1 laB mdB wyB pc_B f1B f2B f3B f4B f5B f6B n4B wwB l1 cr1_ inn1_ k11_ k21_ k31_ k41_ z1_ hwwB hz1_ hI1_ hpwB hmdB hwmB (by omega)) (kV_RX11_235 C.2.2.2.2 (Nat.le_of_ble_eq_true rfl) (Nat.le_of_ble_eq_true rfl)) [0, 6, 2] [0, 1, 3] rfl rfl (ci := 10) (qc := (RX11, TX11, 11)) rfl rfl (List.mem_flatten.mpr ⟨_, List.mem_of_getElem? (i := 0) rfl, List.mem_cons_self⟩) rfl rfl hl.1 dX11_fit_69 (Nat.le_of_ble_eq_true rfl) (by show _ + (6 * (zMk mdB n4B (zPl cr1_ inn1_ k11_) - n4B)) ≤ 6 * (zNA (i1.toInt = 0 ∧ 0 < (fk 0).toInt ∧ (0 ≤ i2.toInt ∧ i2.toInt < (fk 2).toInt ∧ i2.toInt < 2) ∧ (e0f.toInt = 0 ∨ ¬ e1f.toInt = i1.toInt ∨ ¬ e2f.toInt = i2.toInt)) mdA n4A (zPl cr0_ inn0_ k10_) - n4A) + 6 * (zNA (i1.toInt = 1 ∧ 1 < (fk 0).toInt ∧ (0 ≤ i2.toInt ∧ i2.toInt < (fk 2).toInt ∧ i2.toInt < 2) ∧ (e0f.toInt = 0 ∨ ¬ e1f.toInt = i1.toInt ∨ ¬ e2f.toInt = i2.toInt)) mdB n4B (zPl cr1_ inn1_ k11_) - n4B) + 2 * (zNF (i1.toInt = 1 ∧ 1 < (fk 0).toInt ∧ (0 ≤ i2.toInt ∧ i2.toInt < (fk 2).toInt ∧ i2.toInt < 2) ∧ (e0f.toInt = 0 ∨ ¬ e1f.toInt = i1.toInt ∨ ¬ e2f.toInt = i2.toInt)) (zNF (i1.toInt = 0 ∧ 0 < (fk 0).toInt ∧ (0 ≤ i2.toInt ∧ i2.toInt < (fk 2).toInt ∧ i2.toInt < 2) ∧ (e0f.toInt = 0 ∨ ¬ e1f.toInt = i1.toInt ∨ ¬ e2f.toInt = i2.toInt)) m1f (zMw mdA wyA cr0_ inn0_ k10_)) (zMw mdB wyB cr1_ inn1_ k11_) - m1f); omega) (fun r_307 b1 H locs hw G => ?_)
        refine zEx9 hw ?_
        intro w2_293 m2_294 wy2_295 pc2_296 g1_297 g2_298 g4_299 g5_300 g6_301
        refine zCu6 ?_
        intro hbs9 h_302 h_303 h_304 h_305 h_306
        clear hw
        subst hbs9
        have G : zS T A s.heap s [z0_, wg0_, wg1_, wwA, [zO3 fi e0f e1f e2f e3f e4f e5f a1_290 a2_291], [zAr T 0 a1_290 m1f r1f], [zAr T 0 a2_291 7 r2f], wt, [zO10 xo t im mk rd po co tr wa wb_ fi cd], w2_293, z1_] _ _ := G
        subst h_302
        have hwy9 := h_304
        have hNF : zNF (i1.toInt = 1 ∧ 1 < (fk 0).toInt ∧ (0 ≤ i2.toInt ∧ i2.toInt < (fk 2).toInt ∧ i2.toInt < 2) ∧ (e0f.toInt = 0 ∨ ¬ e1f.toInt = i1.toInt ∨ ¬ e2f.toInt = i2.toInt)) (zNF (i1.toInt = 0 ∧ 0 < (fk 0).toInt ∧ (0 ≤ i2.toInt ∧ i2.toInt < (fk 2).toInt ∧ i2.toInt < 2) ∧ (e0f.toInt = 0 ∨ ¬ e1f.toInt = i1.toInt ∨ ¬ e2f.toInt = i2.toInt)) m1f (zMw mdA wyA cr0_ inn0_ k10_)) (zMw mdB wyB cr1_ inn1_ k11_) = zFl m1f wy2_295 := by rw [zNF_y (c := (i1.toInt = 1 ∧ 1 < (fk 0).toInt ∧ (0 ≤ i2.toInt ∧ i2.toInt < (fk 2).toInt ∧ i2.toInt < 2) ∧ (e0f.toInt = 0 ∨ ¬ e1f.toInt = i1.toInt ∨ ¬ e2f.toInt = i2.toInt))) hcF, zNF_n (c := (i1.toInt = 0 ∧ 0 < (fk 0).toInt ∧ (0 ≤ i2.toInt ∧ i2.toInt < (fk 2).toInt ∧ i2.toInt < 2) ∧ (e0f.toInt = 0 ∨ ¬ e1f.toInt = i1.toInt ∨ ¬ e2f.toInt = i2.toInt))) hcN, h_305]
        have hfw9 := zFl_pw (wy := wy2_295) hfw
        refine lv_aload hx hb dX11_fit_72 (lv_at hl 0 rfl) ?_
        have hw_308 : bFit T fi e0f e1f e2f e3f e4f e5f r1f m1f r2f [zO3 fi e0f e1f e2f e3f e4f e5f a1_290 a2_291, zAr T 0 a1_290 m1f r1f, zAr T 0 a2_291 7 r2f] := ⟨a1_290, a2_291, rfl⟩
        have G : zS T A s.heap s [z0_, wg0_, wg1_, wwA, [zO3 fi e0f e1f e2f e3f e4f e5f a1_290 a2_291, zAr T 0 a1_290 m1f r1f, zAr T 0 a2_291 7 r2f], wt, [zO10 xo t im mk rd po co tr wa wb_ fi cd], w2_293, z1_] _ _ := G.re rfl
        refine z_Vv (bc := [[zO3 fi e0f e1f e2f e3f e4f e5f a1_290 a2_291, zAr T 0 a1_290 m1f r1f, zAr T 0 a2_291 7 r2f], w2_293, z1_, wg1_]) (br := [z0_, wg0_, wwA, wt, [zO10 xo t im mk rd po co tr wa wb_ fi cd]]) (As := [.ref wb_, .ref g1]) (rest := []) C G (c_find l T fi e0f e1f e2f e3f e4f e5f r1f m1f r2f ([zO3 fi e0f e1f e2f e3f e4f e5f a1_290 a2_291, zAr T 0 a1_290 m1f r1f, zAr T 0 a2_291 7 r2f]) wb_ l1 m2_294 wy2_295 pc2_296 g1_297 g2_298 f3B g4_299 g5_300 g6_301 (zMk mdB n4B (zPl cr1_ inn1_ k11_)) w2_293 cr1_ inn1_ k11_ k21_ k31_ k41_ z1_ g1 gg1_ q11_ q21_ wg1_ hw_308 h_303 hz1_ hg1_ hn9 hfw hwy9) (kV_RX11_298 C.2.2.2.2 (Nat.le_of_ble_eq_true rfl) (Nat.le_of_ble_eq_true rfl)) [4, 7, 8, 2] [2, 1, 2, 0] rfl rfl (ci := 3) (qc := (RX3, TX3, 8)) rfl rfl (List.mem_flatten.mpr ⟨_, List.mem_of_getElem? (i := 0) rfl, (bFit_mem hw_308).choose_spec⟩) rfl rfl hl.1 dX11_fit_74 (Nat.le_of_ble_eq_true rfl) (by show _ + (2 * (zFl m1f wy2_295 - m1f)) ≤ 6 * (zNA (i1.toInt = 0 ∧ 0 < (fk 0).toInt ∧ (0 ≤ i2.toInt ∧ i2.toInt < (fk 2).toInt ∧ i2.toInt < 2) ∧ (e0f.toInt = 0 ∨ ¬ e1f.toInt = i1.toInt ∨ ¬ e2f.toInt = i2.toInt)) mdA n4A (zPl cr0_ inn0_ k10_) - n4A) + 6 * (zNA (i1.toInt = 1 ∧ 1 < (fk 0).toInt ∧ (0 ≤ i2.toInt ∧ i2.toInt < (fk 2).toInt ∧ i2.toInt < 2) ∧ (e0f.toInt = 0 ∨ ¬ e1f.toInt = i1.toInt ∨ ¬ e2f.toInt = i2.toInt)) mdB n4B (zPl cr1_ inn1_ k11_) - n4B) + 2 * (zNF (i1.toInt = 1 ∧ 1 < (fk 0).toInt ∧ (0 ≤ i2.toInt ∧ i2.toInt < (fk 2).toInt ∧ i2.toInt < 2) ∧ (e0f.toInt = 0 ∨ ¬ e1f.toInt = i1.toInt ∨ ¬ e2f.toInt = i2.toInt)) (zNF (i1.toInt = 0 ∧ 0 < (fk 0).toInt ∧ (0 ≤ i2.toInt ∧ i2.toInt < (fk 2).toInt ∧ i2.toInt < 2) ∧ (e0f.toInt = 0 ∨ ¬ e1f.toInt = i1.toInt ∨ ¬ e2f.toInt = i2.toInt)) m1f (zMw mdA wyA cr0_ inn0_ k10_)) (zMw mdB wyB cr1_ inn1_ k11_) - m1f); omega) (fun b1 H locs hw G => ?_)
        refine zEx5 hw ?_
        intro w2_309 s3_310 s4_311 s5_312 g1_313
        refine zCu3 ?_
        intro hbs9 h_314 h_315
        clear hw
        subst hbs9
        have G : zS T A s.heap s [z0_, wg0_, wwA, wt, [zO10 xo t im mk rd po co tr wa wb_ fi cd], w2_309, w2_293, z1_, wg1_] _ _ := G
        have h39 := h_315
        refine lv_aload_n hx hb dX11_fit_77 rfl (lv_at hl 2 rfl) ?_
        refine z_get C G clX11 4 rfl 9 (by decide) m_fl_RX11_65 rfl dX11_fit_78 ?_
        refine lv_iload_n hx hb dX11_fit_81 rfl (lv_at hl 3 rfl) ?_
        refine zEx2 h_314 ?_
        intro a1_317 a2_318 hbs9
        clear h_314
        subst hbs9
        have G : zS T A s.heap s [z0_, wg0_, wwA, wt, [zO10 xo t im mk rd po co tr wa wb_ fi cd], [zO3 fi e0f e1f e2f s3_310 s4_311 s5_312 a1_317 a2_318], [zAr T 0 a1_317 (zFl m1f wy2_295) g1_313], [zAr T 0 a2_318 7 r2f], w2_293, z1_, wg1_] _ _ := G.re rfl
        refine z_put C G clX3 5 rfl 1 (by decide) m_fl_RX11_292 rfl rfl rfl (Nat.le_of_ble_eq_true rfl) dX11_fit_82 (fun H locs G => ?_)
        have G : zS T A s.heap s [z0_, wg0_, wwA, wt, [zO10 xo t im mk rd po co tr wa wb_ fi cd], [zO3 fi e0f i1 e2f s3_310 s4_311 s5_312 a1_317 a2_318], [zAr T 0 a1_317 (zFl m1f wy2_295) g1_313], [zAr T 0 a2_318 7 r2f], w2_293, z1_, wg1_] _ _ := G
        refine lv_aload_n hx hb dX11_fit_85 rfl (lv_at hl 2 rfl) ?_
        refine z_get C G clX11 4 rfl 9 (by decide) m_fl_RX11_65 rfl dX11_fit_86 ?_
        refine lv_iload_n hx hb dX11_fit_89 rfl (lv_at hl 4 rfl) ?_
        refine z_put C G clX3 5 rfl 2 (by decide) m_fl_RX11_295 rfl rfl rfl (Nat.le_of_ble_eq_true rfl) dX11_fit_90 (fun H locs G => ?_)
        have G : zS T A s.heap s [z0_, wg0_, wwA, wt, [zO10 xo t im mk rd po co tr wa wb_ fi cd], [zO3 fi e0f i1 i2 s3_310 s4_311 s5_312 a1_317 a2_318], [zAr T 0 a1_317 (zFl m1f wy2_295) g1_313], [zAr T 0 a2_318 7 r2f], w2_293, z1_, wg1_] _ _ := G
        refine lv_aload_n hx hb dX11_fit_93 rfl (lv_at hl 2 rfl) ?_
        refine z_get C G clX11 4 rfl 9 (by decide) m_fl_RX11_65 rfl dX11_fit_94 ?_
        refine lv_iconst (v := 1) hx hb dX11_fit_97 (by decide) ?_
        refine z_put C G clX3 5 rfl 0 (by decide) m_fl_RX11_109 rfl rfl rfl (Nat.le_of_ble_eq_true rfl) dX11_fit_98 (fun H locs G => ?_)
        have G : zS T A s.heap s [z0_, wg0_, wwA, wt, [zO10 xo t im mk rd po co tr wa wb_ fi cd], [zO3 fi 1 i1 i2 s3_310 s4_311 s5_312 a1_317 a2_318], [zAr T 0 a1_317 (zFl m1f wy2_295) g1_313], [zAr T 0 a2_318 7 r2f], w2_293, z1_, wg1_] _ _ := G
        refine lv_iconst (v := 1) hx hb dX11_fit_101 (by decide) ?_
        have hw_319 : bFit T fi 1 i1 i2 s3_310 s4_311 s5_312 g1_313 (zFl m1f wy2_295) r2f [zO3 fi 1 i1 i2 s3_310 s4_311 s5_312 a1_317 a2_318, zAr T 0 a1_317 (zFl m1f wy2_295) g1_313, zAr T 0 a2_318 7 r2f] := ⟨a1_317, a2_318, rfl⟩
        have G : zS T A s.heap s [z0_, wg0_, wwA, wt, [zO10 xo t im mk rd po co tr wa wb_ fi cd], [zO3 fi 1 i1 i2 s3_310 s4_311 s5_312 a1_317 a2_318, zAr T 0 a1_317 (zFl m1f wy2_295) g1_313, zAr T 0 a2_318 7 r2f], w2_293, z1_, wg1_] _ _ := G.re rfl
        have G := G.sub (bs' := [[zO10 xo t im mk rd po co tr wa wb_ fi cd], wt, z0_, z1_, wg0_, wg1_, wwA, w2_293, [zO3 fi 1 i1 i2 s3_310 s4_311 s5_312 a1_317 a2_318, zAr T 0 a1_317 (zFl m1f wy2_295) g1_313, zAr T 0 a2_318 7 r2f]]) [4, 3, 0, 7, 1, 8, 2, 6, 5] rfl
        exact z_back hQz_ (z_zret C hr hlocks G (Nat.le_of_ble_eq_true rfl) (by omega) dX11_fit_102 rfl ⟨laA, mdA, wyA, pc_A, f1A, f2A, f3A, f4A, f5A, f6A, n4A, wwA, l1, m2_294, wy2_295, pc2_296, g1_297, g2_298, f3B, g4_299, g5_300, g6_301, (zMk mdB n4B (zPl cr1_ inn1_ k11_)), w2_293, 1, i1, i2, s3_310, s4_311, s5_312, g1_313, (zFl m1f wy2_295), r2f, ([zO3 fi 1 i1 i2 s3_310 s4_311 s5_312 a1_317 a2_318, zAr T 0 a1_317 (zFl m1f wy2_295) g1_313, zAr T 0 a2_318 7 r2f]), rfl, hwwA, hmdA, hwmA, (zNA_n (by omega)).symm, hpwA, (fun q => q), h_303, (Or.inr rfl), hwy9, hNAm.symm, (zMk_pw hpwB), (fun _ => h_306), hw_319, hNF.symm, hfw9, h39, (Or.inr ⟨rfl, by omega, by decide, rfl⟩), (fun _ => Or.inr ⟨by omega, h_306⟩)⟩)
      · have c_292n : ¬ e0f.toInt = (0 : Int) := fun q => c_292 ((fa_eq _ _).mpr q)
        refine lv_aload_n hx hb dX11_fit_40 rfl (lv_at hl 2 rfl) ?_
        refine z_get C G clX11 0 rfl 9 (by decide) m_fl_RX11_65 rfl dX11_fit_41 ?_
        refine z_get C G clX3 7 rfl 1 (by decide) m_fl_RX11_292 rfl dX11_fit_44 ?_
        refine lv_iload_n hx hb dX11_fit_47 rfl (lv_at hl 3 rfl) ?_
        refine lv_icmp_ne (tgt := 62) hx hb dX11_fit_48 (by decide) (fun c_320 => ?_) (fun c_320 => ?_)
        · have c_320n : ¬ e1f.toInt = i1.toInt := fun q => c_320 ((fa_eq _ _).mpr q)
          refine lv_aload_n hx hb dX11_fit_62 rfl (lv_at hl 2 rfl) ?_
          refine z_get C G clX11 0 rfl 9 (by decide) m_fl_RX11_65 rfl dX11_fit_63 ?_
          refine lv_aload_n hx hb dX11_fit_66 rfl (lv_at hl 2 rfl) ?_
          refine lv_iload_n hx hb dX11_fit_67 rfl (lv_at hl 3 rfl) ?_
          refine lv_aload_n hx hb dX11_fit_68 rfl (lv_at hl 1 rfl) ?_
          have hcF : (i1.toInt = 1 ∧ 1 < (fk 0).toInt ∧ (0 ≤ i2.toInt ∧ i2.toInt < (fk 2).toInt ∧ i2.toInt < 2) ∧ (e0f.toInt = 0 ∨ ¬ e1f.toInt = i1.toInt ∨ ¬ e2f.toInt = i2.toInt)) := by omega
          have hcN : ¬ (i1.toInt = 0 ∧ 0 < (fk 0).toInt ∧ (0 ≤ i2.toInt ∧ i2.toInt < (fk 2).toInt ∧ i2.toInt < 2) ∧ (e0f.toInt = 0 ∨ ¬ e1f.toInt = i1.toInt ∨ ¬ e2f.toInt = i2.toInt)) := by omega
          have hNAm : zNA (i1.toInt = 1 ∧ 1 < (fk 0).toInt ∧ (0 ≤ i2.toInt ∧ i2.toInt < (fk 2).toInt ∧ i2.toInt < 2) ∧ (e0f.toInt = 0 ∨ ¬ e1f.toInt = i1.toInt ∨ ¬ e2f.toInt = i2.toInt)) mdB n4B (zPl cr1_ inn1_ k11_) = zMk mdB n4B (zPl cr1_ inn1_ k11_) := zNA_y hcF
          have hNAo : zNA (i1.toInt = 0 ∧ 0 < (fk 0).toInt ∧ (0 ≤ i2.toInt ∧ i2.toInt < (fk 2).toInt ∧ i2.toInt < 2) ∧ (e0f.toInt = 0 ∨ ¬ e1f.toInt = i1.toInt ∨ ¬ e2f.toInt = i2.toInt)) mdA n4A (zPl cr0_ inn0_ k10_) = n4A := zNA_n hcN
          have hn9 : zMk mdB n4B (zPl cr1_ inn1_ k11_) ≤ 131072 := zPw_le (zMk_pw hpwB)
          refine z_Vq (bc := [[zO10 xo t im mk rd po co tr wa wb_ fi cd], wwB, z1_]) (br := [z0_, wg0_, wg1_, wwA, [zO3 fi e0f e1f e2f e3f e4f e5f a1_290 a2_291], [zAr T 0 a1_290 m1f r1f], [zAr T 0 a2_291 7 r2f], wt]) (As := [.int i1, .ref l1]) (rest := [.ref fi]) C G (c_waysInB l T xo t im mk rd po co tr wa wb_ fi cd i1 laB mdB wyB pc_B f1B f2B f3B f4B f5B f6B n4B wwB l1 cr1_ inn1_ k11_ k21_ k31_ k41_ z1_ hwwB hz1_ hI1_ hpwB hmdB hwmB (by omega)) (kV_RX11_235 C.2.2.2.2 (Nat.le_of_ble_eq_true rfl) (Nat.le_of_ble_eq_true rfl)) [0, 6, 2] [0, 1, 3] rfl rfl (ci := 10) (qc := (RX11, TX11, 11)) rfl rfl (List.mem_flatten.mpr ⟨_, List.mem_of_getElem? (i := 0) rfl, List.mem_cons_self⟩) rfl rfl hl.1 dX11_fit_69 (Nat.le_of_ble_eq_true rfl) (by show _ + (6 * (zMk mdB n4B (zPl cr1_ inn1_ k11_) - n4B)) ≤ 6 * (zNA (i1.toInt = 0 ∧ 0 < (fk 0).toInt ∧ (0 ≤ i2.toInt ∧ i2.toInt < (fk 2).toInt ∧ i2.toInt < 2) ∧ (e0f.toInt = 0 ∨ ¬ e1f.toInt = i1.toInt ∨ ¬ e2f.toInt = i2.toInt)) mdA n4A (zPl cr0_ inn0_ k10_) - n4A) + 6 * (zNA (i1.toInt = 1 ∧ 1 < (fk 0).toInt ∧ (0 ≤ i2.toInt ∧ i2.toInt < (fk 2).toInt ∧ i2.toInt < 2) ∧ (e0f.toInt = 0 ∨ ¬ e1f.toInt = i1.toInt ∨ ¬ e2f.toInt = i2.toInt)) mdB n4B (zPl cr1_ inn1_ k11_) - n4B) + 2 * (zNF (i1.toInt = 1 ∧ 1 < (fk 0).toInt ∧ (0 ≤ i2.toInt ∧ i2.toInt < (fk 2).toInt ∧ i2.toInt < 2) ∧ (e0f.toInt = 0 ∨ ¬ e1f.toInt = i1.toInt ∨ ¬ e2f.toInt = i2.toInt)) (zNF (i1.toInt = 0 ∧ 0 < (fk 0).toInt ∧ (0 ≤ i2.toInt ∧ i2.toInt < (fk 2).toInt ∧ i2.toInt < 2) ∧ (e0f.toInt = 0 ∨ ¬ e1f.toInt = i1.toInt ∨ ¬ e2f.toInt = i2.toInt)) m1f (zMw mdA wyA cr0_ inn0_ k10_)) (zMw mdB wyB cr1_ inn1_ k11_) - m1f); omega) (fun r_335 b1 H locs hw G => ?_)
          refine zEx9 hw ?_
          intro w2_321 m2_322 wy2_323 pc2_324 g1_325 g2_326 g4_327 g5_328 g6_329
          refine zCu6 ?_
          intro hbs9 h_330 h_331 h_332 h_333 h_334
          clear hw
          subst hbs9
          have G : zS T A s.heap s [z0_, wg0_, wg1_, wwA, [zO3 fi e0f e1f e2f e3f e4f e5f a1_290 a2_291], [zAr T 0 a1_290 m1f r1f], [zAr T 0 a2_291 7 r2f], wt, [zO10 xo t im mk rd po co tr wa wb_ fi cd], w2_321, z1_] _ _ := G
          subst h_330
          have hwy9 := h_332
          have hNF : zNF (i1.toInt = 1 ∧ 1 < (fk 0).toInt ∧ (0 ≤ i2.toInt ∧ i2.toInt < (fk 2).toInt ∧ i2.toInt < 2) ∧ (e0f.toInt = 0 ∨ ¬ e1f.toInt = i1.toInt ∨ ¬ e2f.toInt = i2.toInt)) (zNF (i1.toInt = 0 ∧ 0 < (fk 0).toInt ∧ (0 ≤ i2.toInt ∧ i2.toInt < (fk 2).toInt ∧ i2.toInt < 2) ∧ (e0f.toInt = 0 ∨ ¬ e1f.toInt = i1.toInt ∨ ¬ e2f.toInt = i2.toInt)) m1f (zMw mdA wyA cr0_ inn0_ k10_)) (zMw mdB wyB cr1_ inn1_ k11_) = zFl m1f wy2_323 := by rw [zNF_y (c := (i1.toInt = 1 ∧ 1 < (fk 0).toInt ∧ (0 ≤ i2.toInt ∧ i2.toInt < (fk 2).toInt ∧ i2.toInt < 2) ∧ (e0f.toInt = 0 ∨ ¬ e1f.toInt = i1.toInt ∨ ¬ e2f.toInt = i2.toInt))) hcF, zNF_n (c := (i1.toInt = 0 ∧ 0 < (fk 0).toInt ∧ (0 ≤ i2.toInt ∧ i2.toInt < (fk 2).toInt ∧ i2.toInt < 2) ∧ (e0f.toInt = 0 ∨ ¬ e1f.toInt = i1.toInt ∨ ¬ e2f.toInt = i2.toInt))) hcN, h_333]
          have hfw9 := zFl_pw (wy := wy2_323) hfw
          refine lv_aload hx hb dX11_fit_72 (lv_at hl 0 rfl) ?_
          have hw_336 : bFit T fi e0f e1f e2f e3f e4f e5f r1f m1f r2f [zO3 fi e0f e1f e2f e3f e4f e5f a1_290 a2_291, zAr T 0 a1_290 m1f r1f, zAr T 0 a2_291 7 r2f] := ⟨a1_290, a2_291, rfl⟩
          have G : zS T A s.heap s [z0_, wg0_, wg1_, wwA, [zO3 fi e0f e1f e2f e3f e4f e5f a1_290 a2_291, zAr T 0 a1_290 m1f r1f, zAr T 0 a2_291 7 r2f], wt, [zO10 xo t im mk rd po co tr wa wb_ fi cd], w2_321, z1_] _ _ := G.re rfl
          refine z_Vv (bc := [[zO3 fi e0f e1f e2f e3f e4f e5f a1_290 a2_291, zAr T 0 a1_290 m1f r1f, zAr T 0 a2_291 7 r2f], w2_321, z1_, wg1_]) (br := [z0_, wg0_, wwA, wt, [zO10 xo t im mk rd po co tr wa wb_ fi cd]]) (As := [.ref wb_, .ref g1]) (rest := []) C G (c_find l T fi e0f e1f e2f e3f e4f e5f r1f m1f r2f ([zO3 fi e0f e1f e2f e3f e4f e5f a1_290 a2_291, zAr T 0 a1_290 m1f r1f, zAr T 0 a2_291 7 r2f]) wb_ l1 m2_322 wy2_323 pc2_324 g1_325 g2_326 f3B g4_327 g5_328 g6_329 (zMk mdB n4B (zPl cr1_ inn1_ k11_)) w2_321 cr1_ inn1_ k11_ k21_ k31_ k41_ z1_ g1 gg1_ q11_ q21_ wg1_ hw_336 h_331 hz1_ hg1_ hn9 hfw hwy9) (kV_RX11_298 C.2.2.2.2 (Nat.le_of_ble_eq_true rfl) (Nat.le_of_ble_eq_true rfl)) [4, 7, 8, 2] [2, 1, 2, 0] rfl rfl (ci := 3) (qc := (RX3, TX3, 8)) rfl rfl (List.mem_flatten.mpr ⟨_, List.mem_of_getElem? (i := 0) rfl, (bFit_mem hw_336).choose_spec⟩) rfl rfl hl.1 dX11_fit_74 (Nat.le_of_ble_eq_true rfl) (by show _ + (2 * (zFl m1f wy2_323 - m1f)) ≤ 6 * (zNA (i1.toInt = 0 ∧ 0 < (fk 0).toInt ∧ (0 ≤ i2.toInt ∧ i2.toInt < (fk 2).toInt ∧ i2.toInt < 2) ∧ (e0f.toInt = 0 ∨ ¬ e1f.toInt = i1.toInt ∨ ¬ e2f.toInt = i2.toInt)) mdA n4A (zPl cr0_ inn0_ k10_) - n4A) + 6 * (zNA (i1.toInt = 1 ∧ 1 < (fk 0).toInt ∧ (0 ≤ i2.toInt ∧ i2.toInt < (fk 2).toInt ∧ i2.toInt < 2) ∧ (e0f.toInt = 0 ∨ ¬ e1f.toInt = i1.toInt ∨ ¬ e2f.toInt = i2.toInt)) mdB n4B (zPl cr1_ inn1_ k11_) - n4B) + 2 * (zNF (i1.toInt = 1 ∧ 1 < (fk 0).toInt ∧ (0 ≤ i2.toInt ∧ i2.toInt < (fk 2).toInt ∧ i2.toInt < 2) ∧ (e0f.toInt = 0 ∨ ¬ e1f.toInt = i1.toInt ∨ ¬ e2f.toInt = i2.toInt)) (zNF (i1.toInt = 0 ∧ 0 < (fk 0).toInt ∧ (0 ≤ i2.toInt ∧ i2.toInt < (fk 2).toInt ∧ i2.toInt < 2) ∧ (e0f.toInt = 0 ∨ ¬ e1f.toInt = i1.toInt ∨ ¬ e2f.toInt = i2.toInt)) m1f (zMw mdA wyA cr0_ inn0_ k10_)) (zMw mdB wyB cr1_ inn1_ k11_) - m1f); omega) (fun b1 H locs hw G => ?_)
          refine zEx5 hw ?_
          intro w2_337 s3_338 s4_339 s5_340 g1_341
          refine zCu3 ?_
          intro hbs9 h_342 h_343
          clear hw
          subst hbs9
          have G : zS T A s.heap s [z0_, wg0_, wwA, wt, [zO10 xo t im mk rd po co tr wa wb_ fi cd], w2_337, w2_321, z1_, wg1_] _ _ := G
          have h39 := h_343
          refine lv_aload_n hx hb dX11_fit_77 rfl (lv_at hl 2 rfl) ?_
          refine z_get C G clX11 4 rfl 9 (by decide) m_fl_RX11_65 rfl dX11_fit_78 ?_
          refine lv_iload_n hx hb dX11_fit_81 rfl (lv_at hl 3 rfl) ?_
          refine zEx2 h_342 ?_
          intro a1_345 a2_346 hbs9
          clear h_342
          subst hbs9
          have G : zS T A s.heap s [z0_, wg0_, wwA, wt, [zO10 xo t im mk rd po co tr wa wb_ fi cd], [zO3 fi e0f e1f e2f s3_338 s4_339 s5_340 a1_345 a2_346], [zAr T 0 a1_345 (zFl m1f wy2_323) g1_341], [zAr T 0 a2_346 7 r2f], w2_321, z1_, wg1_] _ _ := G.re rfl
          refine z_put C G clX3 5 rfl 1 (by decide) m_fl_RX11_292 rfl rfl rfl (Nat.le_of_ble_eq_true rfl) dX11_fit_82 (fun H locs G => ?_)
          have G : zS T A s.heap s [z0_, wg0_, wwA, wt, [zO10 xo t im mk rd po co tr wa wb_ fi cd], [zO3 fi e0f i1 e2f s3_338 s4_339 s5_340 a1_345 a2_346], [zAr T 0 a1_345 (zFl m1f wy2_323) g1_341], [zAr T 0 a2_346 7 r2f], w2_321, z1_, wg1_] _ _ := G
          refine lv_aload_n hx hb dX11_fit_85 rfl (lv_at hl 2 rfl) ?_
          refine z_get C G clX11 4 rfl 9 (by decide) m_fl_RX11_65 rfl dX11_fit_86 ?_
          refine lv_iload_n hx hb dX11_fit_89 rfl (lv_at hl 4 rfl) ?_
          refine z_put C G clX3 5 rfl 2 (by decide) m_fl_RX11_295 rfl rfl rfl (Nat.le_of_ble_eq_true rfl) dX11_fit_90 (fun H locs G => ?_)
          have G : zS T A s.heap s [z0_, wg0_, wwA, wt, [zO10 xo t im mk rd po co tr wa wb_ fi cd], [zO3 fi e0f i1 i2 s3_338 s4_339 s5_340 a1_345 a2_346], [zAr T 0 a1_345 (zFl m1f wy2_323) g1_341], [zAr T 0 a2_346 7 r2f], w2_321, z1_, wg1_] _ _ := G
          refine lv_aload_n hx hb dX11_fit_93 rfl (lv_at hl 2 rfl) ?_
          refine z_get C G clX11 4 rfl 9 (by decide) m_fl_RX11_65 rfl dX11_fit_94 ?_
          refine lv_iconst (v := 1) hx hb dX11_fit_97 (by decide) ?_
          refine z_put C G clX3 5 rfl 0 (by decide) m_fl_RX11_109 rfl rfl rfl (Nat.le_of_ble_eq_true rfl) dX11_fit_98 (fun H locs G => ?_)
          have G : zS T A s.heap s [z0_, wg0_, wwA, wt, [zO10 xo t im mk rd po co tr wa wb_ fi cd], [zO3 fi 1 i1 i2 s3_338 s4_339 s5_340 a1_345 a2_346], [zAr T 0 a1_345 (zFl m1f wy2_323) g1_341], [zAr T 0 a2_346 7 r2f], w2_321, z1_, wg1_] _ _ := G
          refine lv_iconst (v := 1) hx hb dX11_fit_101 (by decide) ?_
          have hw_347 : bFit T fi 1 i1 i2 s3_338 s4_339 s5_340 g1_341 (zFl m1f wy2_323) r2f [zO3 fi 1 i1 i2 s3_338 s4_339 s5_340 a1_345 a2_346, zAr T 0 a1_345 (zFl m1f wy2_323) g1_341, zAr T 0 a2_346 7 r2f] := ⟨a1_345, a2_346, rfl⟩
          have G : zS T A s.heap s [z0_, wg0_, wwA, wt, [zO10 xo t im mk rd po co tr wa wb_ fi cd], [zO3 fi 1 i1 i2 s3_338 s4_339 s5_340 a1_345 a2_346, zAr T 0 a1_345 (zFl m1f wy2_323) g1_341, zAr T 0 a2_346 7 r2f], w2_321, z1_, wg1_] _ _ := G.re rfl
          have G := G.sub (bs' := [[zO10 xo t im mk rd po co tr wa wb_ fi cd], wt, z0_, z1_, wg0_, wg1_, wwA, w2_321, [zO3 fi 1 i1 i2 s3_338 s4_339 s5_340 a1_345 a2_346, zAr T 0 a1_345 (zFl m1f wy2_323) g1_341, zAr T 0 a2_346 7 r2f]]) [4, 3, 0, 7, 1, 8, 2, 6, 5] rfl
          exact z_back hQz_ (z_zret C hr hlocks G (Nat.le_of_ble_eq_true rfl) (by omega) dX11_fit_102 rfl ⟨laA, mdA, wyA, pc_A, f1A, f2A, f3A, f4A, f5A, f6A, n4A, wwA, l1, m2_322, wy2_323, pc2_324, g1_325, g2_326, f3B, g4_327, g5_328, g6_329, (zMk mdB n4B (zPl cr1_ inn1_ k11_)), w2_321, 1, i1, i2, s3_338, s4_339, s5_340, g1_341, (zFl m1f wy2_323), r2f, ([zO3 fi 1 i1 i2 s3_338 s4_339 s5_340 a1_345 a2_346, zAr T 0 a1_345 (zFl m1f wy2_323) g1_341, zAr T 0 a2_346 7 r2f]), rfl, hwwA, hmdA, hwmA, (zNA_n (by omega)).symm, hpwA, (fun q => q), h_331, (Or.inr rfl), hwy9, hNAm.symm, (zMk_pw hpwB), (fun _ => h_334), hw_347, hNF.symm, hfw9, h39, (Or.inr ⟨rfl, by omega, by decide, rfl⟩), (fun _ => Or.inr ⟨by omega, h_334⟩)⟩)
        · have c_320n : e1f.toInt = i1.toInt := (fa_eq _ _).mp c_320
          refine lv_aload_n hx hb dX11_fit_51 rfl (lv_at hl 2 rfl) ?_
          refine z_get C G clX11 0 rfl 9 (by decide) m_fl_RX11_65 rfl dX11_fit_52 ?_
          refine z_get C G clX3 7 rfl 2 (by decide) m_fl_RX11_295 rfl dX11_fit_55 ?_
          refine lv_iload_n hx hb dX11_fit_58 rfl (lv_at hl 4 rfl) ?_
          refine lv_icmp_eq (tgt := 101) hx hb dX11_fit_59 (by decide) (fun c_348 => ?_) (fun c_348 => ?_)
          · have c_348n : e2f.toInt = i2.toInt := (fa_eq _ _).mp c_348
            refine lv_iconst (v := 1) hx hb dX11_fit_101 (by decide) ?_
            have hw_349 : bFit T fi e0f e1f e2f e3f e4f e5f r1f m1f r2f [zO3 fi e0f e1f e2f e3f e4f e5f a1_290 a2_291, zAr T 0 a1_290 m1f r1f, zAr T 0 a2_291 7 r2f] := ⟨a1_290, a2_291, rfl⟩
            have G : zS T A s.heap s [[zO10 xo t im mk rd po co tr wa wb_ fi cd], z0_, z1_, wg0_, wg1_, wwA, wwB, [zO3 fi e0f e1f e2f e3f e4f e5f a1_290 a2_291, zAr T 0 a1_290 m1f r1f, zAr T 0 a2_291 7 r2f], wt] _ _ := G.re rfl
            have G := G.sub (bs' := [[zO10 xo t im mk rd po co tr wa wb_ fi cd], wt, z0_, z1_, wg0_, wg1_, wwA, wwB, [zO3 fi e0f e1f e2f e3f e4f e5f a1_290 a2_291, zAr T 0 a1_290 m1f r1f, zAr T 0 a2_291 7 r2f]]) [0, 8, 1, 2, 3, 4, 5, 6, 7] rfl
            exact z_back hQz_ (z_zret C hr hlocks G (Nat.le_of_ble_eq_true rfl) (by omega) dX11_fit_102 rfl ⟨laA, mdA, wyA, pc_A, f1A, f2A, f3A, f4A, f5A, f6A, n4A, wwA, laB, mdB, wyB, pc_B, f1B, f2B, f3B, f4B, f5B, f6B, n4B, wwB, e0f, e1f, e2f, e3f, e4f, e5f, r1f, m1f, r2f, ([zO3 fi e0f e1f e2f e3f e4f e5f a1_290 a2_291, zAr T 0 a1_290 m1f r1f, zAr T 0 a2_291 7 r2f]), rfl, hwwA, hmdA, hwmA, (zNA_n (by omega)).symm, hpwA, (fun q => q), hwwB, hmdB, hwmB, (zNA_n (by omega)).symm, hpwB, (fun q => q), hw_349, (((zNF_n (c := (i1.toInt = 1 ∧ 1 < (fk 0).toInt ∧ (0 ≤ i2.toInt ∧ i2.toInt < (fk 2).toInt ∧ i2.toInt < 2) ∧ (e0f.toInt = 0 ∨ ¬ e1f.toInt = i1.toInt ∨ ¬ e2f.toInt = i2.toInt))) (by omega)).trans (zNF_n (by omega))).symm), hfw, hf3, (Or.inr ⟨rfl, by omega, (fun q => absurd (congrArg Int32.toInt q) (by show ¬ _ = (0 : Int); omega)), by omega⟩), hFI⟩)
          · have c_348n : ¬ e2f.toInt = i2.toInt := fun q => c_348 ((fa_eq _ _).mpr q)
            refine lv_aload_n hx hb dX11_fit_62 rfl (lv_at hl 2 rfl) ?_
            refine z_get C G clX11 0 rfl 9 (by decide) m_fl_RX11_65 rfl dX11_fit_63 ?_
            refine lv_aload_n hx hb dX11_fit_66 rfl (lv_at hl 2 rfl) ?_
            refine lv_iload_n hx hb dX11_fit_67 rfl (lv_at hl 3 rfl) ?_
            refine lv_aload_n hx hb dX11_fit_68 rfl (lv_at hl 1 rfl) ?_
            have hcF : (i1.toInt = 1 ∧ 1 < (fk 0).toInt ∧ (0 ≤ i2.toInt ∧ i2.toInt < (fk 2).toInt ∧ i2.toInt < 2) ∧ (e0f.toInt = 0 ∨ ¬ e1f.toInt = i1.toInt ∨ ¬ e2f.toInt = i2.toInt)) := by omega
            have hcN : ¬ (i1.toInt = 0 ∧ 0 < (fk 0).toInt ∧ (0 ≤ i2.toInt ∧ i2.toInt < (fk 2).toInt ∧ i2.toInt < 2) ∧ (e0f.toInt = 0 ∨ ¬ e1f.toInt = i1.toInt ∨ ¬ e2f.toInt = i2.toInt)) := by omega
            have hNAm : zNA (i1.toInt = 1 ∧ 1 < (fk 0).toInt ∧ (0 ≤ i2.toInt ∧ i2.toInt < (fk 2).toInt ∧ i2.toInt < 2) ∧ (e0f.toInt = 0 ∨ ¬ e1f.toInt = i1.toInt ∨ ¬ e2f.toInt = i2.toInt)) mdB n4B (zPl cr1_ inn1_ k11_) = zMk mdB n4B (zPl cr1_ inn1_ k11_) := zNA_y hcF
            have hNAo : zNA (i1.toInt = 0 ∧ 0 < (fk 0).toInt ∧ (0 ≤ i2.toInt ∧ i2.toInt < (fk 2).toInt ∧ i2.toInt < 2) ∧ (e0f.toInt = 0 ∨ ¬ e1f.toInt = i1.toInt ∨ ¬ e2f.toInt = i2.toInt)) mdA n4A (zPl cr0_ inn0_ k10_) = n4A := zNA_n hcN
            have hn9 : zMk mdB n4B (zPl cr1_ inn1_ k11_) ≤ 131072 := zPw_le (zMk_pw hpwB)
            refine z_Vq (bc := [[zO10 xo t im mk rd po co tr wa wb_ fi cd], wwB, z1_]) (br := [z0_, wg0_, wg1_, wwA, [zO3 fi e0f e1f e2f e3f e4f e5f a1_290 a2_291], [zAr T 0 a1_290 m1f r1f], [zAr T 0 a2_291 7 r2f], wt]) (As := [.int i1, .ref l1]) (rest := [.ref fi]) C G (c_waysInB l T xo t im mk rd po co tr wa wb_ fi cd i1 laB mdB wyB pc_B f1B f2B f3B f4B f5B f6B n4B wwB l1 cr1_ inn1_ k11_ k21_ k31_ k41_ z1_ hwwB hz1_ hI1_ hpwB hmdB hwmB (by omega)) (kV_RX11_235 C.2.2.2.2 (Nat.le_of_ble_eq_true rfl) (Nat.le_of_ble_eq_true rfl)) [0, 6, 2] [0, 1, 3] rfl rfl (ci := 10) (qc := (RX11, TX11, 11)) rfl rfl (List.mem_flatten.mpr ⟨_, List.mem_of_getElem? (i := 0) rfl, List.mem_cons_self⟩) rfl rfl hl.1 dX11_fit_69 (Nat.le_of_ble_eq_true rfl) (by show _ + (6 * (zMk mdB n4B (zPl cr1_ inn1_ k11_) - n4B)) ≤ 6 * (zNA (i1.toInt = 0 ∧ 0 < (fk 0).toInt ∧ (0 ≤ i2.toInt ∧ i2.toInt < (fk 2).toInt ∧ i2.toInt < 2) ∧ (e0f.toInt = 0 ∨ ¬ e1f.toInt = i1.toInt ∨ ¬ e2f.toInt = i2.toInt)) mdA n4A (zPl cr0_ inn0_ k10_) - n4A) + 6 * (zNA (i1.toInt = 1 ∧ 1 < (fk 0).toInt ∧ (0 ≤ i2.toInt ∧ i2.toInt < (fk 2).toInt ∧ i2.toInt < 2) ∧ (e0f.toInt = 0 ∨ ¬ e1f.toInt = i1.toInt ∨ ¬ e2f.toInt = i2.toInt)) mdB n4B (zPl cr1_ inn1_ k11_) - n4B) + 2 * (zNF (i1.toInt = 1 ∧ 1 < (fk 0).toInt ∧ (0 ≤ i2.toInt ∧ i2.toInt < (fk 2).toInt ∧ i2.toInt < 2) ∧ (e0f.toInt = 0 ∨ ¬ e1f.toInt = i1.toInt ∨ ¬ e2f.toInt = i2.toInt)) (zNF (i1.toInt = 0 ∧ 0 < (fk 0).toInt ∧ (0 ≤ i2.toInt ∧ i2.toInt < (fk 2).toInt ∧ i2.toInt < 2) ∧ (e0f.toInt = 0 ∨ ¬ e1f.toInt = i1.toInt ∨ ¬ e2f.toInt = i2.toInt)) m1f (zMw mdA wyA cr0_ inn0_ k10_)) (zMw mdB wyB cr1_ inn1_ k11_) - m1f); omega) (fun r_364 b1 H locs hw G => ?_)
            refine zEx9 hw ?_
            intro w2_350 m2_351 wy2_352 pc2_353 g1_354 g2_355 g4_356 g5_357 g6_358
            refine zCu6 ?_
            intro hbs9 h_359 h_360 h_361 h_362 h_363
            clear hw
            subst hbs9
            have G : zS T A s.heap s [z0_, wg0_, wg1_, wwA, [zO3 fi e0f e1f e2f e3f e4f e5f a1_290 a2_291], [zAr T 0 a1_290 m1f r1f], [zAr T 0 a2_291 7 r2f], wt, [zO10 xo t im mk rd po co tr wa wb_ fi cd], w2_350, z1_] _ _ := G
            subst h_359
            have hwy9 := h_361
            have hNF : zNF (i1.toInt = 1 ∧ 1 < (fk 0).toInt ∧ (0 ≤ i2.toInt ∧ i2.toInt < (fk 2).toInt ∧ i2.toInt < 2) ∧ (e0f.toInt = 0 ∨ ¬ e1f.toInt = i1.toInt ∨ ¬ e2f.toInt = i2.toInt)) (zNF (i1.toInt = 0 ∧ 0 < (fk 0).toInt ∧ (0 ≤ i2.toInt ∧ i2.toInt < (fk 2).toInt ∧ i2.toInt < 2) ∧ (e0f.toInt = 0 ∨ ¬ e1f.toInt = i1.toInt ∨ ¬ e2f.toInt = i2.toInt)) m1f (zMw mdA wyA cr0_ inn0_ k10_)) (zMw mdB wyB cr1_ inn1_ k11_) = zFl m1f wy2_352 := by rw [zNF_y (c := (i1.toInt = 1 ∧ 1 < (fk 0).toInt ∧ (0 ≤ i2.toInt ∧ i2.toInt < (fk 2).toInt ∧ i2.toInt < 2) ∧ (e0f.toInt = 0 ∨ ¬ e1f.toInt = i1.toInt ∨ ¬ e2f.toInt = i2.toInt))) hcF, zNF_n (c := (i1.toInt = 0 ∧ 0 < (fk 0).toInt ∧ (0 ≤ i2.toInt ∧ i2.toInt < (fk 2).toInt ∧ i2.toInt < 2) ∧ (e0f.toInt = 0 ∨ ¬ e1f.toInt = i1.toInt ∨ ¬ e2f.toInt = i2.toInt))) hcN, h_362]
            have hfw9 := zFl_pw (wy := wy2_352) hfw
            refine lv_aload hx hb dX11_fit_72 (lv_at hl 0 rfl) ?_
            have hw_365 : bFit T fi e0f e1f e2f e3f e4f e5f r1f m1f r2f [zO3 fi e0f e1f e2f e3f e4f e5f a1_290 a2_291, zAr T 0 a1_290 m1f r1f, zAr T 0 a2_291 7 r2f] := ⟨a1_290, a2_291, rfl⟩
            have G : zS T A s.heap s [z0_, wg0_, wg1_, wwA, [zO3 fi e0f e1f e2f e3f e4f e5f a1_290 a2_291, zAr T 0 a1_290 m1f r1f, zAr T 0 a2_291 7 r2f], wt, [zO10 xo t im mk rd po co tr wa wb_ fi cd], w2_350, z1_] _ _ := G.re rfl
            refine z_Vv (bc := [[zO3 fi e0f e1f e2f e3f e4f e5f a1_290 a2_291, zAr T 0 a1_290 m1f r1f, zAr T 0 a2_291 7 r2f], w2_350, z1_, wg1_]) (br := [z0_, wg0_, wwA, wt, [zO10 xo t im mk rd po co tr wa wb_ fi cd]]) (As := [.ref wb_, .ref g1]) (rest := []) C G (c_find l T fi e0f e1f e2f e3f e4f e5f r1f m1f r2f ([zO3 fi e0f e1f e2f e3f e4f e5f a1_290 a2_291, zAr T 0 a1_290 m1f r1f, zAr T 0 a2_291 7 r2f]) wb_ l1 m2_351 wy2_352 pc2_353 g1_354 g2_355 f3B g4_356 g5_357 g6_358 (zMk mdB n4B (zPl cr1_ inn1_ k11_)) w2_350 cr1_ inn1_ k11_ k21_ k31_ k41_ z1_ g1 gg1_ q11_ q21_ wg1_ hw_365 h_360 hz1_ hg1_ hn9 hfw hwy9) (kV_RX11_298 C.2.2.2.2 (Nat.le_of_ble_eq_true rfl) (Nat.le_of_ble_eq_true rfl)) [4, 7, 8, 2] [2, 1, 2, 0] rfl rfl (ci := 3) (qc := (RX3, TX3, 8)) rfl rfl (List.mem_flatten.mpr ⟨_, List.mem_of_getElem? (i := 0) rfl, (bFit_mem hw_365).choose_spec⟩) rfl rfl hl.1 dX11_fit_74 (Nat.le_of_ble_eq_true rfl) (by show _ + (2 * (zFl m1f wy2_352 - m1f)) ≤ 6 * (zNA (i1.toInt = 0 ∧ 0 < (fk 0).toInt ∧ (0 ≤ i2.toInt ∧ i2.toInt < (fk 2).toInt ∧ i2.toInt < 2) ∧ (e0f.toInt = 0 ∨ ¬ e1f.toInt = i1.toInt ∨ ¬ e2f.toInt = i2.toInt)) mdA n4A (zPl cr0_ inn0_ k10_) - n4A) + 6 * (zNA (i1.toInt = 1 ∧ 1 < (fk 0).toInt ∧ (0 ≤ i2.toInt ∧ i2.toInt < (fk 2).toInt ∧ i2.toInt < 2) ∧ (e0f.toInt = 0 ∨ ¬ e1f.toInt = i1.toInt ∨ ¬ e2f.toInt = i2.toInt)) mdB n4B (zPl cr1_ inn1_ k11_) - n4B) + 2 * (zNF (i1.toInt = 1 ∧ 1 < (fk 0).toInt ∧ (0 ≤ i2.toInt ∧ i2.toInt < (fk 2).toInt ∧ i2.toInt < 2) ∧ (e0f.toInt = 0 ∨ ¬ e1f.toInt = i1.toInt ∨ ¬ e2f.toInt = i2.toInt)) (zNF (i1.toInt = 0 ∧ 0 < (fk 0).toInt ∧ (0 ≤ i2.toInt ∧ i2.toInt < (fk 2).toInt ∧ i2.toInt < 2) ∧ (e0f.toInt = 0 ∨ ¬ e1f.toInt = i1.toInt ∨ ¬ e2f.toInt = i2.toInt)) m1f (zMw mdA wyA cr0_ inn0_ k10_)) (zMw mdB wyB cr1_ inn1_ k11_) - m1f); omega) (fun b1 H locs hw G => ?_)
            refine zEx5 hw ?_
            intro w2_366 s3_367 s4_368 s5_369 g1_370
            refine zCu3 ?_
            intro hbs9 h_371 h_372
            clear hw
            subst hbs9
            have G : zS T A s.heap s [z0_, wg0_, wwA, wt, [zO10 xo t im mk rd po co tr wa wb_ fi cd], w2_366, w2_350, z1_, wg1_] _ _ := G
            have h39 := h_372
            refine lv_aload_n hx hb dX11_fit_77 rfl (lv_at hl 2 rfl) ?_
            refine z_get C G clX11 4 rfl 9 (by decide) m_fl_RX11_65 rfl dX11_fit_78 ?_
            refine lv_iload_n hx hb dX11_fit_81 rfl (lv_at hl 3 rfl) ?_
            refine zEx2 h_371 ?_
            intro a1_374 a2_375 hbs9
            clear h_371
            subst hbs9
            have G : zS T A s.heap s [z0_, wg0_, wwA, wt, [zO10 xo t im mk rd po co tr wa wb_ fi cd], [zO3 fi e0f e1f e2f s3_367 s4_368 s5_369 a1_374 a2_375], [zAr T 0 a1_374 (zFl m1f wy2_352) g1_370], [zAr T 0 a2_375 7 r2f], w2_350, z1_, wg1_] _ _ := G.re rfl
            refine z_put C G clX3 5 rfl 1 (by decide) m_fl_RX11_292 rfl rfl rfl (Nat.le_of_ble_eq_true rfl) dX11_fit_82 (fun H locs G => ?_)
            have G : zS T A s.heap s [z0_, wg0_, wwA, wt, [zO10 xo t im mk rd po co tr wa wb_ fi cd], [zO3 fi e0f i1 e2f s3_367 s4_368 s5_369 a1_374 a2_375], [zAr T 0 a1_374 (zFl m1f wy2_352) g1_370], [zAr T 0 a2_375 7 r2f], w2_350, z1_, wg1_] _ _ := G
            refine lv_aload_n hx hb dX11_fit_85 rfl (lv_at hl 2 rfl) ?_
            refine z_get C G clX11 4 rfl 9 (by decide) m_fl_RX11_65 rfl dX11_fit_86 ?_
            refine lv_iload_n hx hb dX11_fit_89 rfl (lv_at hl 4 rfl) ?_
            refine z_put C G clX3 5 rfl 2 (by decide) m_fl_RX11_295 rfl rfl rfl (Nat.le_of_ble_eq_true rfl) dX11_fit_90 (fun H locs G => ?_)
            have G : zS T A s.heap s [z0_, wg0_, wwA, wt, [zO10 xo t im mk rd po co tr wa wb_ fi cd], [zO3 fi e0f i1 i2 s3_367 s4_368 s5_369 a1_374 a2_375], [zAr T 0 a1_374 (zFl m1f wy2_352) g1_370], [zAr T 0 a2_375 7 r2f], w2_350, z1_, wg1_] _ _ := G
            refine lv_aload_n hx hb dX11_fit_93 rfl (lv_at hl 2 rfl) ?_
            refine z_get C G clX11 4 rfl 9 (by decide) m_fl_RX11_65 rfl dX11_fit_94 ?_
            refine lv_iconst (v := 1) hx hb dX11_fit_97 (by decide) ?_
            refine z_put C G clX3 5 rfl 0 (by decide) m_fl_RX11_109 rfl rfl rfl (Nat.le_of_ble_eq_true rfl) dX11_fit_98 (fun H locs G => ?_)
            have G : zS T A s.heap s [z0_, wg0_, wwA, wt, [zO10 xo t im mk rd po co tr wa wb_ fi cd], [zO3 fi 1 i1 i2 s3_367 s4_368 s5_369 a1_374 a2_375], [zAr T 0 a1_374 (zFl m1f wy2_352) g1_370], [zAr T 0 a2_375 7 r2f], w2_350, z1_, wg1_] _ _ := G
            refine lv_iconst (v := 1) hx hb dX11_fit_101 (by decide) ?_
            have hw_376 : bFit T fi 1 i1 i2 s3_367 s4_368 s5_369 g1_370 (zFl m1f wy2_352) r2f [zO3 fi 1 i1 i2 s3_367 s4_368 s5_369 a1_374 a2_375, zAr T 0 a1_374 (zFl m1f wy2_352) g1_370, zAr T 0 a2_375 7 r2f] := ⟨a1_374, a2_375, rfl⟩
            have G : zS T A s.heap s [z0_, wg0_, wwA, wt, [zO10 xo t im mk rd po co tr wa wb_ fi cd], [zO3 fi 1 i1 i2 s3_367 s4_368 s5_369 a1_374 a2_375, zAr T 0 a1_374 (zFl m1f wy2_352) g1_370, zAr T 0 a2_375 7 r2f], w2_350, z1_, wg1_] _ _ := G.re rfl
            have G := G.sub (bs' := [[zO10 xo t im mk rd po co tr wa wb_ fi cd], wt, z0_, z1_, wg0_, wg1_, wwA, w2_350, [zO3 fi 1 i1 i2 s3_367 s4_368 s5_369 a1_374 a2_375, zAr T 0 a1_374 (zFl m1f wy2_352) g1_370, zAr T 0 a2_375 7 r2f]]) [4, 3, 0, 7, 1, 8, 2, 6, 5] rfl
            exact z_back hQz_ (z_zret C hr hlocks G (Nat.le_of_ble_eq_true rfl) (by omega) dX11_fit_102 rfl ⟨laA, mdA, wyA, pc_A, f1A, f2A, f3A, f4A, f5A, f6A, n4A, wwA, l1, m2_351, wy2_352, pc2_353, g1_354, g2_355, f3B, g4_356, g5_357, g6_358, (zMk mdB n4B (zPl cr1_ inn1_ k11_)), w2_350, 1, i1, i2, s3_367, s4_368, s5_369, g1_370, (zFl m1f wy2_352), r2f, ([zO3 fi 1 i1 i2 s3_367 s4_368 s5_369 a1_374 a2_375, zAr T 0 a1_374 (zFl m1f wy2_352) g1_370, zAr T 0 a2_375 7 r2f]), rfl, hwwA, hmdA, hwmA, (zNA_n (by omega)).symm, hpwA, (fun q => q), h_360, (Or.inr rfl), hwy9, hNAm.symm, (zMk_pw hpwB), (fun _ => h_363), hw_376, hNF.symm, hfw9, h39, (Or.inr ⟨rfl, by omega, by decide, rfl⟩), (fun _ => Or.inr ⟨by omega, h_363⟩)⟩)
theorem m_co_X11_fit : Cond.code yX11_fit cX11_fit 5 (some .boolean) ∈ zT := zmem1 zsub_5 113 rfl rfl
theorem m_ml_RX11_302 : Cond.methodLink RX11 302 yX11_fit ∈ zT := zmem1 zsub_5 110 rfl rfl
theorem m_im_X11_fit : Cond.instanceMethod yX11_fit ∈ zT := zmem1 zsub_5 112 rfl rfl
theorem m_se_X11_fit : Cond.selects RX11 yX11_fit yX11_fit ∈ zT := zmem 41 rfl rfl
theorem m_fl_RX11_306 : Cond.fieldLink RX11 306 (TX3 3).1 (TX3 3).2.1 (TX3 3).2.2.1 ∈ zT := zmem1 zsub_2 152 rfl rfl
theorem m_fl_RX11_327 : Cond.fieldLink RX11 327 (TX3 4).1 (TX3 4).2.1 (TX3 4).2.2.1 ∈ zT := zmem1 zsub_2 154 rfl rfl
theorem m_fl_RX11_324 : Cond.fieldLink RX11 324 (TX3 5).1 (TX3 5).2.1 (TX3 5).2.2.1 ∈ zT := zmem1 zsub_2 156 rfl rfl
theorem m_ml_RX11_317 : Cond.methodLink RX11 317 yX3_way ∈ zT := zmem1 zsub_5 157 rfl rfl
theorem m_co_X3_sure : Cond.code yX3_sure cX3_sure 4 (some .int) ∈ zT := zmem1 zsub_5 147 rfl rfl
theorem m_ml_RX11_313 : Cond.methodLink RX11 313 yX3_sure ∈ zT := zmem1 zsub_5 144 rfl rfl
theorem m_im_X3_sure : Cond.instanceMethod yX3_sure ∈ zT := zmem1 zsub_5 145 rfl rfl
theorem m_se_X3_sure : Cond.selects RX3 yX3_sure yX3_sure ∈ zT := zmem1 zsub_5 146 rfl rfl
theorem m_co_X3_ask : Cond.code yX3_ask cX3_ask 6 (some .int) ∈ zT := zmem1 zsub_5 139 rfl rfl
theorem m_ml_RX11_309 : Cond.methodLink RX11 309 yX3_ask ∈ zT := zmem1 zsub_5 136 rfl rfl
theorem m_im_X3_ask : Cond.instanceMethod yX3_ask ∈ zT := zmem1 zsub_5 137 rfl rfl
theorem m_se_X3_ask : Cond.selects RX3 yX3_ask yX3_ask ∈ zT := zmem1 zsub_5 138 rfl rfl
theorem m_ml_RX11_320 : Cond.methodLink RX11 320 yX3_pointing ∈ zT := zmem1 zsub_5 162 rfl rfl
theorem kV_RX11_302 {R : Room} {s : State} {args : Array Value} {d mc ms : Nat} (hts : ∀ w ∈ zT, w.before args s = true) (h1 : d + 1 ≤ R.frames) (h2 : 8 + (5 + 11) + 40 * d ≤ R.locals) : CallW R s args RX11 RX11 302 yX11_fit cX11_fit 5 (some .boolean) (zW yX11_fit cX11_fit 5 (some .boolean)) (zR d mc ms) mc ms 2 := z_cwV hts m_co_X11_fit m_ml_RX11_302 m_im_X11_fit m_se_X11_fit m_ii_RX11 (by decide +kernel) h1 h2
theorem kV_RX11_317 {R : Room} {s : State} {args : Array Value} {d mc ms : Nat} (hts : ∀ w ∈ zT, w.before args s = true) (h1 : d + 1 ≤ R.frames) (h2 : 8 + (2 + 11) + 40 * d ≤ R.locals) : CallW R s args RX11 RX3 317 yX3_way cX3_way 2 (some .int) (zW yX3_way cX3_way 2 (some .int)) (zR d mc ms) mc ms 1 := z_cwV hts m_co_X3_way m_ml_RX11_317 m_im_X3_way m_se_X3_way m_ii_RX3 (by decide +kernel) h1 h2
theorem kV_RX11_313 {R : Room} {s : State} {args : Array Value} {d mc ms : Nat} (hts : ∀ w ∈ zT, w.before args s = true) (h1 : d + 1 ≤ R.frames) (h2 : 8 + (4 + 11) + 40 * d ≤ R.locals) : CallW R s args RX11 RX3 313 yX3_sure cX3_sure 4 (some .int) (zW yX3_sure cX3_sure 4 (some .int)) (zR d mc ms) mc ms 2 := z_cwV hts m_co_X3_sure m_ml_RX11_313 m_im_X3_sure m_se_X3_sure m_ii_RX3 (by decide +kernel) h1 h2
theorem kV_RX11_309 {R : Room} {s : State} {args : Array Value} {d mc ms : Nat} (hts : ∀ w ∈ zT, w.before args s = true) (h1 : d + 1 ≤ R.frames) (h2 : 8 + (6 + 11) + 40 * d ≤ R.locals) : CallW R s args RX11 RX3 309 yX3_ask cX3_ask 6 (some .int) (zW yX3_ask cX3_ask 6 (some .int)) (zR d mc ms) mc ms 1 := z_cwV hts m_co_X3_ask m_ml_RX11_309 m_im_X3_ask m_se_X3_ask m_ii_RX3 (by decide +kernel) h1 h2
theorem kV_RX11_320 {R : Room} {s : State} {args : Array Value} {d mc ms : Nat} (hts : ∀ w ∈ zT, w.before args s = true) (h1 : d + 1 ≤ R.frames) (h2 : 8 + (6 + 11) + 40 * d ≤ R.locals) : CallW R s args RX11 RX3 320 yX3_pointing cX3_pointing 6 (some .int) (zW yX3_pointing cX3_pointing 6 (some .int)) (zR d mc ms) mc ms 3 := z_cwV hts m_co_X3_pointing m_ml_RX11_320 m_im_X3_pointing m_se_X3_pointing m_ii_RX3 (by decide +kernel) h1 h2
theorem dX11_least_0 : decode cX11_least 0 = .ok (.aload_n 0, 1) := zo_42 (by decide +kernel)
theorem dX11_least_1 : decode cX11_least 1 = .ok (.iload_n 1, 1) := zo_27 (by decide +kernel)
theorem dX11_least_2 : decode cX11_least 2 = .ok (.iload_n 2, 1) := zo_28 (by decide +kernel)
theorem dX11_least_3 : decode cX11_least 3 = .ok (.invokevirtual 302, 3) := zo_182 (by decide +kernel)
theorem dX11_least_6 : decode cX11_least 6 = .ok (.ifCond .eq 13, 3) := zo_153 (by decide +kernel)
theorem dX11_least_9 : decode cX11_least 9 = .ok (.aload_n 0, 1) := zo_42 (by decide +kernel)
theorem dX11_least_10 : decode cX11_least 10 = .ok (.getfield 65, 3) := zo_180 (by decide +kernel)
theorem dX11_least_13 : decode cX11_least 13 = .ok (.getfield 306, 3) := zo_180 (by decide +kernel)
theorem dX11_least_16 : decode cX11_least 16 = .ok (.ifCond .ne 5, 3) := zo_154 (by decide +kernel)
theorem dX11_least_19 : decode cX11_least 19 = .ok (.iconst (-1), 1) := zo_2 (by decide +kernel)
theorem dX11_least_20 : decode cX11_least 20 = .ok (.ireturn, 1) := zo_172 (by decide +kernel)
theorem dX11_least_21 : decode cX11_least 21 = .ok (.iload_n 3, 1) := zo_29 (by decide +kernel)
theorem dX11_least_22 : decode cX11_least 22 = .ok (.ifCond .eq 13, 3) := zo_153 (by decide +kernel)
theorem dX11_least_25 : decode cX11_least 25 = .ok (.aload_n 0, 1) := zo_42 (by decide +kernel)
theorem dX11_least_26 : decode cX11_least 26 = .ok (.getfield 65, 3) := zo_180 (by decide +kernel)
theorem dX11_least_29 : decode cX11_least 29 = .ok (.getfield 324, 3) := zo_180 (by decide +kernel)
theorem dX11_least_32 : decode cX11_least 32 = .ok (.goto 10, 3) := zo_167 (by decide +kernel)
theorem dX11_least_35 : decode cX11_least 35 = .ok (.aload_n 0, 1) := zo_42 (by decide +kernel)
theorem dX11_least_36 : decode cX11_least 36 = .ok (.getfield 65, 3) := zo_180 (by decide +kernel)
theorem dX11_least_39 : decode cX11_least 39 = .ok (.getfield 327, 3) := zo_180 (by decide +kernel)
theorem dX11_least_42 : decode cX11_least 42 = .ok (.ireturn, 1) := zo_172 (by decide +kernel)
theorem dX11_fits_0 : decode cX11_fits 0 = .ok (.aload_n 0, 1) := zo_42 (by decide +kernel)
theorem dX11_fits_1 : decode cX11_fits 1 = .ok (.getfield 10, 3) := zo_180 (by decide +kernel)
theorem dX11_fits_4 : decode cX11_fits 4 = .ok (.iload_n 1, 1) := zo_27 (by decide +kernel)
theorem dX11_fits_5 : decode cX11_fits 5 = .ok (.invokevirtual 121, 3) := zo_182 (by decide +kernel)
theorem dX11_fits_8 : decode cX11_fits 8 = .ok (.astore 4, 2) := zo_58 (by decide +kernel)
theorem dX11_fits_10 : decode cX11_fits 10 = .ok (.aload_n 0, 1) := zo_42 (by decide +kernel)
theorem dX11_fits_11 : decode cX11_fits 11 = .ok (.iload_n 1, 1) := zo_27 (by decide +kernel)
theorem dX11_fits_12 : decode cX11_fits 12 = .ok (.iload_n 2, 1) := zo_28 (by decide +kernel)
theorem dX11_fits_13 : decode cX11_fits 13 = .ok (.invokevirtual 302, 3) := zo_182 (by decide +kernel)
theorem dX11_fits_16 : decode cX11_fits 16 = .ok (.ifCond .eq 12, 3) := zo_153 (by decide +kernel)
theorem dX11_fits_19 : decode cX11_fits 19 = .ok (.aload 4, 2) := zo_25 (by decide +kernel)
theorem dX11_fits_21 : decode cX11_fits 21 = .ok (.ifnull 7, 3) := zo_198 (by decide +kernel)
theorem dX11_fits_24 : decode cX11_fits 24 = .ok (.iload_n 3, 1) := zo_29 (by decide +kernel)
theorem dX11_fits_25 : decode cX11_fits 25 = .ok (.ifCond .ge 6, 3) := zo_156 (by decide +kernel)
theorem dX11_fits_28 : decode cX11_fits 28 = .ok (.bipush (-2), 2) := zo_16 (by decide +kernel)
theorem dX11_fits_30 : decode cX11_fits 30 = .ok (.ireturn, 1) := zo_172 (by decide +kernel)
theorem dX11_fits_31 : decode cX11_fits 31 = .ok (.aload_n 0, 1) := zo_42 (by decide +kernel)
theorem dX11_fits_32 : decode cX11_fits 32 = .ok (.iload_n 1, 1) := zo_27 (by decide +kernel)
theorem dX11_fits_33 : decode cX11_fits 33 = .ok (.aload 4, 2) := zo_25 (by decide +kernel)
theorem dX11_fits_35 : decode cX11_fits 35 = .ok (.invokevirtual 235, 3) := zo_182 (by decide +kernel)
theorem dX11_fits_38 : decode cX11_fits 38 = .ok (.astore 5, 2) := zo_58 (by decide +kernel)
theorem dX11_fits_40 : decode cX11_fits 40 = .ok (.iload_n 3, 1) := zo_29 (by decide +kernel)
theorem dX11_fits_41 : decode cX11_fits 41 = .ok (.ifCond .ne 11, 3) := zo_154 (by decide +kernel)
theorem dX11_fits_44 : decode cX11_fits 44 = .ok (.aload_n 0, 1) := zo_42 (by decide +kernel)
theorem dX11_fits_45 : decode cX11_fits 45 = .ok (.getfield 65, 3) := zo_180 (by decide +kernel)
theorem dX11_fits_48 : decode cX11_fits 48 = .ok (.getfield 306, 3) := zo_180 (by decide +kernel)
theorem dX11_fits_51 : decode cX11_fits 51 = .ok (.ireturn, 1) := zo_172 (by decide +kernel)
theorem dX11_fits_52 : decode cX11_fits 52 = .ok (.iload_n 3, 1) := zo_29 (by decide +kernel)
theorem dX11_fits_53 : decode cX11_fits 53 = .ok (.iconst 1, 1) := zo_4 (by decide +kernel)
theorem dX11_fits_54 : decode cX11_fits 54 = .ok (.if_icmp .ne 13, 3) := zo_160 (by decide +kernel)
theorem dX11_fits_57 : decode cX11_fits 57 = .ok (.aload_n 0, 1) := zo_42 (by decide +kernel)
theorem dX11_fits_58 : decode cX11_fits 58 = .ok (.getfield 65, 3) := zo_180 (by decide +kernel)
theorem dX11_fits_61 : decode cX11_fits 61 = .ok (.aload 5, 2) := zo_25 (by decide +kernel)
theorem dX11_fits_63 : decode cX11_fits 63 = .ok (.invokevirtual 309, 3) := zo_182 (by decide +kernel)
theorem dX11_fits_66 : decode cX11_fits 66 = .ok (.ireturn, 1) := zo_172 (by decide +kernel)
theorem dX11_fits_67 : decode cX11_fits 67 = .ok (.iload_n 3, 1) := zo_29 (by decide +kernel)
theorem dX11_fits_68 : decode cX11_fits 68 = .ok (.bipush 9, 2) := zo_16 (by decide +kernel)
theorem dX11_fits_70 : decode cX11_fits 70 = .ok (.if_icmp .ge 16, 3) := zo_162 (by decide +kernel)
theorem dX11_fits_73 : decode cX11_fits 73 = .ok (.aload_n 0, 1) := zo_42 (by decide +kernel)
theorem dX11_fits_74 : decode cX11_fits 74 = .ok (.getfield 65, 3) := zo_180 (by decide +kernel)
theorem dX11_fits_77 : decode cX11_fits 77 = .ok (.aload 5, 2) := zo_25 (by decide +kernel)
theorem dX11_fits_79 : decode cX11_fits 79 = .ok (.iload_n 3, 1) := zo_29 (by decide +kernel)
theorem dX11_fits_80 : decode cX11_fits 80 = .ok (.iconst 2, 1) := zo_5 (by decide +kernel)
theorem dX11_fits_81 : decode cX11_fits 81 = .ok (.isub, 1) := zo_100 (by decide +kernel)
theorem dX11_fits_82 : decode cX11_fits 82 = .ok (.invokevirtual 313, 3) := zo_182 (by decide +kernel)
theorem dX11_fits_85 : decode cX11_fits 85 = .ok (.ireturn, 1) := zo_172 (by decide +kernel)
theorem dX11_fits_86 : decode cX11_fits 86 = .ok (.iload_n 3, 1) := zo_29 (by decide +kernel)
theorem dX11_fits_87 : decode cX11_fits 87 = .ok (.bipush 10, 2) := zo_16 (by decide +kernel)
theorem dX11_fits_89 : decode cX11_fits 89 = .ok (.isub, 1) := zo_100 (by decide +kernel)
theorem dX11_fits_90 : decode cX11_fits 90 = .ok (.istore 6, 2) := zo_54 (by decide +kernel)
theorem dX11_fits_92 : decode cX11_fits 92 = .ok (.iload 6, 2) := zo_21 (by decide +kernel)
theorem dX11_fits_94 : decode cX11_fits 94 = .ok (.ifCond .lt 32, 3) := zo_155 (by decide +kernel)
theorem dX11_fits_97 : decode cX11_fits 97 = .ok (.iload 6, 2) := zo_21 (by decide +kernel)
theorem dX11_fits_99 : decode cX11_fits 99 = .ok (.aload_n 0, 1) := zo_42 (by decide +kernel)
theorem dX11_fits_100 : decode cX11_fits 100 = .ok (.getfield 65, 3) := zo_180 (by decide +kernel)
theorem dX11_fits_103 : decode cX11_fits 103 = .ok (.getfield 306, 3) := zo_180 (by decide +kernel)
theorem dX11_fits_106 : decode cX11_fits 106 = .ok (.if_icmp .ge 20, 3) := zo_162 (by decide +kernel)
theorem dX11_fits_109 : decode cX11_fits 109 = .ok (.aload 5, 2) := zo_25 (by decide +kernel)
theorem dX11_fits_111 : decode cX11_fits 111 = .ok (.aload_n 0, 1) := zo_42 (by decide +kernel)
theorem dX11_fits_112 : decode cX11_fits 112 = .ok (.getfield 65, 3) := zo_180 (by decide +kernel)
theorem dX11_fits_115 : decode cX11_fits 115 = .ok (.iload 6, 2) := zo_21 (by decide +kernel)
theorem dX11_fits_117 : decode cX11_fits 117 = .ok (.invokevirtual 317, 3) := zo_182 (by decide +kernel)
theorem dX11_fits_120 : decode cX11_fits 120 = .ok (.invokevirtual 272, 3) := zo_182 (by decide +kernel)
theorem dX11_fits_123 : decode cX11_fits 123 = .ok (.goto 5, 3) := zo_167 (by decide +kernel)
theorem dX11_fits_126 : decode cX11_fits 126 = .ok (.bipush (-2), 2) := zo_16 (by decide +kernel)
theorem dX11_fits_128 : decode cX11_fits 128 = .ok (.ireturn, 1) := zo_172 (by decide +kernel)
theorem dX11_odds_0 : decode cX11_odds 0 = .ok (.aload_n 0, 1) := zo_42 (by decide +kernel)
theorem dX11_odds_1 : decode cX11_odds 1 = .ok (.getfield 10, 3) := zo_180 (by decide +kernel)
theorem dX11_odds_4 : decode cX11_odds 4 = .ok (.iload_n 1, 1) := zo_27 (by decide +kernel)
theorem dX11_odds_5 : decode cX11_odds 5 = .ok (.invokevirtual 121, 3) := zo_182 (by decide +kernel)
theorem dX11_odds_8 : decode cX11_odds 8 = .ok (.astore 6, 2) := zo_58 (by decide +kernel)
theorem dX11_odds_10 : decode cX11_odds 10 = .ok (.aload_n 0, 1) := zo_42 (by decide +kernel)
theorem dX11_odds_11 : decode cX11_odds 11 = .ok (.iload_n 1, 1) := zo_27 (by decide +kernel)
theorem dX11_odds_12 : decode cX11_odds 12 = .ok (.iload_n 2, 1) := zo_28 (by decide +kernel)
theorem dX11_odds_13 : decode cX11_odds 13 = .ok (.invokevirtual 302, 3) := zo_182 (by decide +kernel)
theorem dX11_odds_16 : decode cX11_odds 16 = .ok (.ifCond .eq 24, 3) := zo_153 (by decide +kernel)
theorem dX11_odds_19 : decode cX11_odds 19 = .ok (.aload 6, 2) := zo_25 (by decide +kernel)
theorem dX11_odds_21 : decode cX11_odds 21 = .ok (.ifnull 19, 3) := zo_198 (by decide +kernel)
theorem dX11_odds_24 : decode cX11_odds 24 = .ok (.iload 4, 2) := zo_21 (by decide +kernel)
theorem dX11_odds_26 : decode cX11_odds 26 = .ok (.ifCond .lt 14, 3) := zo_155 (by decide +kernel)
theorem dX11_odds_29 : decode cX11_odds 29 = .ok (.iload 4, 2) := zo_21 (by decide +kernel)
theorem dX11_odds_31 : decode cX11_odds 31 = .ok (.aload 6, 2) := zo_25 (by decide +kernel)
theorem dX11_odds_33 : decode cX11_odds 33 = .ok (.iload_n 3, 1) := zo_29 (by decide +kernel)
theorem dX11_odds_34 : decode cX11_odds 34 = .ok (.invokevirtual 221, 3) := zo_182 (by decide +kernel)
theorem dX11_odds_37 : decode cX11_odds 37 = .ok (.if_icmp .lt 5, 3) := zo_161 (by decide +kernel)
theorem dX11_odds_40 : decode cX11_odds 40 = .ok (.iconst (-1), 1) := zo_2 (by decide +kernel)
theorem dX11_odds_41 : decode cX11_odds 41 = .ok (.ireturn, 1) := zo_172 (by decide +kernel)
theorem dX11_odds_42 : decode cX11_odds 42 = .ok (.aload_n 0, 1) := zo_42 (by decide +kernel)
theorem dX11_odds_43 : decode cX11_odds 43 = .ok (.getfield 65, 3) := zo_180 (by decide +kernel)
theorem dX11_odds_46 : decode cX11_odds 46 = .ok (.getfield 306, 3) := zo_180 (by decide +kernel)
theorem dX11_odds_49 : decode cX11_odds 49 = .ok (.ifCond .ne 5, 3) := zo_154 (by decide +kernel)
theorem dX11_odds_52 : decode cX11_odds 52 = .ok (.iconst (-1), 1) := zo_2 (by decide +kernel)
theorem dX11_odds_53 : decode cX11_odds 53 = .ok (.ireturn, 1) := zo_172 (by decide +kernel)
theorem dX11_odds_54 : decode cX11_odds 54 = .ok (.aload_n 0, 1) := zo_42 (by decide +kernel)
theorem dX11_odds_55 : decode cX11_odds 55 = .ok (.getfield 65, 3) := zo_180 (by decide +kernel)
theorem dX11_odds_58 : decode cX11_odds 58 = .ok (.aload_n 0, 1) := zo_42 (by decide +kernel)
theorem dX11_odds_59 : decode cX11_odds 59 = .ok (.iload_n 1, 1) := zo_27 (by decide +kernel)
theorem dX11_odds_60 : decode cX11_odds 60 = .ok (.aload 6, 2) := zo_25 (by decide +kernel)
theorem dX11_odds_62 : decode cX11_odds 62 = .ok (.invokevirtual 235, 3) := zo_182 (by decide +kernel)
theorem dX11_odds_65 : decode cX11_odds 65 = .ok (.iload_n 3, 1) := zo_29 (by decide +kernel)
theorem dX11_odds_66 : decode cX11_odds 66 = .ok (.iload 4, 2) := zo_21 (by decide +kernel)
theorem dX11_odds_68 : decode cX11_odds 68 = .ok (.invokevirtual 320, 3) := zo_182 (by decide +kernel)
theorem dX11_odds_71 : decode cX11_odds 71 = .ok (.istore 7, 2) := zo_54 (by decide +kernel)
theorem dX11_odds_73 : decode cX11_odds 73 = .ok (.iload 7, 2) := zo_21 (by decide +kernel)
theorem dX11_odds_75 : decode cX11_odds 75 = .ok (.aload_n 0, 1) := zo_42 (by decide +kernel)
theorem dX11_odds_76 : decode cX11_odds 76 = .ok (.getfield 65, 3) := zo_180 (by decide +kernel)
theorem dX11_odds_79 : decode cX11_odds 79 = .ok (.getfield 306, 3) := zo_180 (by decide +kernel)
theorem dX11_odds_82 : decode cX11_odds 82 = .ok (.iload 5, 2) := zo_21 (by decide +kernel)
theorem dX11_odds_84 : decode cX11_odds 84 = .ok (.invokestatic 262, 3) := zo_184 (by decide +kernel)
theorem dX11_odds_87 : decode cX11_odds 87 = .ok (.ireturn, 1) := zo_172 (by decide +kernel)
set_option maxHeartbeats 4000000 in
set_option maxRecDepth 100000 in
/-- c_least -/
theorem c_least (l : Launch) (T : zTy) (xo : Nat) (t : Nat) (im : Nat) (mk : Nat) (rd : Nat) (po : Nat) (co : Nat) (tr : Nat) (wa : Nat) (wb_ : Nat) (fi : Nat) (cd : Nat) (l0 : Nat) (l1 : Nat) (d0 : Nat) (d1 : Nat) (g0 : Nat) (g1 : Nat) (ln : Int32) (fl : Int32) (pl : Int32) (ft : Nat → Int32) (fk : Nat → Int32) (wt : va_W) (cr0_ : Int32) (inn0_ : Int32) (k10_ : Nat → Int32) (k20_ : Nat → Int32) (k30_ : Nat → Int32) (k40_ : Nat → Int32) (z0_ : va_W) (cr1_ : Int32) (inn1_ : Int32) (k11_ : Nat → Int32) (k21_ : Nat → Int32) (k31_ : Nat → Int32) (k41_ : Nat → Int32) (z1_ : va_W) (gg0_ : Int32) (q10_ : Nat → Int32) (q20_ : Nat → Int32) (wg0_ : va_W) (gg1_ : Int32) (q11_ : Nat → Int32) (q21_ : Nat → Int32) (wg1_ : va_W) (laA : Nat) (mdA : Int32) (wyA : Int32) (pc_A : Int32) (f1A : Nat → Int32) (f2A : Nat → Int32) (f3A : Nat → Int32) (f4A : Nat → Int32) (f5A : Nat → Int32) (f6A : Nat → Int32) (n4A : Nat) (wwA : va_W) (laB : Nat) (mdB : Int32) (wyB : Int32) (pc_B : Int32) (f1B : Nat → Int32) (f2B : Nat → Int32) (f3B : Nat → Int32) (f4B : Nat → Int32) (f5B : Nat → Int32) (f6B : Nat → Int32) (n4B : Nat) (wwB : va_W) (e0f : Int32) (e1f : Int32) (e2f : Int32) (e3f : Int32) (e4f : Int32) (e5f : Int32) (r1f : Nat → Int32) (m1f : Nat) (r2f : Nat → Int32) (wff : va_W) (i1 : Int32) (i2 : Int32) (w_ : Int32) (ht : bTold T t l0 l1 d0 d1 g0 g1 ln fl pl ft fk wt) (hK : zKT fk) (hz0_ : bLand T l0 cr0_ inn0_ k10_ k20_ k30_ k40_ z0_) (hI0_ : zLI cr0_ k10_ k30_) (hz1_ : bLand T l1 cr1_ inn1_ k11_ k21_ k31_ k41_ z1_) (hI1_ : zLI cr1_ k11_ k31_) (hg0_ : bLog T g0 gg0_ q10_ q20_ wg0_) (hg1_ : bLog T g1 gg1_ q11_ q21_ wg1_) (hwwA : bWays T wa laA mdA wyA pc_A f1A f2A f3A f4A f5A f6A n4A wwA) (hpwA : zPw n4A) (hmdA : mdA = 0 ∨ laA = l0) (hwmA : 0 ≤ wyA.toInt ∧ wyA.toInt ≤ 16384) (hwwB : bWays T wb_ laB mdB wyB pc_B f1B f2B f3B f4B f5B f6B n4B wwB) (hpwB : zPw n4B) (hmdB : mdB = 0 ∨ laB = l1) (hwmB : 0 ≤ wyB.toInt ∧ wyB.toInt ≤ 16384) (hwff : bFit T fi e0f e1f e2f e3f e4f e5f r1f m1f r2f wff) (hfw : zFw m1f) (hf3 : 0 ≤ e3f.toInt) (hFI : (¬ e0f = 0 → e1f.toInt = 0 ∧ ¬ mdA = 0 ∨ e1f.toInt = 1 ∧ ¬ mdB = 0)) : zMi l T yX11_least cX11_least 4 (some .int) 8 4 (6 * (zNA (i1.toInt = 0 ∧ 0 < (fk 0).toInt ∧ (0 ≤ i2.toInt ∧ i2.toInt < (fk 2).toInt ∧ i2.toInt < 2) ∧ (e0f.toInt = 0 ∨ ¬ e1f.toInt = i1.toInt ∨ ¬ e2f.toInt = i2.toInt)) mdA n4A (zPl cr0_ inn0_ k10_) - n4A) + 6 * (zNA (i1.toInt = 1 ∧ 1 < (fk 0).toInt ∧ (0 ≤ i2.toInt ∧ i2.toInt < (fk 2).toInt ∧ i2.toInt < 2) ∧ (e0f.toInt = 0 ∨ ¬ e1f.toInt = i1.toInt ∨ ¬ e2f.toInt = i2.toInt)) mdB n4B (zPl cr1_ inn1_ k11_) - n4B) + 2 * (zNF (i1.toInt = 1 ∧ 1 < (fk 0).toInt ∧ (0 ≤ i2.toInt ∧ i2.toInt < (fk 2).toInt ∧ i2.toInt < 2) ∧ (e0f.toInt = 0 ∨ ¬ e1f.toInt = i1.toInt ∨ ¬ e2f.toInt = i2.toInt)) (zNF (i1.toInt = 0 ∧ 0 < (fk 0).toInt ∧ (0 ≤ i2.toInt ∧ i2.toInt < (fk 2).toInt ∧ i2.toInt < 2) ∧ (e0f.toInt = 0 ∨ ¬ e1f.toInt = i1.toInt ∨ ¬ e2f.toInt = i2.toInt)) m1f (zMw mdA wyA cr0_ inn0_ k10_)) (zMw mdB wyB cr1_ inn1_ k11_) - m1f)) [.ref xo, .int i1, .int i2, .int w_] [[zO10 xo t im mk rd po co tr wa wb_ fi cd], wt, z0_, z1_, wg0_, wg1_, wwA, wwB, wff] (fun (r : Int32) bs => ∃ (laA_2 : Nat) (mdA_2 : Int32) (wyA_2 : Int32) (pc_A_2 : Int32) (f1A_2 : Nat → Int32) (f2A_2 : Nat → Int32) (f3A_2 : Nat → Int32) (f4A_2 : Nat → Int32) (f5A_2 : Nat → Int32) (f6A_2 : Nat → Int32) (n4A_2 : Nat) (wwA_2 : va_W) (laB_2 : Nat) (mdB_2 : Int32) (wyB_2 : Int32) (pc_B_2 : Int32) (f1B_2 : Nat → Int32) (f2B_2 : Nat → Int32) (f3B_2 : Nat → Int32) (f4B_2 : Nat → Int32) (f5B_2 : Nat → Int32) (f6B_2 : Nat → Int32) (n4B_2 : Nat) (wwB_2 : va_W) (e0f_2 : Int32) (e1f_2 : Int32) (e2f_2 : Int32) (e3f_2 : Int32) (e4f_2 : Int32) (e5f_2 : Int32) (r1f_2 : Nat → Int32) (m1f_2 : Nat) (r2f_2 : Nat → Int32) (wff_2 : va_W), bs = [[zO10 xo t im mk rd po co tr wa wb_ fi cd], wt, z0_, z1_, wg0_, wg1_, wwA_2, wwB_2, wff_2] ∧ bWays T wa laA_2 mdA_2 wyA_2 pc_A_2 f1A_2 f2A_2 f3A_2 f4A_2 f5A_2 f6A_2 n4A_2 wwA_2 ∧ (mdA_2 = 0 ∨ laA_2 = l0) ∧ (0 ≤ wyA_2.toInt ∧ wyA_2.toInt ≤ 16384) ∧ n4A_2 = zNA (i1.toInt = 0 ∧ 0 < (fk 0).toInt ∧ (0 ≤ i2.toInt ∧ i2.toInt < (fk 2).toInt ∧ i2.toInt < 2) ∧ (e0f.toInt = 0 ∨ ¬ e1f.toInt = i1.toInt ∨ ¬ e2f.toInt = i2.toInt)) mdA n4A (zPl cr0_ inn0_ k10_) ∧ zPw n4A_2 ∧ (¬ mdA = 0 → ¬ mdA_2 = 0) ∧ bWays T wb_ laB_2 mdB_2 wyB_2 pc_B_2 f1B_2 f2B_2 f3B_2 f4B_2 f5B_2 f6B_2 n4B_2 wwB_2 ∧ (mdB_2 = 0 ∨ laB_2 = l1) ∧ (0 ≤ wyB_2.toInt ∧ wyB_2.toInt ≤ 16384) ∧ n4B_2 = zNA (i1.toInt = 1 ∧ 1 < (fk 0).toInt ∧ (0 ≤ i2.toInt ∧ i2.toInt < (fk 2).toInt ∧ i2.toInt < 2) ∧ (e0f.toInt = 0 ∨ ¬ e1f.toInt = i1.toInt ∨ ¬ e2f.toInt = i2.toInt)) mdB n4B (zPl cr1_ inn1_ k11_) ∧ zPw n4B_2 ∧ (¬ mdB = 0 → ¬ mdB_2 = 0) ∧ bFit T fi e0f_2 e1f_2 e2f_2 e3f_2 e4f_2 e5f_2 r1f_2 m1f_2 r2f_2 wff_2 ∧ m1f_2 = zNF (i1.toInt = 1 ∧ 1 < (fk 0).toInt ∧ (0 ≤ i2.toInt ∧ i2.toInt < (fk 2).toInt ∧ i2.toInt < 2) ∧ (e0f.toInt = 0 ∨ ¬ e1f.toInt = i1.toInt ∨ ¬ e2f.toInt = i2.toInt)) (zNF (i1.toInt = 0 ∧ 0 < (fk 0).toInt ∧ (0 ≤ i2.toInt ∧ i2.toInt < (fk 2).toInt ∧ i2.toInt < 2) ∧ (e0f.toInt = 0 ∨ ¬ e1f.toInt = i1.toInt ∨ ¬ e2f.toInt = i2.toInt)) m1f (zMw mdA wyA cr0_ inn0_ k10_)) (zMw mdB wyB cr1_ inn1_ k11_) ∧ zFw m1f_2 ∧ 0 ≤ e3f_2.toInt ∧ (¬ e0f_2 = 0 → e1f_2.toInt = 0 ∧ ¬ mdA_2 = 0 ∨ e1f_2.toInt = 1 ∧ ¬ mdB_2 = 0)) := by
  refine zMi_of (own := RX11) (by decide) rfl (Nat.le_of_ble_eq_true rfl) ?_
  intro p e s m args below meth c A ls C hr hlocks hnm hAe G hl
  refine zHide (fun Qz_ hQz_ => ?_)
  have hx := C.1
  have hb := C.2.1
  replace hmdA : zHd (mdA = 0 ∨ laA = l0) := hmdA
  replace hmdB : zHd (mdB = 0 ∨ laB = l1) := hmdB
  replace hFI : zHd ((¬ e0f = 0 → e1f.toInt = 0 ∧ ¬ mdA = 0 ∨ e1f.toInt = 1 ∧ ¬ mdB = 0)) := hFI
  have hl : lv_has ls 4 [(0, .ref xo), (1, .int i1), (2, .int i2), (3, .int w_)] := hl
  refine lv_aload_n hx hb dX11_least_0 rfl (lv_at hl 0 rfl) ?_
  refine lv_iload_n hx hb dX11_least_1 rfl (lv_at hl 1 rfl) ?_
  refine lv_iload_n hx hb dX11_least_2 rfl (lv_at hl 2 rfl) ?_
  refine z_Vi (bc := [[zO10 xo t im mk rd po co tr wa wb_ fi cd], wt, z0_, z1_, wg0_, wg1_, wwA, wwB, wff]) (br := []) (As := [.int i1, .int i2]) (rest := []) C G (c_fit l T xo t im mk rd po co tr wa wb_ fi cd l0 l1 d0 d1 g0 g1 ln fl pl ft fk wt cr0_ inn0_ k10_ k20_ k30_ k40_ z0_ cr1_ inn1_ k11_ k21_ k31_ k41_ z1_ gg0_ q10_ q20_ wg0_ gg1_ q11_ q21_ wg1_ laA mdA wyA pc_A f1A f2A f3A f4A f5A f6A n4A wwA laB mdB wyB pc_B f1B f2B f3B f4B f5B f6B n4B wwB e0f e1f e2f e3f e4f e5f r1f m1f r2f wff i1 i2 ht (by first | with_reducible assumption | with_reducible rfl | omega | assumption | rfl) hz0_ (by first | with_reducible assumption | with_reducible rfl | omega | assumption | rfl) hz1_ (by first | with_reducible assumption | with_reducible rfl | omega | assumption | rfl) hg0_ hg1_ hwwA (by first | with_reducible assumption | with_reducible rfl | omega | assumption | rfl) (by first | with_reducible assumption | with_reducible rfl | omega | assumption | rfl) (by first | with_reducible assumption | with_reducible rfl | omega | assumption | rfl) hwwB (by first | with_reducible assumption | with_reducible rfl | omega | assumption | rfl) (by first | with_reducible assumption | with_reducible rfl | omega | assumption | rfl) (by first | with_reducible assumption | with_reducible rfl | omega | assumption | rfl) hwff hfw hf3 hFI) (kV_RX11_302 C.2.2.2.2 (Nat.le_of_ble_eq_true rfl) (Nat.le_of_ble_eq_true rfl)) [0, 1, 2, 3, 4, 5, 6, 7, 8] [0, 0, 0, 0, 0, 0, 0, 0, 0] rfl rfl (ci := 10) (qc := (RX11, TX11, 11)) rfl rfl (List.mem_flatten.mpr ⟨_, List.mem_of_getElem? (i := 0) rfl, List.mem_cons_self⟩) rfl rfl hl.1 dX11_least_3 (Nat.le_of_ble_eq_true rfl) (by show _ + (6 * (zNA (i1.toInt = 0 ∧ 0 < (fk 0).toInt ∧ (0 ≤ i2.toInt ∧ i2.toInt < (fk 2).toInt ∧ i2.toInt < 2) ∧ (e0f.toInt = 0 ∨ ¬ e1f.toInt = i1.toInt ∨ ¬ e2f.toInt = i2.toInt)) mdA n4A (zPl cr0_ inn0_ k10_) - n4A) + 6 * (zNA (i1.toInt = 1 ∧ 1 < (fk 0).toInt ∧ (0 ≤ i2.toInt ∧ i2.toInt < (fk 2).toInt ∧ i2.toInt < 2) ∧ (e0f.toInt = 0 ∨ ¬ e1f.toInt = i1.toInt ∨ ¬ e2f.toInt = i2.toInt)) mdB n4B (zPl cr1_ inn1_ k11_) - n4B) + 2 * (zNF (i1.toInt = 1 ∧ 1 < (fk 0).toInt ∧ (0 ≤ i2.toInt ∧ i2.toInt < (fk 2).toInt ∧ i2.toInt < 2) ∧ (e0f.toInt = 0 ∨ ¬ e1f.toInt = i1.toInt ∨ ¬ e2f.toInt = i2.toInt)) (zNF (i1.toInt = 0 ∧ 0 < (fk 0).toInt ∧ (0 ≤ i2.toInt ∧ i2.toInt < (fk 2).toInt ∧ i2.toInt < 2) ∧ (e0f.toInt = 0 ∨ ¬ e1f.toInt = i1.toInt ∨ ¬ e2f.toInt = i2.toInt)) m1f (zMw mdA wyA cr0_ inn0_ k10_)) (zMw mdB wyB cr1_ inn1_ k11_) - m1f)) ≤ 6 * (zNA (i1.toInt = 0 ∧ 0 < (fk 0).toInt ∧ (0 ≤ i2.toInt ∧ i2.toInt < (fk 2).toInt ∧ i2.toInt < 2) ∧ (e0f.toInt = 0 ∨ ¬ e1f.toInt = i1.toInt ∨ ¬ e2f.toInt = i2.toInt)) mdA n4A (zPl cr0_ inn0_ k10_) - n4A) + 6 * (zNA (i1.toInt = 1 ∧ 1 < (fk 0).toInt ∧ (0 ≤ i2.toInt ∧ i2.toInt < (fk 2).toInt ∧ i2.toInt < 2) ∧ (e0f.toInt = 0 ∨ ¬ e1f.toInt = i1.toInt ∨ ¬ e2f.toInt = i2.toInt)) mdB n4B (zPl cr1_ inn1_ k11_) - n4B) + 2 * (zNF (i1.toInt = 1 ∧ 1 < (fk 0).toInt ∧ (0 ≤ i2.toInt ∧ i2.toInt < (fk 2).toInt ∧ i2.toInt < 2) ∧ (e0f.toInt = 0 ∨ ¬ e1f.toInt = i1.toInt ∨ ¬ e2f.toInt = i2.toInt)) (zNF (i1.toInt = 0 ∧ 0 < (fk 0).toInt ∧ (0 ≤ i2.toInt ∧ i2.toInt < (fk 2).toInt ∧ i2.toInt < 2) ∧ (e0f.toInt = 0 ∨ ¬ e1f.toInt = i1.toInt ∨ ¬ e2f.toInt = i2.toInt)) m1f (zMw mdA wyA cr0_ inn0_ k10_)) (zMw mdB wyB cr1_ inn1_ k11_) - m1f); omega) (fun r_53 b1 H locs hw G => ?_)
  refine zEx34 hw ?_
  intro laA_1 mdA_2 wyA_3 pc_A_4 f1A_5 f2A_6 f3A_7 f4A_8 f5A_9 f6A_10 n4A_11 wwA_12 laB_13 mdB_14 wyB_15 pc_B_16 f1B_17 f2B_18 f3B_19 f4B_20 f5B_21 f6B_22 n4B_23 wwB_24 e0f_25 e1f_26 e2f_27 e3f_28 e4f_29 e5f_30 r1f_31 m1f_32 r2f_33 wff_34
  refine zCu19 ?_
  intro hbs9 h_35 h_36 h_37 h_38 h_39 h_40 h_41 h_42 h_43 h_44 h_45 h_46 h_47 h_48 h_49 h_50 h_51 h_52
  clear hw
  subst hbs9
  have G : zS T A s.heap s [[zO10 xo t im mk rd po co tr wa wb_ fi cd], wt, z0_, z1_, wg0_, wg1_, wwA_12, wwB_24, wff_34] _ _ := G
  replace h_36 : zHd ((mdA_2 = 0 ∨ laA_1 = l0)) := h_36
  replace h_40 : zHd ((¬ mdA = 0 → ¬ mdA_2 = 0)) := h_40
  replace h_42 : zHd ((mdB_14 = 0 ∨ laB_13 = l1)) := h_42
  replace h_46 : zHd ((¬ mdB = 0 → ¬ mdB_14 = 0)) := h_46
  replace h_52 : zHd ((¬ e0f_25 = 0 → e1f_26.toInt = 0 ∧ ¬ mdA_2 = 0 ∨ e1f_26.toInt = 1 ∧ ¬ mdB_14 = 0)) := h_52
  have hfm9 : m1f_32 ≤ 16384 := zFw_le h_49
  refine lv_if_eq (tgt := 19) hx hb dX11_least_6 (by decide) (fun c_54 => ?_) (fun c_54 => ?_)
  · have c_54n : r_53.toInt = (0 : Int) := (fa_eq _ _).mp c_54
    refine lv_iconst (v := (-1)) hx hb dX11_least_19 (by decide) ?_
    exact z_back hQz_ (z_iret C hr hlocks G (Nat.le_of_ble_eq_true rfl) (by omega) dX11_least_20 ⟨laA_1, mdA_2, wyA_3, pc_A_4, f1A_5, f2A_6, f3A_7, f4A_8, f5A_9, f6A_10, n4A_11, wwA_12, laB_13, mdB_14, wyB_15, pc_B_16, f1B_17, f2B_18, f3B_19, f4B_20, f5B_21, f6B_22, n4B_23, wwB_24, e0f_25, e1f_26, e2f_27, e3f_28, e4f_29, e5f_30, r1f_31, m1f_32, r2f_33, wff_34, rfl, h_35, h_36, h_37, h_38, h_39, h_40, h_41, h_42, h_43, h_44, h_45, h_46, h_47, h_48, h_49, h_50, h_52⟩)
  · have c_54n : ¬ r_53.toInt = (0 : Int) := fun q => c_54 ((fa_eq _ _).mpr q)
    refine lv_aload_n hx hb dX11_least_9 rfl (lv_at hl 0 rfl) ?_
    refine z_get C G clX11 0 rfl 9 (by decide) m_fl_RX11_65 rfl dX11_least_10 ?_
    refine zEx2 h_47 ?_
    intro a1_55 a2_56 hbs9
    clear h_47
    subst hbs9
    have G : zS T A s.heap s [[zO10 xo t im mk rd po co tr wa wb_ fi cd], wt, z0_, z1_, wg0_, wg1_, wwA_12, wwB_24, [zO3 fi e0f_25 e1f_26 e2f_27 e3f_28 e4f_29 e5f_30 a1_55 a2_56], [zAr T 0 a1_55 m1f_32 r1f_31], [zAr T 0 a2_56 7 r2f_33]] _ _ := G.re rfl
    refine z_get C G clX3 8 rfl 3 (by decide) m_fl_RX11_306 rfl dX11_least_13 ?_
    refine lv_if_ne (tgt := 21) hx hb dX11_least_16 (by decide) (fun c_57 => ?_) (fun c_57 => ?_)
    · have c_57n : ¬ e3f_28.toInt = (0 : Int) := fun q => c_57 ((fa_eq _ _).mpr q)
      refine lv_iload_n hx hb dX11_least_21 rfl (lv_at hl 3 rfl) ?_
      refine lv_if_eq (tgt := 35) hx hb dX11_least_22 (by decide) (fun c_58 => ?_) (fun c_58 => ?_)
      · have c_58n : w_.toInt = (0 : Int) := (fa_eq _ _).mp c_58
        refine lv_aload_n hx hb dX11_least_35 rfl (lv_at hl 0 rfl) ?_
        refine z_get C G clX11 0 rfl 9 (by decide) m_fl_RX11_65 rfl dX11_least_36 ?_
        refine z_get C G clX3 8 rfl 4 (by decide) m_fl_RX11_327 rfl dX11_least_39 ?_
        have hw_59 : bFit T fi e0f_25 e1f_26 e2f_27 e3f_28 e4f_29 e5f_30 r1f_31 m1f_32 r2f_33 [zO3 fi e0f_25 e1f_26 e2f_27 e3f_28 e4f_29 e5f_30 a1_55 a2_56, zAr T 0 a1_55 m1f_32 r1f_31, zAr T 0 a2_56 7 r2f_33] := ⟨a1_55, a2_56, rfl⟩
        have G : zS T A s.heap s [[zO10 xo t im mk rd po co tr wa wb_ fi cd], wt, z0_, z1_, wg0_, wg1_, wwA_12, wwB_24, [zO3 fi e0f_25 e1f_26 e2f_27 e3f_28 e4f_29 e5f_30 a1_55 a2_56, zAr T 0 a1_55 m1f_32 r1f_31, zAr T 0 a2_56 7 r2f_33]] _ _ := G.re rfl
        exact z_back hQz_ (z_iret C hr hlocks G (Nat.le_of_ble_eq_true rfl) (by omega) dX11_least_42 ⟨laA_1, mdA_2, wyA_3, pc_A_4, f1A_5, f2A_6, f3A_7, f4A_8, f5A_9, f6A_10, n4A_11, wwA_12, laB_13, mdB_14, wyB_15, pc_B_16, f1B_17, f2B_18, f3B_19, f4B_20, f5B_21, f6B_22, n4B_23, wwB_24, e0f_25, e1f_26, e2f_27, e3f_28, e4f_29, e5f_30, r1f_31, m1f_32, r2f_33, ([zO3 fi e0f_25 e1f_26 e2f_27 e3f_28 e4f_29 e5f_30 a1_55 a2_56, zAr T 0 a1_55 m1f_32 r1f_31, zAr T 0 a2_56 7 r2f_33]), rfl, h_35, h_36, h_37, h_38, h_39, h_40, h_41, h_42, h_43, h_44, h_45, h_46, hw_59, h_48, h_49, h_50, h_52⟩)
      · have c_58n : ¬ w_.toInt = (0 : Int) := fun q => c_58 ((fa_eq _ _).mpr q)
        refine lv_aload_n hx hb dX11_least_25 rfl (lv_at hl 0 rfl) ?_
        refine z_get C G clX11 0 rfl 9 (by decide) m_fl_RX11_65 rfl dX11_least_26 ?_
        refine z_get C G clX3 8 rfl 5 (by decide) m_fl_RX11_324 rfl dX11_least_29 ?_
        refine lv_goto (tgt := 42) hx hb dX11_least_32 (by decide) ?_
        have hw_60 : bFit T fi e0f_25 e1f_26 e2f_27 e3f_28 e4f_29 e5f_30 r1f_31 m1f_32 r2f_33 [zO3 fi e0f_25 e1f_26 e2f_27 e3f_28 e4f_29 e5f_30 a1_55 a2_56, zAr T 0 a1_55 m1f_32 r1f_31, zAr T 0 a2_56 7 r2f_33] := ⟨a1_55, a2_56, rfl⟩
        have G : zS T A s.heap s [[zO10 xo t im mk rd po co tr wa wb_ fi cd], wt, z0_, z1_, wg0_, wg1_, wwA_12, wwB_24, [zO3 fi e0f_25 e1f_26 e2f_27 e3f_28 e4f_29 e5f_30 a1_55 a2_56, zAr T 0 a1_55 m1f_32 r1f_31, zAr T 0 a2_56 7 r2f_33]] _ _ := G.re rfl
        exact z_back hQz_ (z_iret C hr hlocks G (Nat.le_of_ble_eq_true rfl) (by omega) dX11_least_42 ⟨laA_1, mdA_2, wyA_3, pc_A_4, f1A_5, f2A_6, f3A_7, f4A_8, f5A_9, f6A_10, n4A_11, wwA_12, laB_13, mdB_14, wyB_15, pc_B_16, f1B_17, f2B_18, f3B_19, f4B_20, f5B_21, f6B_22, n4B_23, wwB_24, e0f_25, e1f_26, e2f_27, e3f_28, e4f_29, e5f_30, r1f_31, m1f_32, r2f_33, ([zO3 fi e0f_25 e1f_26 e2f_27 e3f_28 e4f_29 e5f_30 a1_55 a2_56, zAr T 0 a1_55 m1f_32 r1f_31, zAr T 0 a2_56 7 r2f_33]), rfl, h_35, h_36, h_37, h_38, h_39, h_40, h_41, h_42, h_43, h_44, h_45, h_46, hw_60, h_48, h_49, h_50, h_52⟩)
    · have c_57n : e3f_28.toInt = (0 : Int) := (fa_eq _ _).mp c_57
      refine lv_iconst (v := (-1)) hx hb dX11_least_19 (by decide) ?_
      have hw_61 : bFit T fi e0f_25 e1f_26 e2f_27 e3f_28 e4f_29 e5f_30 r1f_31 m1f_32 r2f_33 [zO3 fi e0f_25 e1f_26 e2f_27 e3f_28 e4f_29 e5f_30 a1_55 a2_56, zAr T 0 a1_55 m1f_32 r1f_31, zAr T 0 a2_56 7 r2f_33] := ⟨a1_55, a2_56, rfl⟩
      have G : zS T A s.heap s [[zO10 xo t im mk rd po co tr wa wb_ fi cd], wt, z0_, z1_, wg0_, wg1_, wwA_12, wwB_24, [zO3 fi e0f_25 e1f_26 e2f_27 e3f_28 e4f_29 e5f_30 a1_55 a2_56, zAr T 0 a1_55 m1f_32 r1f_31, zAr T 0 a2_56 7 r2f_33]] _ _ := G.re rfl
      exact z_back hQz_ (z_iret C hr hlocks G (Nat.le_of_ble_eq_true rfl) (by omega) dX11_least_20 ⟨laA_1, mdA_2, wyA_3, pc_A_4, f1A_5, f2A_6, f3A_7, f4A_8, f5A_9, f6A_10, n4A_11, wwA_12, laB_13, mdB_14, wyB_15, pc_B_16, f1B_17, f2B_18, f3B_19, f4B_20, f5B_21, f6B_22, n4B_23, wwB_24, e0f_25, e1f_26, e2f_27, e3f_28, e4f_29, e5f_30, r1f_31, m1f_32, r2f_33, ([zO3 fi e0f_25 e1f_26 e2f_27 e3f_28 e4f_29 e5f_30 a1_55 a2_56, zAr T 0 a1_55 m1f_32 r1f_31, zAr T 0 a2_56 7 r2f_33]), rfl, h_35, h_36, h_37, h_38, h_39, h_40, h_41, h_42, h_43, h_44, h_45, h_46, hw_61, h_48, h_49, h_50, h_52⟩)
set_option maxHeartbeats 4000000 in
set_option maxRecDepth 100000 in
/-- c_fits -/
theorem c_fits (l : Launch) (T : zTy) (xo : Nat) (t : Nat) (im : Nat) (mk : Nat) (rd : Nat) (po : Nat) (co : Nat) (tr : Nat) (wa : Nat) (wb_ : Nat) (fi : Nat) (cd : Nat) (l0 : Nat) (l1 : Nat) (d0 : Nat) (d1 : Nat) (g0 : Nat) (g1 : Nat) (ln : Int32) (fl : Int32) (pl : Int32) (ft : Nat → Int32) (fk : Nat → Int32) (wt : va_W) (cr0_ : Int32) (inn0_ : Int32) (k10_ : Nat → Int32) (k20_ : Nat → Int32) (k30_ : Nat → Int32) (k40_ : Nat → Int32) (z0_ : va_W) (cr1_ : Int32) (inn1_ : Int32) (k11_ : Nat → Int32) (k21_ : Nat → Int32) (k31_ : Nat → Int32) (k41_ : Nat → Int32) (z1_ : va_W) (gg0_ : Int32) (q10_ : Nat → Int32) (q20_ : Nat → Int32) (wg0_ : va_W) (gg1_ : Int32) (q11_ : Nat → Int32) (q21_ : Nat → Int32) (wg1_ : va_W) (laA : Nat) (mdA : Int32) (wyA : Int32) (pc_A : Int32) (f1A : Nat → Int32) (f2A : Nat → Int32) (f3A : Nat → Int32) (f4A : Nat → Int32) (f5A : Nat → Int32) (f6A : Nat → Int32) (n4A : Nat) (wwA : va_W) (laB : Nat) (mdB : Int32) (wyB : Int32) (pc_B : Int32) (f1B : Nat → Int32) (f2B : Nat → Int32) (f3B : Nat → Int32) (f4B : Nat → Int32) (f5B : Nat → Int32) (f6B : Nat → Int32) (n4B : Nat) (wwB : va_W) (e0f : Int32) (e1f : Int32) (e2f : Int32) (e3f : Int32) (e4f : Int32) (e5f : Int32) (r1f : Nat → Int32) (m1f : Nat) (r2f : Nat → Int32) (wff : va_W) (i1 : Int32) (i2 : Int32) (w_ : Int32) (ht : bTold T t l0 l1 d0 d1 g0 g1 ln fl pl ft fk wt) (hK : zKT fk) (hz0_ : bLand T l0 cr0_ inn0_ k10_ k20_ k30_ k40_ z0_) (hI0_ : zLI cr0_ k10_ k30_) (hz1_ : bLand T l1 cr1_ inn1_ k11_ k21_ k31_ k41_ z1_) (hI1_ : zLI cr1_ k11_ k31_) (hg0_ : bLog T g0 gg0_ q10_ q20_ wg0_) (hg1_ : bLog T g1 gg1_ q11_ q21_ wg1_) (hwwA : bWays T wa laA mdA wyA pc_A f1A f2A f3A f4A f5A f6A n4A wwA) (hpwA : zPw n4A) (hmdA : mdA = 0 ∨ laA = l0) (hwmA : 0 ≤ wyA.toInt ∧ wyA.toInt ≤ 16384) (hwwB : bWays T wb_ laB mdB wyB pc_B f1B f2B f3B f4B f5B f6B n4B wwB) (hpwB : zPw n4B) (hmdB : mdB = 0 ∨ laB = l1) (hwmB : 0 ≤ wyB.toInt ∧ wyB.toInt ≤ 16384) (hwff : bFit T fi e0f e1f e2f e3f e4f e5f r1f m1f r2f wff) (hfw : zFw m1f) (hf3 : 0 ≤ e3f.toInt) (hFI : (¬ e0f = 0 → e1f.toInt = 0 ∧ ¬ mdA = 0 ∨ e1f.toInt = 1 ∧ ¬ mdB = 0)) : zMi l T yX11_fits cX11_fits 7 (some .int) 8 7 (6 * (zNA (i1.toInt = 0 ∧ 0 < (fk 0).toInt ∧ (0 ≤ i2.toInt ∧ i2.toInt < (fk 2).toInt ∧ i2.toInt < 2) ∧ (e0f.toInt = 0 ∨ ¬ e1f.toInt = i1.toInt ∨ ¬ e2f.toInt = i2.toInt)) mdA n4A (zPl cr0_ inn0_ k10_) - n4A) + 6 * (zNA (i1.toInt = 1 ∧ 1 < (fk 0).toInt ∧ (0 ≤ i2.toInt ∧ i2.toInt < (fk 2).toInt ∧ i2.toInt < 2) ∧ (e0f.toInt = 0 ∨ ¬ e1f.toInt = i1.toInt ∨ ¬ e2f.toInt = i2.toInt)) mdB n4B (zPl cr1_ inn1_ k11_) - n4B) + 2 * (zNF (i1.toInt = 1 ∧ 1 < (fk 0).toInt ∧ (0 ≤ i2.toInt ∧ i2.toInt < (fk 2).toInt ∧ i2.toInt < 2) ∧ (e0f.toInt = 0 ∨ ¬ e1f.toInt = i1.toInt ∨ ¬ e2f.toInt = i2.toInt)) (zNF (i1.toInt = 0 ∧ 0 < (fk 0).toInt ∧ (0 ≤ i2.toInt ∧ i2.toInt < (fk 2).toInt ∧ i2.toInt < 2) ∧ (e0f.toInt = 0 ∨ ¬ e1f.toInt = i1.toInt ∨ ¬ e2f.toInt = i2.toInt)) m1f (zMw mdA wyA cr0_ inn0_ k10_)) (zMw mdB wyB cr1_ inn1_ k11_) - m1f)) [.ref xo, .int i1, .int i2, .int w_] [[zO10 xo t im mk rd po co tr wa wb_ fi cd], wt, z0_, z1_, wg0_, wg1_, wwA, wwB, wff] (fun (r : Int32) bs => ∃ (laA_2 : Nat) (mdA_2 : Int32) (wyA_2 : Int32) (pc_A_2 : Int32) (f1A_2 : Nat → Int32) (f2A_2 : Nat → Int32) (f3A_2 : Nat → Int32) (f4A_2 : Nat → Int32) (f5A_2 : Nat → Int32) (f6A_2 : Nat → Int32) (n4A_2 : Nat) (wwA_2 : va_W) (laB_2 : Nat) (mdB_2 : Int32) (wyB_2 : Int32) (pc_B_2 : Int32) (f1B_2 : Nat → Int32) (f2B_2 : Nat → Int32) (f3B_2 : Nat → Int32) (f4B_2 : Nat → Int32) (f5B_2 : Nat → Int32) (f6B_2 : Nat → Int32) (n4B_2 : Nat) (wwB_2 : va_W) (e0f_2 : Int32) (e1f_2 : Int32) (e2f_2 : Int32) (e3f_2 : Int32) (e4f_2 : Int32) (e5f_2 : Int32) (r1f_2 : Nat → Int32) (m1f_2 : Nat) (r2f_2 : Nat → Int32) (wff_2 : va_W), bs = [[zO10 xo t im mk rd po co tr wa wb_ fi cd], wt, z0_, z1_, wg0_, wg1_, wwA_2, wwB_2, wff_2] ∧ bWays T wa laA_2 mdA_2 wyA_2 pc_A_2 f1A_2 f2A_2 f3A_2 f4A_2 f5A_2 f6A_2 n4A_2 wwA_2 ∧ (mdA_2 = 0 ∨ laA_2 = l0) ∧ (0 ≤ wyA_2.toInt ∧ wyA_2.toInt ≤ 16384) ∧ n4A_2 = zNA (i1.toInt = 0 ∧ 0 < (fk 0).toInt ∧ (0 ≤ i2.toInt ∧ i2.toInt < (fk 2).toInt ∧ i2.toInt < 2) ∧ (e0f.toInt = 0 ∨ ¬ e1f.toInt = i1.toInt ∨ ¬ e2f.toInt = i2.toInt)) mdA n4A (zPl cr0_ inn0_ k10_) ∧ zPw n4A_2 ∧ (¬ mdA = 0 → ¬ mdA_2 = 0) ∧ bWays T wb_ laB_2 mdB_2 wyB_2 pc_B_2 f1B_2 f2B_2 f3B_2 f4B_2 f5B_2 f6B_2 n4B_2 wwB_2 ∧ (mdB_2 = 0 ∨ laB_2 = l1) ∧ (0 ≤ wyB_2.toInt ∧ wyB_2.toInt ≤ 16384) ∧ n4B_2 = zNA (i1.toInt = 1 ∧ 1 < (fk 0).toInt ∧ (0 ≤ i2.toInt ∧ i2.toInt < (fk 2).toInt ∧ i2.toInt < 2) ∧ (e0f.toInt = 0 ∨ ¬ e1f.toInt = i1.toInt ∨ ¬ e2f.toInt = i2.toInt)) mdB n4B (zPl cr1_ inn1_ k11_) ∧ zPw n4B_2 ∧ (¬ mdB = 0 → ¬ mdB_2 = 0) ∧ bFit T fi e0f_2 e1f_2 e2f_2 e3f_2 e4f_2 e5f_2 r1f_2 m1f_2 r2f_2 wff_2 ∧ m1f_2 = zNF (i1.toInt = 1 ∧ 1 < (fk 0).toInt ∧ (0 ≤ i2.toInt ∧ i2.toInt < (fk 2).toInt ∧ i2.toInt < 2) ∧ (e0f.toInt = 0 ∨ ¬ e1f.toInt = i1.toInt ∨ ¬ e2f.toInt = i2.toInt)) (zNF (i1.toInt = 0 ∧ 0 < (fk 0).toInt ∧ (0 ≤ i2.toInt ∧ i2.toInt < (fk 2).toInt ∧ i2.toInt < 2) ∧ (e0f.toInt = 0 ∨ ¬ e1f.toInt = i1.toInt ∨ ¬ e2f.toInt = i2.toInt)) m1f (zMw mdA wyA cr0_ inn0_ k10_)) (zMw mdB wyB cr1_ inn1_ k11_) ∧ zFw m1f_2 ∧ 0 ≤ e3f_2.toInt ∧ (¬ e0f_2 = 0 → e1f_2.toInt = 0 ∧ ¬ mdA_2 = 0 ∨ e1f_2.toInt = 1 ∧ ¬ mdB_2 = 0)) := by
  refine zMi_of (own := RX11) (by decide) rfl (Nat.le_of_ble_eq_true rfl) ?_
  intro p e s m args below meth c A ls C hr hlocks hnm hAe G hl
  refine zHide (fun Qz_ hQz_ => ?_)
  have hx := C.1
  have hb := C.2.1
  replace hmdA : zHd (mdA = 0 ∨ laA = l0) := hmdA
  replace hmdB : zHd (mdB = 0 ∨ laB = l1) := hmdB
  replace hFI : zHd ((¬ e0f = 0 → e1f.toInt = 0 ∧ ¬ mdA = 0 ∨ e1f.toInt = 1 ∧ ¬ mdB = 0)) := hFI
  have hl : lv_has ls 7 [(0, .ref xo), (1, .int i1), (2, .int i2), (3, .int w_)] := hl
  refine lv_aload_n hx hb dX11_fits_0 rfl (lv_at hl 0 rfl) ?_
  refine z_get C G clX11 0 rfl 0 (by decide) m_fl_RX11_10 rfl dX11_fits_1 ?_
  refine lv_iload_n hx hb dX11_fits_4 rfl (lv_at hl 1 rfl) ?_
  refine z_Vq (bc := [wt]) (br := [[zO10 xo t im mk rd po co tr wa wb_ fi cd], z0_, z1_, wg0_, wg1_, wwA, wwB, wff]) (As := [.int i1]) (rest := []) C G (c_landAt l T t l0 l1 d0 d1 g0 g1 ln fl pl ft fk wt i1 ht) (kV_RX11_121 C.2.2.2.2 (Nat.le_of_ble_eq_true rfl) (Nat.le_of_ble_eq_true rfl)) [1] [1] rfl rfl (ci := 8) (qc := (RX9, TX9, 8)) rfl rfl (List.mem_flatten.mpr ⟨_, List.mem_of_getElem? (i := 0) rfl, (bTold_mem ht).choose_spec⟩) rfl rfl hl.1 dX11_fits_5 (Nat.le_of_ble_eq_true rfl) (by show _ + 0 ≤ 6 * (zNA (i1.toInt = 0 ∧ 0 < (fk 0).toInt ∧ (0 ≤ i2.toInt ∧ i2.toInt < (fk 2).toInt ∧ i2.toInt < 2) ∧ (e0f.toInt = 0 ∨ ¬ e1f.toInt = i1.toInt ∨ ¬ e2f.toInt = i2.toInt)) mdA n4A (zPl cr0_ inn0_ k10_) - n4A) + 6 * (zNA (i1.toInt = 1 ∧ 1 < (fk 0).toInt ∧ (0 ≤ i2.toInt ∧ i2.toInt < (fk 2).toInt ∧ i2.toInt < 2) ∧ (e0f.toInt = 0 ∨ ¬ e1f.toInt = i1.toInt ∨ ¬ e2f.toInt = i2.toInt)) mdB n4B (zPl cr1_ inn1_ k11_) - n4B) + 2 * (zNF (i1.toInt = 1 ∧ 1 < (fk 0).toInt ∧ (0 ≤ i2.toInt ∧ i2.toInt < (fk 2).toInt ∧ i2.toInt < 2) ∧ (e0f.toInt = 0 ∨ ¬ e1f.toInt = i1.toInt ∨ ¬ e2f.toInt = i2.toInt)) (zNF (i1.toInt = 0 ∧ 0 < (fk 0).toInt ∧ (0 ≤ i2.toInt ∧ i2.toInt < (fk 2).toInt ∧ i2.toInt < 2) ∧ (e0f.toInt = 0 ∨ ¬ e1f.toInt = i1.toInt ∨ ¬ e2f.toInt = i2.toInt)) m1f (zMw mdA wyA cr0_ inn0_ k10_)) (zMw mdB wyB cr1_ inn1_ k11_) - m1f); omega) (fun r_2 b1 H locs hw G => ?_)
  refine zAn2 hw ?_
  intro hbs9 hc_1
  clear hw
  subst hbs9
  have G : zS T A s.heap s [[zO10 xo t im mk rd po co tr wa wb_ fi cd], z0_, z1_, wg0_, wg1_, wwA, wwB, wff, wt] _ _ := G
  rcases hc_1 with ⟨rfl, h_3⟩ | ⟨rfl, h_4, h_5⟩ | ⟨rfl, h_6, h_7⟩
  · have h_3 : (i1.toInt < 0 ∨ (fk 0).toInt ≤ i1.toInt ∨ 2 ≤ i1.toInt) := h_3
    refine lv_astoreN (lv' := [(4, .null), (0, .ref xo), (1, .int i1), (2, .int i2), (3, .int w_)]) hx hb dX11_fits_8 hl (by decide) (zLvf_h rfl) (fun ls hl => ?_)
    refine lv_aload_n hx hb dX11_fits_10 rfl (lv_at hl 1 rfl) ?_
    refine lv_iload_n hx hb dX11_fits_11 rfl (lv_at hl 2 rfl) ?_
    refine lv_iload_n hx hb dX11_fits_12 rfl (lv_at hl 3 rfl) ?_
    refine z_Vi (bc := [[zO10 xo t im mk rd po co tr wa wb_ fi cd], wt, z0_, z1_, wg0_, wg1_, wwA, wwB, wff]) (br := []) (As := [.int i1, .int i2]) (rest := []) C G (c_fit l T xo t im mk rd po co tr wa wb_ fi cd l0 l1 d0 d1 g0 g1 ln fl pl ft fk wt cr0_ inn0_ k10_ k20_ k30_ k40_ z0_ cr1_ inn1_ k11_ k21_ k31_ k41_ z1_ gg0_ q10_ q20_ wg0_ gg1_ q11_ q21_ wg1_ laA mdA wyA pc_A f1A f2A f3A f4A f5A f6A n4A wwA laB mdB wyB pc_B f1B f2B f3B f4B f5B f6B n4B wwB e0f e1f e2f e3f e4f e5f r1f m1f r2f wff i1 i2 ht (by first | with_reducible assumption | with_reducible rfl | omega | assumption | rfl) hz0_ (by first | with_reducible assumption | with_reducible rfl | omega | assumption | rfl) hz1_ (by first | with_reducible assumption | with_reducible rfl | omega | assumption | rfl) hg0_ hg1_ hwwA (by first | with_reducible assumption | with_reducible rfl | omega | assumption | rfl) (by first | with_reducible assumption | with_reducible rfl | omega | assumption | rfl) (by first | with_reducible assumption | with_reducible rfl | omega | assumption | rfl) hwwB (by first | with_reducible assumption | with_reducible rfl | omega | assumption | rfl) (by first | with_reducible assumption | with_reducible rfl | omega | assumption | rfl) (by first | with_reducible assumption | with_reducible rfl | omega | assumption | rfl) hwff hfw hf3 hFI) (kV_RX11_302 C.2.2.2.2 (Nat.le_of_ble_eq_true rfl) (Nat.le_of_ble_eq_true rfl)) [0, 8, 1, 2, 3, 4, 5, 6, 7] [0, 0, 0, 0, 0, 0, 0, 0, 0] rfl rfl (ci := 10) (qc := (RX11, TX11, 11)) rfl rfl (List.mem_flatten.mpr ⟨_, List.mem_of_getElem? (i := 0) rfl, List.mem_cons_self⟩) rfl rfl hl.1 dX11_fits_13 (Nat.le_of_ble_eq_true rfl) (by show _ + (6 * (zNA (i1.toInt = 0 ∧ 0 < (fk 0).toInt ∧ (0 ≤ i2.toInt ∧ i2.toInt < (fk 2).toInt ∧ i2.toInt < 2) ∧ (e0f.toInt = 0 ∨ ¬ e1f.toInt = i1.toInt ∨ ¬ e2f.toInt = i2.toInt)) mdA n4A (zPl cr0_ inn0_ k10_) - n4A) + 6 * (zNA (i1.toInt = 1 ∧ 1 < (fk 0).toInt ∧ (0 ≤ i2.toInt ∧ i2.toInt < (fk 2).toInt ∧ i2.toInt < 2) ∧ (e0f.toInt = 0 ∨ ¬ e1f.toInt = i1.toInt ∨ ¬ e2f.toInt = i2.toInt)) mdB n4B (zPl cr1_ inn1_ k11_) - n4B) + 2 * (zNF (i1.toInt = 1 ∧ 1 < (fk 0).toInt ∧ (0 ≤ i2.toInt ∧ i2.toInt < (fk 2).toInt ∧ i2.toInt < 2) ∧ (e0f.toInt = 0 ∨ ¬ e1f.toInt = i1.toInt ∨ ¬ e2f.toInt = i2.toInt)) (zNF (i1.toInt = 0 ∧ 0 < (fk 0).toInt ∧ (0 ≤ i2.toInt ∧ i2.toInt < (fk 2).toInt ∧ i2.toInt < 2) ∧ (e0f.toInt = 0 ∨ ¬ e1f.toInt = i1.toInt ∨ ¬ e2f.toInt = i2.toInt)) m1f (zMw mdA wyA cr0_ inn0_ k10_)) (zMw mdB wyB cr1_ inn1_ k11_) - m1f)) ≤ 6 * (zNA (i1.toInt = 0 ∧ 0 < (fk 0).toInt ∧ (0 ≤ i2.toInt ∧ i2.toInt < (fk 2).toInt ∧ i2.toInt < 2) ∧ (e0f.toInt = 0 ∨ ¬ e1f.toInt = i1.toInt ∨ ¬ e2f.toInt = i2.toInt)) mdA n4A (zPl cr0_ inn0_ k10_) - n4A) + 6 * (zNA (i1.toInt = 1 ∧ 1 < (fk 0).toInt ∧ (0 ≤ i2.toInt ∧ i2.toInt < (fk 2).toInt ∧ i2.toInt < 2) ∧ (e0f.toInt = 0 ∨ ¬ e1f.toInt = i1.toInt ∨ ¬ e2f.toInt = i2.toInt)) mdB n4B (zPl cr1_ inn1_ k11_) - n4B) + 2 * (zNF (i1.toInt = 1 ∧ 1 < (fk 0).toInt ∧ (0 ≤ i2.toInt ∧ i2.toInt < (fk 2).toInt ∧ i2.toInt < 2) ∧ (e0f.toInt = 0 ∨ ¬ e1f.toInt = i1.toInt ∨ ¬ e2f.toInt = i2.toInt)) (zNF (i1.toInt = 0 ∧ 0 < (fk 0).toInt ∧ (0 ≤ i2.toInt ∧ i2.toInt < (fk 2).toInt ∧ i2.toInt < 2) ∧ (e0f.toInt = 0 ∨ ¬ e1f.toInt = i1.toInt ∨ ¬ e2f.toInt = i2.toInt)) m1f (zMw mdA wyA cr0_ inn0_ k10_)) (zMw mdB wyB cr1_ inn1_ k11_) - m1f); omega) (fun r_60 b1 H locs hw G => ?_)
    refine zEx34 hw ?_
    intro laA_8 mdA_9 wyA_10 pc_A_11 f1A_12 f2A_13 f3A_14 f4A_15 f5A_16 f6A_17 n4A_18 wwA_19 laB_20 mdB_21 wyB_22 pc_B_23 f1B_24 f2B_25 f3B_26 f4B_27 f5B_28 f6B_29 n4B_30 wwB_31 e0f_32 e1f_33 e2f_34 e3f_35 e4f_36 e5f_37 r1f_38 m1f_39 r2f_40 wff_41
    refine zCu19 ?_
    intro hbs9 h_42 h_43 h_44 h_45 h_46 h_47 h_48 h_49 h_50 h_51 h_52 h_53 h_54 h_55 h_56 h_57 h_58 h_59
    clear hw
    subst hbs9
    have G : zS T A s.heap s [[zO10 xo t im mk rd po co tr wa wb_ fi cd], wt, z0_, z1_, wg0_, wg1_, wwA_19, wwB_31, wff_41] _ _ := G
    replace h_43 : zHd ((mdA_9 = 0 ∨ laA_8 = l0)) := h_43
    replace h_47 : zHd ((¬ mdA = 0 → ¬ mdA_9 = 0)) := h_47
    replace h_49 : zHd ((mdB_21 = 0 ∨ laB_20 = l1)) := h_49
    replace h_53 : zHd ((¬ mdB = 0 → ¬ mdB_21 = 0)) := h_53
    replace h_59 : zHd ((¬ e0f_32 = 0 → e1f_33.toInt = 0 ∧ ¬ mdA_9 = 0 ∨ e1f_33.toInt = 1 ∧ ¬ mdB_21 = 0)) := h_59
    have hfm9 : m1f_39 ≤ 16384 := zFw_le h_56
    refine lv_if_eq (tgt := 28) hx hb dX11_fits_16 (by decide) (fun c_61 => ?_) (fun c_61 => ?_)
    · have c_61n : r_60.toInt = (0 : Int) := (fa_eq _ _).mp c_61
      refine lv_bipush (v := (-2)) hx hb dX11_fits_28 (by decide) ?_
      exact z_back hQz_ (z_iret C hr hlocks G (Nat.le_of_ble_eq_true rfl) (by omega) dX11_fits_30 ⟨laA_8, mdA_9, wyA_10, pc_A_11, f1A_12, f2A_13, f3A_14, f4A_15, f5A_16, f6A_17, n4A_18, wwA_19, laB_20, mdB_21, wyB_22, pc_B_23, f1B_24, f2B_25, f3B_26, f4B_27, f5B_28, f6B_29, n4B_30, wwB_31, e0f_32, e1f_33, e2f_34, e3f_35, e4f_36, e5f_37, r1f_38, m1f_39, r2f_40, wff_41, rfl, h_42, h_43, h_44, h_45, h_46, h_47, h_48, h_49, h_50, h_51, h_52, h_53, h_54, h_55, h_56, h_57, h_59⟩)
    · have c_61n : ¬ r_60.toInt = (0 : Int) := fun q => c_61 ((fa_eq _ _).mpr q)
      refine lv_aloadN hx hb dX11_fits_19 (lv_at hl 0 rfl) ?_
      refine lv_ifnullN (tgt := 28) hx hb dX11_fits_21 (by decide) ?_
      refine lv_bipush (v := (-2)) hx hb dX11_fits_28 (by decide) ?_
      exact z_back hQz_ (z_iret C hr hlocks G (Nat.le_of_ble_eq_true rfl) (by omega) dX11_fits_30 ⟨laA_8, mdA_9, wyA_10, pc_A_11, f1A_12, f2A_13, f3A_14, f4A_15, f5A_16, f6A_17, n4A_18, wwA_19, laB_20, mdB_21, wyB_22, pc_B_23, f1B_24, f2B_25, f3B_26, f4B_27, f5B_28, f6B_29, n4B_30, wwB_31, e0f_32, e1f_33, e2f_34, e3f_35, e4f_36, e5f_37, r1f_38, m1f_39, r2f_40, wff_41, rfl, h_42, h_43, h_44, h_45, h_46, h_47, h_48, h_49, h_50, h_51, h_52, h_53, h_54, h_55, h_56, h_57, h_59⟩)
  · have h_4 : i1.toInt = 0 := h_4
    have h_5 : 0 < (fk 0).toInt := h_5
    refine lv_astore (lv' := [(4, .ref l0), (0, .ref xo), (1, .int i1), (2, .int i2), (3, .int w_)]) hx hb dX11_fits_8 hl (by decide) (zLvf_h rfl) (fun ls hl => ?_)
    refine lv_aload_n hx hb dX11_fits_10 rfl (lv_at hl 1 rfl) ?_
    refine lv_iload_n hx hb dX11_fits_11 rfl (lv_at hl 2 rfl) ?_
    refine lv_iload_n hx hb dX11_fits_12 rfl (lv_at hl 3 rfl) ?_
    refine z_Vi (bc := [[zO10 xo t im mk rd po co tr wa wb_ fi cd], wt, z0_, z1_, wg0_, wg1_, wwA, wwB, wff]) (br := []) (As := [.int i1, .int i2]) (rest := []) C G (c_fit l T xo t im mk rd po co tr wa wb_ fi cd l0 l1 d0 d1 g0 g1 ln fl pl ft fk wt cr0_ inn0_ k10_ k20_ k30_ k40_ z0_ cr1_ inn1_ k11_ k21_ k31_ k41_ z1_ gg0_ q10_ q20_ wg0_ gg1_ q11_ q21_ wg1_ laA mdA wyA pc_A f1A f2A f3A f4A f5A f6A n4A wwA laB mdB wyB pc_B f1B f2B f3B f4B f5B f6B n4B wwB e0f e1f e2f e3f e4f e5f r1f m1f r2f wff i1 i2 ht (by first | with_reducible assumption | with_reducible rfl | omega | assumption | rfl) hz0_ (by first | with_reducible assumption | with_reducible rfl | omega | assumption | rfl) hz1_ (by first | with_reducible assumption | with_reducible rfl | omega | assumption | rfl) hg0_ hg1_ hwwA (by first | with_reducible assumption | with_reducible rfl | omega | assumption | rfl) (by first | with_reducible assumption | with_reducible rfl | omega | assumption | rfl) (by first | with_reducible assumption | with_reducible rfl | omega | assumption | rfl) hwwB (by first | with_reducible assumption | with_reducible rfl | omega | assumption | rfl) (by first | with_reducible assumption | with_reducible rfl | omega | assumption | rfl) (by first | with_reducible assumption | with_reducible rfl | omega | assumption | rfl) hwff hfw hf3 hFI) (kV_RX11_302 C.2.2.2.2 (Nat.le_of_ble_eq_true rfl) (Nat.le_of_ble_eq_true rfl)) [0, 8, 1, 2, 3, 4, 5, 6, 7] [0, 0, 0, 0, 0, 0, 0, 0, 0] rfl rfl (ci := 10) (qc := (RX11, TX11, 11)) rfl rfl (List.mem_flatten.mpr ⟨_, List.mem_of_getElem? (i := 0) rfl, List.mem_cons_self⟩) rfl rfl hl.1 dX11_fits_13 (Nat.le_of_ble_eq_true rfl) (by show _ + (6 * (zNA (i1.toInt = 0 ∧ 0 < (fk 0).toInt ∧ (0 ≤ i2.toInt ∧ i2.toInt < (fk 2).toInt ∧ i2.toInt < 2) ∧ (e0f.toInt = 0 ∨ ¬ e1f.toInt = i1.toInt ∨ ¬ e2f.toInt = i2.toInt)) mdA n4A (zPl cr0_ inn0_ k10_) - n4A) + 6 * (zNA (i1.toInt = 1 ∧ 1 < (fk 0).toInt ∧ (0 ≤ i2.toInt ∧ i2.toInt < (fk 2).toInt ∧ i2.toInt < 2) ∧ (e0f.toInt = 0 ∨ ¬ e1f.toInt = i1.toInt ∨ ¬ e2f.toInt = i2.toInt)) mdB n4B (zPl cr1_ inn1_ k11_) - n4B) + 2 * (zNF (i1.toInt = 1 ∧ 1 < (fk 0).toInt ∧ (0 ≤ i2.toInt ∧ i2.toInt < (fk 2).toInt ∧ i2.toInt < 2) ∧ (e0f.toInt = 0 ∨ ¬ e1f.toInt = i1.toInt ∨ ¬ e2f.toInt = i2.toInt)) (zNF (i1.toInt = 0 ∧ 0 < (fk 0).toInt ∧ (0 ≤ i2.toInt ∧ i2.toInt < (fk 2).toInt ∧ i2.toInt < 2) ∧ (e0f.toInt = 0 ∨ ¬ e1f.toInt = i1.toInt ∨ ¬ e2f.toInt = i2.toInt)) m1f (zMw mdA wyA cr0_ inn0_ k10_)) (zMw mdB wyB cr1_ inn1_ k11_) - m1f)) ≤ 6 * (zNA (i1.toInt = 0 ∧ 0 < (fk 0).toInt ∧ (0 ≤ i2.toInt ∧ i2.toInt < (fk 2).toInt ∧ i2.toInt < 2) ∧ (e0f.toInt = 0 ∨ ¬ e1f.toInt = i1.toInt ∨ ¬ e2f.toInt = i2.toInt)) mdA n4A (zPl cr0_ inn0_ k10_) - n4A) + 6 * (zNA (i1.toInt = 1 ∧ 1 < (fk 0).toInt ∧ (0 ≤ i2.toInt ∧ i2.toInt < (fk 2).toInt ∧ i2.toInt < 2) ∧ (e0f.toInt = 0 ∨ ¬ e1f.toInt = i1.toInt ∨ ¬ e2f.toInt = i2.toInt)) mdB n4B (zPl cr1_ inn1_ k11_) - n4B) + 2 * (zNF (i1.toInt = 1 ∧ 1 < (fk 0).toInt ∧ (0 ≤ i2.toInt ∧ i2.toInt < (fk 2).toInt ∧ i2.toInt < 2) ∧ (e0f.toInt = 0 ∨ ¬ e1f.toInt = i1.toInt ∨ ¬ e2f.toInt = i2.toInt)) (zNF (i1.toInt = 0 ∧ 0 < (fk 0).toInt ∧ (0 ≤ i2.toInt ∧ i2.toInt < (fk 2).toInt ∧ i2.toInt < 2) ∧ (e0f.toInt = 0 ∨ ¬ e1f.toInt = i1.toInt ∨ ¬ e2f.toInt = i2.toInt)) m1f (zMw mdA wyA cr0_ inn0_ k10_)) (zMw mdB wyB cr1_ inn1_ k11_) - m1f); omega) (fun r_114 b1 H locs hw G => ?_)
    refine zEx34 hw ?_
    intro laA_62 mdA_63 wyA_64 pc_A_65 f1A_66 f2A_67 f3A_68 f4A_69 f5A_70 f6A_71 n4A_72 wwA_73 laB_74 mdB_75 wyB_76 pc_B_77 f1B_78 f2B_79 f3B_80 f4B_81 f5B_82 f6B_83 n4B_84 wwB_85 e0f_86 e1f_87 e2f_88 e3f_89 e4f_90 e5f_91 r1f_92 m1f_93 r2f_94 wff_95
    refine zCu19 ?_
    intro hbs9 h_96 h_97 h_98 h_99 h_100 h_101 h_102 h_103 h_104 h_105 h_106 h_107 h_108 h_109 h_110 h_111 h_112 h_113
    clear hw
    subst hbs9
    have G : zS T A s.heap s [[zO10 xo t im mk rd po co tr wa wb_ fi cd], wt, z0_, z1_, wg0_, wg1_, wwA_73, wwB_85, wff_95] _ _ := G
    replace h_97 : zHd ((mdA_63 = 0 ∨ laA_62 = l0)) := h_97
    replace h_101 : zHd ((¬ mdA = 0 → ¬ mdA_63 = 0)) := h_101
    replace h_103 : zHd ((mdB_75 = 0 ∨ laB_74 = l1)) := h_103
    replace h_107 : zHd ((¬ mdB = 0 → ¬ mdB_75 = 0)) := h_107
    replace h_113 : zHd ((¬ e0f_86 = 0 → e1f_87.toInt = 0 ∧ ¬ mdA_63 = 0 ∨ e1f_87.toInt = 1 ∧ ¬ mdB_75 = 0)) := h_113
    have hfm9 : m1f_93 ≤ 16384 := zFw_le h_110
    refine lv_if_eq (tgt := 28) hx hb dX11_fits_16 (by decide) (fun c_115 => ?_) (fun c_115 => ?_)
    · have c_115n : r_114.toInt = (0 : Int) := (fa_eq _ _).mp c_115
      refine lv_bipush (v := (-2)) hx hb dX11_fits_28 (by decide) ?_
      exact z_back hQz_ (z_iret C hr hlocks G (Nat.le_of_ble_eq_true rfl) (by omega) dX11_fits_30 ⟨laA_62, mdA_63, wyA_64, pc_A_65, f1A_66, f2A_67, f3A_68, f4A_69, f5A_70, f6A_71, n4A_72, wwA_73, laB_74, mdB_75, wyB_76, pc_B_77, f1B_78, f2B_79, f3B_80, f4B_81, f5B_82, f6B_83, n4B_84, wwB_85, e0f_86, e1f_87, e2f_88, e3f_89, e4f_90, e5f_91, r1f_92, m1f_93, r2f_94, wff_95, rfl, h_96, h_97, h_98, h_99, h_100, h_101, h_102, h_103, h_104, h_105, h_106, h_107, h_108, h_109, h_110, h_111, h_113⟩)
    · have c_115n : ¬ r_114.toInt = (0 : Int) := fun q => c_115 ((fa_eq _ _).mpr q)
      refine lv_aload hx hb dX11_fits_19 (lv_at hl 0 rfl) ?_
      refine lv_ifnull hx hb dX11_fits_21 ?_
      refine lv_iload_n hx hb dX11_fits_24 rfl (lv_at hl 4 rfl) ?_
      refine lv_if_ge (tgt := 31) hx hb dX11_fits_25 (by decide) (fun c_116 => ?_) (fun c_116 => ?_)
      · have c_116n : (0 : Int) ≤ w_.toInt := (fa_le _ _).mp c_116
        refine lv_aload_n hx hb dX11_fits_31 rfl (lv_at hl 1 rfl) ?_
        refine lv_iload_n hx hb dX11_fits_32 rfl (lv_at hl 2 rfl) ?_
        refine lv_aload hx hb dX11_fits_33 (lv_at hl 0 rfl) ?_
        have hX := h_112.resolve_left (fun q => absurd (congrArg Int32.toInt q.1) (by show ¬ _ = (0 : Int); omega))
        have hmk : ¬ mdA_63 = 0 := (h_113 hX.2.2.1).elim (fun q => q.2) (fun q => absurd q.1 (by have := hX.2.2.2; omega))
        have hzk : zMk mdA_63 n4A_72 (zPl cr0_ inn0_ k10_) = n4A_72 := by unfold zMk; rw [if_neg hmk]
        have hn9 : zMk mdA_63 n4A_72 (zPl cr0_ inn0_ k10_) ≤ 131072 := by rw [hzk]; exact zPw_le h_100
        refine z_Vq (bc := [[zO10 xo t im mk rd po co tr wa wb_ fi cd], wwA_73, z0_]) (br := [wt, z1_, wg0_, wg1_, wwB_85, wff_95]) (As := [.int i1, .ref l0]) (rest := []) C G (c_waysInA l T xo t im mk rd po co tr wa wb_ fi cd i1 laA_62 mdA_63 wyA_64 pc_A_65 f1A_66 f2A_67 f3A_68 f4A_69 f5A_70 f6A_71 n4A_72 wwA_73 l0 cr0_ inn0_ k10_ k20_ k30_ k40_ z0_ h_96 hz0_ hI0_ h_100 h_97 h_98 (by omega)) (kV_RX11_235 C.2.2.2.2 (Nat.le_of_ble_eq_true rfl) (Nat.le_of_ble_eq_true rfl)) [0, 6, 2] [0, 1, 3] rfl rfl (ci := 10) (qc := (RX11, TX11, 11)) rfl rfl (List.mem_flatten.mpr ⟨_, List.mem_of_getElem? (i := 0) rfl, List.mem_cons_self⟩) rfl rfl hl.1 dX11_fits_35 (Nat.le_of_ble_eq_true rfl) (by show _ + (6 * (zMk mdA_63 n4A_72 (zPl cr0_ inn0_ k10_) - n4A_72)) ≤ 6 * (zNA (i1.toInt = 0 ∧ 0 < (fk 0).toInt ∧ (0 ≤ i2.toInt ∧ i2.toInt < (fk 2).toInt ∧ i2.toInt < 2) ∧ (e0f.toInt = 0 ∨ ¬ e1f.toInt = i1.toInt ∨ ¬ e2f.toInt = i2.toInt)) mdA n4A (zPl cr0_ inn0_ k10_) - n4A) + 6 * (zNA (i1.toInt = 1 ∧ 1 < (fk 0).toInt ∧ (0 ≤ i2.toInt ∧ i2.toInt < (fk 2).toInt ∧ i2.toInt < 2) ∧ (e0f.toInt = 0 ∨ ¬ e1f.toInt = i1.toInt ∨ ¬ e2f.toInt = i2.toInt)) mdB n4B (zPl cr1_ inn1_ k11_) - n4B) + 2 * (zNF (i1.toInt = 1 ∧ 1 < (fk 0).toInt ∧ (0 ≤ i2.toInt ∧ i2.toInt < (fk 2).toInt ∧ i2.toInt < 2) ∧ (e0f.toInt = 0 ∨ ¬ e1f.toInt = i1.toInt ∨ ¬ e2f.toInt = i2.toInt)) (zNF (i1.toInt = 0 ∧ 0 < (fk 0).toInt ∧ (0 ≤ i2.toInt ∧ i2.toInt < (fk 2).toInt ∧ i2.toInt < 2) ∧ (e0f.toInt = 0 ∨ ¬ e1f.toInt = i1.toInt ∨ ¬ e2f.toInt = i2.toInt)) m1f (zMw mdA wyA cr0_ inn0_ k10_)) (zMw mdB wyB cr1_ inn1_ k11_) - m1f); omega) (fun r_131 b1 H locs hw G => ?_)
        refine zEx9 hw ?_
        intro w2_117 m2_118 wy2_119 pc2_120 g1_121 g2_122 g4_123 g5_124 g6_125
        refine zCu6 ?_
        intro hbs9 h_126 h_127 h_128 h_129 h_130
        clear hw
        subst hbs9
        have G : zS T A s.heap s [wt, z1_, wg0_, wg1_, wwB_85, wff_95, [zO10 xo t im mk rd po co tr wa wb_ fi cd], w2_117, z0_] _ _ := G
        subst h_126
        have hwy9 := h_128
        refine lv_astore (lv' := [(5, .ref wa), (4, .ref l0), (0, .ref xo), (1, .int i1), (2, .int i2), (3, .int w_)]) hx hb dX11_fits_38 hl (by decide) (zLvf_h rfl) (fun ls hl => ?_)
        refine lv_iload_n hx hb dX11_fits_40 rfl (lv_at hl 5 rfl) ?_
        refine lv_if_ne (tgt := 52) hx hb dX11_fits_41 (by decide) (fun c_132 => ?_) (fun c_132 => ?_)
        · have c_132n : ¬ w_.toInt = (0 : Int) := fun q => c_132 ((fa_eq _ _).mpr q)
          refine lv_iload_n hx hb dX11_fits_52 rfl (lv_at hl 5 rfl) ?_
          refine lv_iconst (v := 1) hx hb dX11_fits_53 (by decide) ?_
          refine lv_icmp_ne (tgt := 67) hx hb dX11_fits_54 (by decide) (fun c_133 => ?_) (fun c_133 => ?_)
          · have c_133n : ¬ w_.toInt = (1 : Int) := fun q => c_133 ((fa_eq _ _).mpr q)
            refine lv_iload_n hx hb dX11_fits_67 rfl (lv_at hl 5 rfl) ?_
            refine lv_bipush (v := 9) hx hb dX11_fits_68 (by decide) ?_
            refine lv_icmp_ge (tgt := 86) hx hb dX11_fits_70 (by decide) (fun c_134 => ?_) (fun c_134 => ?_)
            · have c_134n : (9 : Int) ≤ w_.toInt := (fa_le _ _).mp c_134
              refine lv_iload_n hx hb dX11_fits_86 rfl (lv_at hl 5 rfl) ?_
              refine lv_bipush (v := 10) hx hb dX11_fits_87 (by decide) ?_
              refine lv_isub hx hb dX11_fits_89 ?_
              refine lv_istore (lv' := [(6, .int (w_ - 10)), (5, .ref wa), (4, .ref l0), (0, .ref xo), (1, .int i1), (2, .int i2), (3, .int w_)]) hx hb dX11_fits_90 hl (by decide) (zLvf_h rfl) (fun ls hl => ?_)
              refine lv_iload hx hb dX11_fits_92 (lv_at hl 0 rfl) ?_
              refine lv_if_lt (tgt := 126) hx hb dX11_fits_94 (by decide) (fun c_135 => ?_) (fun c_135 => ?_)
              · have c_135n : (w_ - 10).toInt < (0 : Int) := (fa_lt _ _).mp c_135
                refine lv_bipush (v := (-2)) hx hb dX11_fits_126 (by decide) ?_
                have G := G.sub (bs' := [[zO10 xo t im mk rd po co tr wa wb_ fi cd], wt, z0_, z1_, wg0_, wg1_, w2_117, wwB_85, wff_95]) [6, 0, 8, 1, 2, 3, 7, 4, 5] rfl
                exact z_back hQz_ (z_iret C hr hlocks G (Nat.le_of_ble_eq_true rfl) (by omega) dX11_fits_128 ⟨l0, m2_118, wy2_119, pc2_120, g1_121, g2_122, f3A_68, g4_123, g5_124, g6_125, (zMk mdA_63 n4A_72 (zPl cr0_ inn0_ k10_)), w2_117, laB_74, mdB_75, wyB_76, pc_B_77, f1B_78, f2B_79, f3B_80, f4B_81, f5B_82, f6B_83, n4B_84, wwB_85, e0f_86, e1f_87, e2f_88, e3f_89, e4f_90, e5f_91, r1f_92, m1f_93, r2f_94, wff_95, rfl, h_127, (Or.inr rfl), hwy9, (hzk.trans h_99), (by rw [hzk]; exact h_100), (fun _ => h_130), h_102, h_103, h_104, h_105, h_106, h_107, h_108, h_109, h_110, h_111, (fun q => (h_113 q).elim (fun w => Or.inl ⟨w.1, h_130⟩) (fun w => Or.inr ⟨w.1, w.2⟩))⟩)
              · have c_135n : ¬ (w_ - 10).toInt < (0 : Int) := fun q => c_135 ((fa_lt _ _).mpr q)
                refine lv_iload hx hb dX11_fits_97 (lv_at hl 0 rfl) ?_
                refine lv_aload_n hx hb dX11_fits_99 rfl (lv_at hl 3 rfl) ?_
                refine z_get C G clX11 6 rfl 9 (by decide) m_fl_RX11_65 rfl dX11_fits_100 ?_
                refine zEx2 h_108 ?_
                intro a1_136 a2_137 hbs9
                clear h_108
                subst hbs9
                have G : zS T A s.heap s [wt, z1_, wg0_, wg1_, wwB_85, [zO3 fi e0f_86 e1f_87 e2f_88 e3f_89 e4f_90 e5f_91 a1_136 a2_137], [zAr T 0 a1_136 m1f_93 r1f_92], [zAr T 0 a2_137 7 r2f_94], [zO10 xo t im mk rd po co tr wa wb_ fi cd], w2_117, z0_] _ _ := G.re rfl
                refine z_get C G clX3 5 rfl 3 (by decide) m_fl_RX11_306 rfl dX11_fits_103 ?_
                refine lv_icmp_ge (tgt := 126) hx hb dX11_fits_106 (by decide) (fun c_138 => ?_) (fun c_138 => ?_)
                · have c_138n : e3f_89.toInt ≤ (w_ - 10).toInt := (fa_le _ _).mp c_138
                  refine lv_bipush (v := (-2)) hx hb dX11_fits_126 (by decide) ?_
                  have hw_139 : bFit T fi e0f_86 e1f_87 e2f_88 e3f_89 e4f_90 e5f_91 r1f_92 m1f_93 r2f_94 [zO3 fi e0f_86 e1f_87 e2f_88 e3f_89 e4f_90 e5f_91 a1_136 a2_137, zAr T 0 a1_136 m1f_93 r1f_92, zAr T 0 a2_137 7 r2f_94] := ⟨a1_136, a2_137, rfl⟩
                  have G : zS T A s.heap s [wt, z1_, wg0_, wg1_, wwB_85, [zO3 fi e0f_86 e1f_87 e2f_88 e3f_89 e4f_90 e5f_91 a1_136 a2_137, zAr T 0 a1_136 m1f_93 r1f_92, zAr T 0 a2_137 7 r2f_94], [zO10 xo t im mk rd po co tr wa wb_ fi cd], w2_117, z0_] _ _ := G.re rfl
                  have G := G.sub (bs' := [[zO10 xo t im mk rd po co tr wa wb_ fi cd], wt, z0_, z1_, wg0_, wg1_, w2_117, wwB_85, [zO3 fi e0f_86 e1f_87 e2f_88 e3f_89 e4f_90 e5f_91 a1_136 a2_137, zAr T 0 a1_136 m1f_93 r1f_92, zAr T 0 a2_137 7 r2f_94]]) [6, 0, 8, 1, 2, 3, 7, 4, 5] rfl
                  exact z_back hQz_ (z_iret C hr hlocks G (Nat.le_of_ble_eq_true rfl) (by omega) dX11_fits_128 ⟨l0, m2_118, wy2_119, pc2_120, g1_121, g2_122, f3A_68, g4_123, g5_124, g6_125, (zMk mdA_63 n4A_72 (zPl cr0_ inn0_ k10_)), w2_117, laB_74, mdB_75, wyB_76, pc_B_77, f1B_78, f2B_79, f3B_80, f4B_81, f5B_82, f6B_83, n4B_84, wwB_85, e0f_86, e1f_87, e2f_88, e3f_89, e4f_90, e5f_91, r1f_92, m1f_93, r2f_94, ([zO3 fi e0f_86 e1f_87 e2f_88 e3f_89 e4f_90 e5f_91 a1_136 a2_137, zAr T 0 a1_136 m1f_93 r1f_92, zAr T 0 a2_137 7 r2f_94]), rfl, h_127, (Or.inr rfl), hwy9, (hzk.trans h_99), (by rw [hzk]; exact h_100), (fun _ => h_130), h_102, h_103, h_104, h_105, h_106, h_107, hw_139, h_109, h_110, h_111, (fun q => (h_113 q).elim (fun w => Or.inl ⟨w.1, h_130⟩) (fun w => Or.inr ⟨w.1, w.2⟩))⟩)
                · have c_138n : ¬ e3f_89.toInt ≤ (w_ - 10).toInt := fun q => c_138 ((fa_le _ _).mpr q)
                  refine lv_aload hx hb dX11_fits_109 (lv_at hl 1 rfl) ?_
                  refine lv_aload_n hx hb dX11_fits_111 rfl (lv_at hl 3 rfl) ?_
                  refine z_get C G clX11 8 rfl 9 (by decide) m_fl_RX11_65 rfl dX11_fits_112 ?_
                  refine lv_iload hx hb dX11_fits_115 (lv_at hl 0 rfl) ?_
                  have hw_140 : bFit T fi e0f_86 e1f_87 e2f_88 e3f_89 e4f_90 e5f_91 r1f_92 m1f_93 r2f_94 [zO3 fi e0f_86 e1f_87 e2f_88 e3f_89 e4f_90 e5f_91 a1_136 a2_137, zAr T 0 a1_136 m1f_93 r1f_92, zAr T 0 a2_137 7 r2f_94] := ⟨a1_136, a2_137, rfl⟩
                  have G : zS T A s.heap s [wt, z1_, wg0_, wg1_, wwB_85, [zO3 fi e0f_86 e1f_87 e2f_88 e3f_89 e4f_90 e5f_91 a1_136 a2_137, zAr T 0 a1_136 m1f_93 r1f_92, zAr T 0 a2_137 7 r2f_94], [zO10 xo t im mk rd po co tr wa wb_ fi cd], w2_117, z0_] _ _ := G.re rfl
                  refine z_Vi (bc := [[zO3 fi e0f_86 e1f_87 e2f_88 e3f_89 e4f_90 e5f_91 a1_136 a2_137, zAr T 0 a1_136 m1f_93 r1f_92, zAr T 0 a2_137 7 r2f_94]]) (br := [wt, z1_, wg0_, wg1_, wwB_85, [zO10 xo t im mk rd po co tr wa wb_ fi cd], w2_117, z0_]) (As := [.int (w_ - 10)]) (rest := [.ref wa]) C G (c_way l T fi e0f_86 e1f_87 e2f_88 e3f_89 e4f_90 e5f_91 r1f_92 m1f_93 r2f_94 ([zO3 fi e0f_86 e1f_87 e2f_88 e3f_89 e4f_90 e5f_91 a1_136 a2_137, zAr T 0 a1_136 m1f_93 r1f_92, zAr T 0 a2_137 7 r2f_94]) (w_ - 10) hw_140 hfm9) (kV_RX11_317 C.2.2.2.2 (Nat.le_of_ble_eq_true rfl) (Nat.le_of_ble_eq_true rfl)) [5] [5] rfl rfl (ci := 3) (qc := (RX3, TX3, 8)) rfl rfl (List.mem_flatten.mpr ⟨_, List.mem_of_getElem? (i := 0) rfl, (bFit_mem hw_140).choose_spec⟩) rfl rfl hl.1 dX11_fits_117 (Nat.le_of_ble_eq_true rfl) (by show _ + 0 ≤ 6 * (zNA (i1.toInt = 0 ∧ 0 < (fk 0).toInt ∧ (0 ≤ i2.toInt ∧ i2.toInt < (fk 2).toInt ∧ i2.toInt < 2) ∧ (e0f.toInt = 0 ∨ ¬ e1f.toInt = i1.toInt ∨ ¬ e2f.toInt = i2.toInt)) mdA n4A (zPl cr0_ inn0_ k10_) - n4A) + 6 * (zNA (i1.toInt = 1 ∧ 1 < (fk 0).toInt ∧ (0 ≤ i2.toInt ∧ i2.toInt < (fk 2).toInt ∧ i2.toInt < 2) ∧ (e0f.toInt = 0 ∨ ¬ e1f.toInt = i1.toInt ∨ ¬ e2f.toInt = i2.toInt)) mdB n4B (zPl cr1_ inn1_ k11_) - n4B) + 2 * (zNF (i1.toInt = 1 ∧ 1 < (fk 0).toInt ∧ (0 ≤ i2.toInt ∧ i2.toInt < (fk 2).toInt ∧ i2.toInt < 2) ∧ (e0f.toInt = 0 ∨ ¬ e1f.toInt = i1.toInt ∨ ¬ e2f.toInt = i2.toInt)) (zNF (i1.toInt = 0 ∧ 0 < (fk 0).toInt ∧ (0 ≤ i2.toInt ∧ i2.toInt < (fk 2).toInt ∧ i2.toInt < 2) ∧ (e0f.toInt = 0 ∨ ¬ e1f.toInt = i1.toInt ∨ ¬ e2f.toInt = i2.toInt)) m1f (zMw mdA wyA cr0_ inn0_ k10_)) (zMw mdB wyB cr1_ inn1_ k11_) - m1f); omega) (fun r_142 b1 H locs hw G => ?_)
                  refine zAn2 hw ?_
                  intro hbs9 h_141
                  clear hw
                  subst hbs9
                  have G : zS T A s.heap s [wt, z1_, wg0_, wg1_, wwB_85, [zO10 xo t im mk rd po co tr wa wb_ fi cd], w2_117, z0_, [zO3 fi e0f_86 e1f_87 e2f_88 e3f_89 e4f_90 e5f_91 a1_136 a2_137, zAr T 0 a1_136 m1f_93 r1f_92, zAr T 0 a2_137 7 r2f_94]] _ _ := G
                  subst h_141
                  refine z_Vi (bc := [w2_117, z0_]) (br := [wt, z1_, wg0_, wg1_, wwB_85, [zO10 xo t im mk rd po co tr wa wb_ fi cd], [zO3 fi e0f_86 e1f_87 e2f_88 e3f_89 e4f_90 e5f_91 a1_136 a2_137, zAr T 0 a1_136 m1f_93 r1f_92, zAr T 0 a2_137 7 r2f_94]]) (As := [.int (zFway r1f_92 m1f_93 (w_ - 10))]) (rest := []) C G (c_number l T wa l0 m2_118 wy2_119 pc2_120 g1_121 g2_122 f3A_68 g4_123 g5_124 g6_125 (zMk mdA_63 n4A_72 (zPl cr0_ inn0_ k10_)) w2_117 cr0_ inn0_ k10_ k20_ k30_ k40_ z0_ (zFway r1f_92 m1f_93 (w_ - 10)) h_127 hz0_ (by first | with_reducible assumption | with_reducible rfl | omega | assumption | rfl)) (kV_RX11_272 C.2.2.2.2 (Nat.le_of_ble_eq_true rfl) (Nat.le_of_ble_eq_true rfl)) [6, 7] [6, 0] rfl rfl (ci := 0) (qc := (RX0, TX0, 10)) rfl rfl (List.mem_flatten.mpr ⟨_, List.mem_of_getElem? (i := 0) rfl, (bWays_mem h_127).choose_spec⟩) rfl rfl hl.1 dX11_fits_120 (Nat.le_of_ble_eq_true rfl) (by show _ + 0 ≤ 6 * (zNA (i1.toInt = 0 ∧ 0 < (fk 0).toInt ∧ (0 ≤ i2.toInt ∧ i2.toInt < (fk 2).toInt ∧ i2.toInt < 2) ∧ (e0f.toInt = 0 ∨ ¬ e1f.toInt = i1.toInt ∨ ¬ e2f.toInt = i2.toInt)) mdA n4A (zPl cr0_ inn0_ k10_) - n4A) + 6 * (zNA (i1.toInt = 1 ∧ 1 < (fk 0).toInt ∧ (0 ≤ i2.toInt ∧ i2.toInt < (fk 2).toInt ∧ i2.toInt < 2) ∧ (e0f.toInt = 0 ∨ ¬ e1f.toInt = i1.toInt ∨ ¬ e2f.toInt = i2.toInt)) mdB n4B (zPl cr1_ inn1_ k11_) - n4B) + 2 * (zNF (i1.toInt = 1 ∧ 1 < (fk 0).toInt ∧ (0 ≤ i2.toInt ∧ i2.toInt < (fk 2).toInt ∧ i2.toInt < 2) ∧ (e0f.toInt = 0 ∨ ¬ e1f.toInt = i1.toInt ∨ ¬ e2f.toInt = i2.toInt)) (zNF (i1.toInt = 0 ∧ 0 < (fk 0).toInt ∧ (0 ≤ i2.toInt ∧ i2.toInt < (fk 2).toInt ∧ i2.toInt < 2) ∧ (e0f.toInt = 0 ∨ ¬ e1f.toInt = i1.toInt ∨ ¬ e2f.toInt = i2.toInt)) m1f (zMw mdA wyA cr0_ inn0_ k10_)) (zMw mdB wyB cr1_ inn1_ k11_) - m1f); omega) (fun r_143 b1 H locs hw G => ?_)
                  obtain rfl := hw
                  have G : zS T A s.heap s [wt, z1_, wg0_, wg1_, wwB_85, [zO10 xo t im mk rd po co tr wa wb_ fi cd], [zO3 fi e0f_86 e1f_87 e2f_88 e3f_89 e4f_90 e5f_91 a1_136 a2_137, zAr T 0 a1_136 m1f_93 r1f_92, zAr T 0 a2_137 7 r2f_94], w2_117, z0_] _ _ := G
                  refine lv_goto (tgt := 128) hx hb dX11_fits_123 (by decide) ?_
                  have G := G.sub (bs' := [[zO10 xo t im mk rd po co tr wa wb_ fi cd], wt, z0_, z1_, wg0_, wg1_, w2_117, wwB_85, [zO3 fi e0f_86 e1f_87 e2f_88 e3f_89 e4f_90 e5f_91 a1_136 a2_137, zAr T 0 a1_136 m1f_93 r1f_92, zAr T 0 a2_137 7 r2f_94]]) [5, 0, 8, 1, 2, 3, 7, 4, 6] rfl
                  exact z_back hQz_ (z_iret C hr hlocks G (Nat.le_of_ble_eq_true rfl) (by omega) dX11_fits_128 ⟨l0, m2_118, wy2_119, pc2_120, g1_121, g2_122, f3A_68, g4_123, g5_124, g6_125, (zMk mdA_63 n4A_72 (zPl cr0_ inn0_ k10_)), w2_117, laB_74, mdB_75, wyB_76, pc_B_77, f1B_78, f2B_79, f3B_80, f4B_81, f5B_82, f6B_83, n4B_84, wwB_85, e0f_86, e1f_87, e2f_88, e3f_89, e4f_90, e5f_91, r1f_92, m1f_93, r2f_94, ([zO3 fi e0f_86 e1f_87 e2f_88 e3f_89 e4f_90 e5f_91 a1_136 a2_137, zAr T 0 a1_136 m1f_93 r1f_92, zAr T 0 a2_137 7 r2f_94]), rfl, h_127, (Or.inr rfl), hwy9, (hzk.trans h_99), (by rw [hzk]; exact h_100), (fun _ => h_130), h_102, h_103, h_104, h_105, h_106, h_107, hw_140, h_109, h_110, h_111, (fun q => (h_113 q).elim (fun w => Or.inl ⟨w.1, h_130⟩) (fun w => Or.inr ⟨w.1, w.2⟩))⟩)
            · have c_134n : ¬ (9 : Int) ≤ w_.toInt := fun q => c_134 ((fa_le _ _).mpr q)
              refine lv_aload_n hx hb dX11_fits_73 rfl (lv_at hl 2 rfl) ?_
              refine z_get C G clX11 6 rfl 9 (by decide) m_fl_RX11_65 rfl dX11_fits_74 ?_
              refine lv_aload hx hb dX11_fits_77 (lv_at hl 0 rfl) ?_
              refine lv_iload_n hx hb dX11_fits_79 rfl (lv_at hl 5 rfl) ?_
              refine lv_iconst (v := 2) hx hb dX11_fits_80 (by decide) ?_
              refine lv_isub hx hb dX11_fits_81 ?_
              refine z_Vi (bc := [wff_95, w2_117, z0_]) (br := [wt, z1_, wg0_, wg1_, wwB_85, [zO10 xo t im mk rd po co tr wa wb_ fi cd]]) (As := [.ref wa, .int (w_ - 2)]) (rest := []) C G (c_sure l T fi e0f_86 e1f_87 e2f_88 e3f_89 e4f_90 e5f_91 r1f_92 m1f_93 r2f_94 wff_95 wa l0 m2_118 wy2_119 pc2_120 g1_121 g2_122 f3A_68 g4_123 g5_124 g6_125 (zMk mdA_63 n4A_72 (zPl cr0_ inn0_ k10_)) w2_117 cr0_ inn0_ k10_ k20_ k30_ k40_ z0_ (w_ - 2) h_108 h_127 hz0_ hfm9) (kV_RX11_313 C.2.2.2.2 (Nat.le_of_ble_eq_true rfl) (Nat.le_of_ble_eq_true rfl)) [5, 7, 8] [5, 1, 0] rfl rfl (ci := 3) (qc := (RX3, TX3, 8)) rfl rfl (List.mem_flatten.mpr ⟨_, List.mem_of_getElem? (i := 0) rfl, (bFit_mem h_108).choose_spec⟩) rfl rfl hl.1 dX11_fits_82 (Nat.le_of_ble_eq_true rfl) (by show _ + 0 ≤ 6 * (zNA (i1.toInt = 0 ∧ 0 < (fk 0).toInt ∧ (0 ≤ i2.toInt ∧ i2.toInt < (fk 2).toInt ∧ i2.toInt < 2) ∧ (e0f.toInt = 0 ∨ ¬ e1f.toInt = i1.toInt ∨ ¬ e2f.toInt = i2.toInt)) mdA n4A (zPl cr0_ inn0_ k10_) - n4A) + 6 * (zNA (i1.toInt = 1 ∧ 1 < (fk 0).toInt ∧ (0 ≤ i2.toInt ∧ i2.toInt < (fk 2).toInt ∧ i2.toInt < 2) ∧ (e0f.toInt = 0 ∨ ¬ e1f.toInt = i1.toInt ∨ ¬ e2f.toInt = i2.toInt)) mdB n4B (zPl cr1_ inn1_ k11_) - n4B) + 2 * (zNF (i1.toInt = 1 ∧ 1 < (fk 0).toInt ∧ (0 ≤ i2.toInt ∧ i2.toInt < (fk 2).toInt ∧ i2.toInt < 2) ∧ (e0f.toInt = 0 ∨ ¬ e1f.toInt = i1.toInt ∨ ¬ e2f.toInt = i2.toInt)) (zNF (i1.toInt = 0 ∧ 0 < (fk 0).toInt ∧ (0 ≤ i2.toInt ∧ i2.toInt < (fk 2).toInt ∧ i2.toInt < 2) ∧ (e0f.toInt = 0 ∨ ¬ e1f.toInt = i1.toInt ∨ ¬ e2f.toInt = i2.toInt)) m1f (zMw mdA wyA cr0_ inn0_ k10_)) (zMw mdB wyB cr1_ inn1_ k11_) - m1f); omega) (fun r_144 b1 H locs hw G => ?_)
              obtain rfl := hw
              have G : zS T A s.heap s [wt, z1_, wg0_, wg1_, wwB_85, [zO10 xo t im mk rd po co tr wa wb_ fi cd], wff_95, w2_117, z0_] _ _ := G
              have G := G.sub (bs' := [[zO10 xo t im mk rd po co tr wa wb_ fi cd], wt, z0_, z1_, wg0_, wg1_, w2_117, wwB_85, wff_95]) [5, 0, 8, 1, 2, 3, 7, 4, 6] rfl
              exact z_back hQz_ (z_iret C hr hlocks G (Nat.le_of_ble_eq_true rfl) (by omega) dX11_fits_85 ⟨l0, m2_118, wy2_119, pc2_120, g1_121, g2_122, f3A_68, g4_123, g5_124, g6_125, (zMk mdA_63 n4A_72 (zPl cr0_ inn0_ k10_)), w2_117, laB_74, mdB_75, wyB_76, pc_B_77, f1B_78, f2B_79, f3B_80, f4B_81, f5B_82, f6B_83, n4B_84, wwB_85, e0f_86, e1f_87, e2f_88, e3f_89, e4f_90, e5f_91, r1f_92, m1f_93, r2f_94, wff_95, rfl, h_127, (Or.inr rfl), hwy9, (hzk.trans h_99), (by rw [hzk]; exact h_100), (fun _ => h_130), h_102, h_103, h_104, h_105, h_106, h_107, h_108, h_109, h_110, h_111, (fun q => (h_113 q).elim (fun w => Or.inl ⟨w.1, h_130⟩) (fun w => Or.inr ⟨w.1, w.2⟩))⟩)
          · have c_133n : w_.toInt = (1 : Int) := (fa_eq _ _).mp c_133
            refine lv_aload_n hx hb dX11_fits_57 rfl (lv_at hl 2 rfl) ?_
            refine z_get C G clX11 6 rfl 9 (by decide) m_fl_RX11_65 rfl dX11_fits_58 ?_
            refine lv_aload hx hb dX11_fits_61 (lv_at hl 0 rfl) ?_
            refine z_Vi (bc := [wff_95, w2_117, z0_]) (br := [wt, z1_, wg0_, wg1_, wwB_85, [zO10 xo t im mk rd po co tr wa wb_ fi cd]]) (As := [.ref wa]) (rest := []) C G (c_ask l T fi e0f_86 e1f_87 e2f_88 e3f_89 e4f_90 e5f_91 r1f_92 m1f_93 r2f_94 wff_95 wa l0 m2_118 wy2_119 pc2_120 g1_121 g2_122 f3A_68 g4_123 g5_124 g6_125 (zMk mdA_63 n4A_72 (zPl cr0_ inn0_ k10_)) w2_117 cr0_ inn0_ k10_ k20_ k30_ k40_ z0_ h_108 h_127 hz0_ hn9 hfm9 (by first | with_reducible assumption | with_reducible rfl | omega | assumption | rfl)) (kV_RX11_309 C.2.2.2.2 (Nat.le_of_ble_eq_true rfl) (Nat.le_of_ble_eq_true rfl)) [5, 7, 8] [5, 1, 0] rfl rfl (ci := 3) (qc := (RX3, TX3, 8)) rfl rfl (List.mem_flatten.mpr ⟨_, List.mem_of_getElem? (i := 0) rfl, (bFit_mem h_108).choose_spec⟩) rfl rfl hl.1 dX11_fits_63 (Nat.le_of_ble_eq_true rfl) (by show _ + 0 ≤ 6 * (zNA (i1.toInt = 0 ∧ 0 < (fk 0).toInt ∧ (0 ≤ i2.toInt ∧ i2.toInt < (fk 2).toInt ∧ i2.toInt < 2) ∧ (e0f.toInt = 0 ∨ ¬ e1f.toInt = i1.toInt ∨ ¬ e2f.toInt = i2.toInt)) mdA n4A (zPl cr0_ inn0_ k10_) - n4A) + 6 * (zNA (i1.toInt = 1 ∧ 1 < (fk 0).toInt ∧ (0 ≤ i2.toInt ∧ i2.toInt < (fk 2).toInt ∧ i2.toInt < 2) ∧ (e0f.toInt = 0 ∨ ¬ e1f.toInt = i1.toInt ∨ ¬ e2f.toInt = i2.toInt)) mdB n4B (zPl cr1_ inn1_ k11_) - n4B) + 2 * (zNF (i1.toInt = 1 ∧ 1 < (fk 0).toInt ∧ (0 ≤ i2.toInt ∧ i2.toInt < (fk 2).toInt ∧ i2.toInt < 2) ∧ (e0f.toInt = 0 ∨ ¬ e1f.toInt = i1.toInt ∨ ¬ e2f.toInt = i2.toInt)) (zNF (i1.toInt = 0 ∧ 0 < (fk 0).toInt ∧ (0 ≤ i2.toInt ∧ i2.toInt < (fk 2).toInt ∧ i2.toInt < 2) ∧ (e0f.toInt = 0 ∨ ¬ e1f.toInt = i1.toInt ∨ ¬ e2f.toInt = i2.toInt)) m1f (zMw mdA wyA cr0_ inn0_ k10_)) (zMw mdB wyB cr1_ inn1_ k11_) - m1f); omega) (fun r_148 b1 H locs hw G => ?_)
            refine zEx2 hw ?_
            intro w2_145 g2_146
            refine zCu2 ?_
            intro hbs9 h_147
            clear hw
            subst hbs9
            have G : zS T A s.heap s [wt, z1_, wg0_, wg1_, wwB_85, [zO10 xo t im mk rd po co tr wa wb_ fi cd], w2_145, w2_117, z0_] _ _ := G
            have G := G.sub (bs' := [[zO10 xo t im mk rd po co tr wa wb_ fi cd], wt, z0_, z1_, wg0_, wg1_, w2_117, wwB_85, w2_145]) [5, 0, 8, 1, 2, 3, 7, 4, 6] rfl
            exact z_back hQz_ (z_iret C hr hlocks G (Nat.le_of_ble_eq_true rfl) (by omega) dX11_fits_66 ⟨l0, m2_118, wy2_119, pc2_120, g1_121, g2_122, f3A_68, g4_123, g5_124, g6_125, (zMk mdA_63 n4A_72 (zPl cr0_ inn0_ k10_)), w2_117, laB_74, mdB_75, wyB_76, pc_B_77, f1B_78, f2B_79, f3B_80, f4B_81, f5B_82, f6B_83, n4B_84, wwB_85, e0f_86, e1f_87, e2f_88, e3f_89, e4f_90, e5f_91, r1f_92, m1f_93, g2_146, w2_145, rfl, h_127, (Or.inr rfl), hwy9, (hzk.trans h_99), (by rw [hzk]; exact h_100), (fun _ => h_130), h_102, h_103, h_104, h_105, h_106, h_107, h_147, h_109, h_110, h_111, (fun q => (h_113 q).elim (fun w => Or.inl ⟨w.1, h_130⟩) (fun w => Or.inr ⟨w.1, w.2⟩))⟩)
        · have c_132n : w_.toInt = (0 : Int) := (fa_eq _ _).mp c_132
          refine lv_aload_n hx hb dX11_fits_44 rfl (lv_at hl 2 rfl) ?_
          refine z_get C G clX11 6 rfl 9 (by decide) m_fl_RX11_65 rfl dX11_fits_45 ?_
          refine zEx2 h_108 ?_
          intro a1_149 a2_150 hbs9
          clear h_108
          subst hbs9
          have G : zS T A s.heap s [wt, z1_, wg0_, wg1_, wwB_85, [zO3 fi e0f_86 e1f_87 e2f_88 e3f_89 e4f_90 e5f_91 a1_149 a2_150], [zAr T 0 a1_149 m1f_93 r1f_92], [zAr T 0 a2_150 7 r2f_94], [zO10 xo t im mk rd po co tr wa wb_ fi cd], w2_117, z0_] _ _ := G.re rfl
          refine z_get C G clX3 5 rfl 3 (by decide) m_fl_RX11_306 rfl dX11_fits_48 ?_
          have hw_151 : bFit T fi e0f_86 e1f_87 e2f_88 e3f_89 e4f_90 e5f_91 r1f_92 m1f_93 r2f_94 [zO3 fi e0f_86 e1f_87 e2f_88 e3f_89 e4f_90 e5f_91 a1_149 a2_150, zAr T 0 a1_149 m1f_93 r1f_92, zAr T 0 a2_150 7 r2f_94] := ⟨a1_149, a2_150, rfl⟩
          have G : zS T A s.heap s [wt, z1_, wg0_, wg1_, wwB_85, [zO3 fi e0f_86 e1f_87 e2f_88 e3f_89 e4f_90 e5f_91 a1_149 a2_150, zAr T 0 a1_149 m1f_93 r1f_92, zAr T 0 a2_150 7 r2f_94], [zO10 xo t im mk rd po co tr wa wb_ fi cd], w2_117, z0_] _ _ := G.re rfl
          have G := G.sub (bs' := [[zO10 xo t im mk rd po co tr wa wb_ fi cd], wt, z0_, z1_, wg0_, wg1_, w2_117, wwB_85, [zO3 fi e0f_86 e1f_87 e2f_88 e3f_89 e4f_90 e5f_91 a1_149 a2_150, zAr T 0 a1_149 m1f_93 r1f_92, zAr T 0 a2_150 7 r2f_94]]) [6, 0, 8, 1, 2, 3, 7, 4, 5] rfl
          exact z_back hQz_ (z_iret C hr hlocks G (Nat.le_of_ble_eq_true rfl) (by omega) dX11_fits_51 ⟨l0, m2_118, wy2_119, pc2_120, g1_121, g2_122, f3A_68, g4_123, g5_124, g6_125, (zMk mdA_63 n4A_72 (zPl cr0_ inn0_ k10_)), w2_117, laB_74, mdB_75, wyB_76, pc_B_77, f1B_78, f2B_79, f3B_80, f4B_81, f5B_82, f6B_83, n4B_84, wwB_85, e0f_86, e1f_87, e2f_88, e3f_89, e4f_90, e5f_91, r1f_92, m1f_93, r2f_94, ([zO3 fi e0f_86 e1f_87 e2f_88 e3f_89 e4f_90 e5f_91 a1_149 a2_150, zAr T 0 a1_149 m1f_93 r1f_92, zAr T 0 a2_150 7 r2f_94]), rfl, h_127, (Or.inr rfl), hwy9, (hzk.trans h_99), (by rw [hzk]; exact h_100), (fun _ => h_130), h_102, h_103, h_104, h_105, h_106, h_107, hw_151, h_109, h_110, h_111, (fun q => (h_113 q).elim (fun w => Or.inl ⟨w.1, h_130⟩) (fun w => Or.inr ⟨w.1, w.2⟩))⟩)
      · have c_116n : ¬ (0 : Int) ≤ w_.toInt := fun q => c_116 ((fa_le _ _).mpr q)
        refine lv_bipush (v := (-2)) hx hb dX11_fits_28 (by decide) ?_
        exact z_back hQz_ (z_iret C hr hlocks G (Nat.le_of_ble_eq_true rfl) (by omega) dX11_fits_30 ⟨laA_62, mdA_63, wyA_64, pc_A_65, f1A_66, f2A_67, f3A_68, f4A_69, f5A_70, f6A_71, n4A_72, wwA_73, laB_74, mdB_75, wyB_76, pc_B_77, f1B_78, f2B_79, f3B_80, f4B_81, f5B_82, f6B_83, n4B_84, wwB_85, e0f_86, e1f_87, e2f_88, e3f_89, e4f_90, e5f_91, r1f_92, m1f_93, r2f_94, wff_95, rfl, h_96, h_97, h_98, h_99, h_100, h_101, h_102, h_103, h_104, h_105, h_106, h_107, h_108, h_109, h_110, h_111, h_113⟩)
  · have h_6 : i1.toInt = 1 := h_6
    have h_7 : 1 < (fk 0).toInt := h_7
    refine lv_astore (lv' := [(4, .ref l1), (0, .ref xo), (1, .int i1), (2, .int i2), (3, .int w_)]) hx hb dX11_fits_8 hl (by decide) (zLvf_h rfl) (fun ls hl => ?_)
    refine lv_aload_n hx hb dX11_fits_10 rfl (lv_at hl 1 rfl) ?_
    refine lv_iload_n hx hb dX11_fits_11 rfl (lv_at hl 2 rfl) ?_
    refine lv_iload_n hx hb dX11_fits_12 rfl (lv_at hl 3 rfl) ?_
    refine z_Vi (bc := [[zO10 xo t im mk rd po co tr wa wb_ fi cd], wt, z0_, z1_, wg0_, wg1_, wwA, wwB, wff]) (br := []) (As := [.int i1, .int i2]) (rest := []) C G (c_fit l T xo t im mk rd po co tr wa wb_ fi cd l0 l1 d0 d1 g0 g1 ln fl pl ft fk wt cr0_ inn0_ k10_ k20_ k30_ k40_ z0_ cr1_ inn1_ k11_ k21_ k31_ k41_ z1_ gg0_ q10_ q20_ wg0_ gg1_ q11_ q21_ wg1_ laA mdA wyA pc_A f1A f2A f3A f4A f5A f6A n4A wwA laB mdB wyB pc_B f1B f2B f3B f4B f5B f6B n4B wwB e0f e1f e2f e3f e4f e5f r1f m1f r2f wff i1 i2 ht (by first | with_reducible assumption | with_reducible rfl | omega | assumption | rfl) hz0_ (by first | with_reducible assumption | with_reducible rfl | omega | assumption | rfl) hz1_ (by first | with_reducible assumption | with_reducible rfl | omega | assumption | rfl) hg0_ hg1_ hwwA (by first | with_reducible assumption | with_reducible rfl | omega | assumption | rfl) (by first | with_reducible assumption | with_reducible rfl | omega | assumption | rfl) (by first | with_reducible assumption | with_reducible rfl | omega | assumption | rfl) hwwB (by first | with_reducible assumption | with_reducible rfl | omega | assumption | rfl) (by first | with_reducible assumption | with_reducible rfl | omega | assumption | rfl) (by first | with_reducible assumption | with_reducible rfl | omega | assumption | rfl) hwff hfw hf3 hFI) (kV_RX11_302 C.2.2.2.2 (Nat.le_of_ble_eq_true rfl) (Nat.le_of_ble_eq_true rfl)) [0, 8, 1, 2, 3, 4, 5, 6, 7] [0, 0, 0, 0, 0, 0, 0, 0, 0] rfl rfl (ci := 10) (qc := (RX11, TX11, 11)) rfl rfl (List.mem_flatten.mpr ⟨_, List.mem_of_getElem? (i := 0) rfl, List.mem_cons_self⟩) rfl rfl hl.1 dX11_fits_13 (Nat.le_of_ble_eq_true rfl) (by show _ + (6 * (zNA (i1.toInt = 0 ∧ 0 < (fk 0).toInt ∧ (0 ≤ i2.toInt ∧ i2.toInt < (fk 2).toInt ∧ i2.toInt < 2) ∧ (e0f.toInt = 0 ∨ ¬ e1f.toInt = i1.toInt ∨ ¬ e2f.toInt = i2.toInt)) mdA n4A (zPl cr0_ inn0_ k10_) - n4A) + 6 * (zNA (i1.toInt = 1 ∧ 1 < (fk 0).toInt ∧ (0 ≤ i2.toInt ∧ i2.toInt < (fk 2).toInt ∧ i2.toInt < 2) ∧ (e0f.toInt = 0 ∨ ¬ e1f.toInt = i1.toInt ∨ ¬ e2f.toInt = i2.toInt)) mdB n4B (zPl cr1_ inn1_ k11_) - n4B) + 2 * (zNF (i1.toInt = 1 ∧ 1 < (fk 0).toInt ∧ (0 ≤ i2.toInt ∧ i2.toInt < (fk 2).toInt ∧ i2.toInt < 2) ∧ (e0f.toInt = 0 ∨ ¬ e1f.toInt = i1.toInt ∨ ¬ e2f.toInt = i2.toInt)) (zNF (i1.toInt = 0 ∧ 0 < (fk 0).toInt ∧ (0 ≤ i2.toInt ∧ i2.toInt < (fk 2).toInt ∧ i2.toInt < 2) ∧ (e0f.toInt = 0 ∨ ¬ e1f.toInt = i1.toInt ∨ ¬ e2f.toInt = i2.toInt)) m1f (zMw mdA wyA cr0_ inn0_ k10_)) (zMw mdB wyB cr1_ inn1_ k11_) - m1f)) ≤ 6 * (zNA (i1.toInt = 0 ∧ 0 < (fk 0).toInt ∧ (0 ≤ i2.toInt ∧ i2.toInt < (fk 2).toInt ∧ i2.toInt < 2) ∧ (e0f.toInt = 0 ∨ ¬ e1f.toInt = i1.toInt ∨ ¬ e2f.toInt = i2.toInt)) mdA n4A (zPl cr0_ inn0_ k10_) - n4A) + 6 * (zNA (i1.toInt = 1 ∧ 1 < (fk 0).toInt ∧ (0 ≤ i2.toInt ∧ i2.toInt < (fk 2).toInt ∧ i2.toInt < 2) ∧ (e0f.toInt = 0 ∨ ¬ e1f.toInt = i1.toInt ∨ ¬ e2f.toInt = i2.toInt)) mdB n4B (zPl cr1_ inn1_ k11_) - n4B) + 2 * (zNF (i1.toInt = 1 ∧ 1 < (fk 0).toInt ∧ (0 ≤ i2.toInt ∧ i2.toInt < (fk 2).toInt ∧ i2.toInt < 2) ∧ (e0f.toInt = 0 ∨ ¬ e1f.toInt = i1.toInt ∨ ¬ e2f.toInt = i2.toInt)) (zNF (i1.toInt = 0 ∧ 0 < (fk 0).toInt ∧ (0 ≤ i2.toInt ∧ i2.toInt < (fk 2).toInt ∧ i2.toInt < 2) ∧ (e0f.toInt = 0 ∨ ¬ e1f.toInt = i1.toInt ∨ ¬ e2f.toInt = i2.toInt)) m1f (zMw mdA wyA cr0_ inn0_ k10_)) (zMw mdB wyB cr1_ inn1_ k11_) - m1f); omega) (fun r_204 b1 H locs hw G => ?_)
    refine zEx34 hw ?_
    intro laA_152 mdA_153 wyA_154 pc_A_155 f1A_156 f2A_157 f3A_158 f4A_159 f5A_160 f6A_161 n4A_162 wwA_163 laB_164 mdB_165 wyB_166 pc_B_167 f1B_168 f2B_169 f3B_170 f4B_171 f5B_172 f6B_173 n4B_174 wwB_175 e0f_176 e1f_177 e2f_178 e3f_179 e4f_180 e5f_181 r1f_182 m1f_183 r2f_184 wff_185
    refine zCu19 ?_
    intro hbs9 h_186 h_187 h_188 h_189 h_190 h_191 h_192 h_193 h_194 h_195 h_196 h_197 h_198 h_199 h_200 h_201 h_202 h_203
    clear hw
    subst hbs9
    have G : zS T A s.heap s [[zO10 xo t im mk rd po co tr wa wb_ fi cd], wt, z0_, z1_, wg0_, wg1_, wwA_163, wwB_175, wff_185] _ _ := G
    replace h_187 : zHd ((mdA_153 = 0 ∨ laA_152 = l0)) := h_187
    replace h_191 : zHd ((¬ mdA = 0 → ¬ mdA_153 = 0)) := h_191
    replace h_193 : zHd ((mdB_165 = 0 ∨ laB_164 = l1)) := h_193
    replace h_197 : zHd ((¬ mdB = 0 → ¬ mdB_165 = 0)) := h_197
    replace h_203 : zHd ((¬ e0f_176 = 0 → e1f_177.toInt = 0 ∧ ¬ mdA_153 = 0 ∨ e1f_177.toInt = 1 ∧ ¬ mdB_165 = 0)) := h_203
    have hfm9 : m1f_183 ≤ 16384 := zFw_le h_200
    refine lv_if_eq (tgt := 28) hx hb dX11_fits_16 (by decide) (fun c_205 => ?_) (fun c_205 => ?_)
    · have c_205n : r_204.toInt = (0 : Int) := (fa_eq _ _).mp c_205
      refine lv_bipush (v := (-2)) hx hb dX11_fits_28 (by decide) ?_
      exact z_back hQz_ (z_iret C hr hlocks G (Nat.le_of_ble_eq_true rfl) (by omega) dX11_fits_30 ⟨laA_152, mdA_153, wyA_154, pc_A_155, f1A_156, f2A_157, f3A_158, f4A_159, f5A_160, f6A_161, n4A_162, wwA_163, laB_164, mdB_165, wyB_166, pc_B_167, f1B_168, f2B_169, f3B_170, f4B_171, f5B_172, f6B_173, n4B_174, wwB_175, e0f_176, e1f_177, e2f_178, e3f_179, e4f_180, e5f_181, r1f_182, m1f_183, r2f_184, wff_185, rfl, h_186, h_187, h_188, h_189, h_190, h_191, h_192, h_193, h_194, h_195, h_196, h_197, h_198, h_199, h_200, h_201, h_203⟩)
    · have c_205n : ¬ r_204.toInt = (0 : Int) := fun q => c_205 ((fa_eq _ _).mpr q)
      refine lv_aload hx hb dX11_fits_19 (lv_at hl 0 rfl) ?_
      refine lv_ifnull hx hb dX11_fits_21 ?_
      refine lv_iload_n hx hb dX11_fits_24 rfl (lv_at hl 4 rfl) ?_
      refine lv_if_ge (tgt := 31) hx hb dX11_fits_25 (by decide) (fun c_206 => ?_) (fun c_206 => ?_)
      · have c_206n : (0 : Int) ≤ w_.toInt := (fa_le _ _).mp c_206
        refine lv_aload_n hx hb dX11_fits_31 rfl (lv_at hl 1 rfl) ?_
        refine lv_iload_n hx hb dX11_fits_32 rfl (lv_at hl 2 rfl) ?_
        refine lv_aload hx hb dX11_fits_33 (lv_at hl 0 rfl) ?_
        have hX := h_202.resolve_left (fun q => absurd (congrArg Int32.toInt q.1) (by show ¬ _ = (0 : Int); omega))
        have hmk : ¬ mdB_165 = 0 := (h_203 hX.2.2.1).elim (fun q => absurd q.1 (by have := hX.2.2.2; omega)) (fun q => q.2)
        have hzk : zMk mdB_165 n4B_174 (zPl cr1_ inn1_ k11_) = n4B_174 := by unfold zMk; rw [if_neg hmk]
        have hn9 : zMk mdB_165 n4B_174 (zPl cr1_ inn1_ k11_) ≤ 131072 := by rw [hzk]; exact zPw_le h_196
        refine z_Vq (bc := [[zO10 xo t im mk rd po co tr wa wb_ fi cd], wwB_175, z1_]) (br := [wt, z0_, wg0_, wg1_, wwA_163, wff_185]) (As := [.int i1, .ref l1]) (rest := []) C G (c_waysInB l T xo t im mk rd po co tr wa wb_ fi cd i1 laB_164 mdB_165 wyB_166 pc_B_167 f1B_168 f2B_169 f3B_170 f4B_171 f5B_172 f6B_173 n4B_174 wwB_175 l1 cr1_ inn1_ k11_ k21_ k31_ k41_ z1_ h_192 hz1_ hI1_ h_196 h_193 h_194 (by omega)) (kV_RX11_235 C.2.2.2.2 (Nat.le_of_ble_eq_true rfl) (Nat.le_of_ble_eq_true rfl)) [0, 7, 3] [0, 2, 3] rfl rfl (ci := 10) (qc := (RX11, TX11, 11)) rfl rfl (List.mem_flatten.mpr ⟨_, List.mem_of_getElem? (i := 0) rfl, List.mem_cons_self⟩) rfl rfl hl.1 dX11_fits_35 (Nat.le_of_ble_eq_true rfl) (by show _ + (6 * (zMk mdB_165 n4B_174 (zPl cr1_ inn1_ k11_) - n4B_174)) ≤ 6 * (zNA (i1.toInt = 0 ∧ 0 < (fk 0).toInt ∧ (0 ≤ i2.toInt ∧ i2.toInt < (fk 2).toInt ∧ i2.toInt < 2) ∧ (e0f.toInt = 0 ∨ ¬ e1f.toInt = i1.toInt ∨ ¬ e2f.toInt = i2.toInt)) mdA n4A (zPl cr0_ inn0_ k10_) - n4A) + 6 * (zNA (i1.toInt = 1 ∧ 1 < (fk 0).toInt ∧ (0 ≤ i2.toInt ∧ i2.toInt < (fk 2).toInt ∧ i2.toInt < 2) ∧ (e0f.toInt = 0 ∨ ¬ e1f.toInt = i1.toInt ∨ ¬ e2f.toInt = i2.toInt)) mdB n4B (zPl cr1_ inn1_ k11_) - n4B) + 2 * (zNF (i1.toInt = 1 ∧ 1 < (fk 0).toInt ∧ (0 ≤ i2.toInt ∧ i2.toInt < (fk 2).toInt ∧ i2.toInt < 2) ∧ (e0f.toInt = 0 ∨ ¬ e1f.toInt = i1.toInt ∨ ¬ e2f.toInt = i2.toInt)) (zNF (i1.toInt = 0 ∧ 0 < (fk 0).toInt ∧ (0 ≤ i2.toInt ∧ i2.toInt < (fk 2).toInt ∧ i2.toInt < 2) ∧ (e0f.toInt = 0 ∨ ¬ e1f.toInt = i1.toInt ∨ ¬ e2f.toInt = i2.toInt)) m1f (zMw mdA wyA cr0_ inn0_ k10_)) (zMw mdB wyB cr1_ inn1_ k11_) - m1f); omega) (fun r_221 b1 H locs hw G => ?_)
        refine zEx9 hw ?_
        intro w2_207 m2_208 wy2_209 pc2_210 g1_211 g2_212 g4_213 g5_214 g6_215
        refine zCu6 ?_
        intro hbs9 h_216 h_217 h_218 h_219 h_220
        clear hw
        subst hbs9
        have G : zS T A s.heap s [wt, z0_, wg0_, wg1_, wwA_163, wff_185, [zO10 xo t im mk rd po co tr wa wb_ fi cd], w2_207, z1_] _ _ := G
        subst h_216
        have hwy9 := h_218
        refine lv_astore (lv' := [(5, .ref wb_), (4, .ref l1), (0, .ref xo), (1, .int i1), (2, .int i2), (3, .int w_)]) hx hb dX11_fits_38 hl (by decide) (zLvf_h rfl) (fun ls hl => ?_)
        refine lv_iload_n hx hb dX11_fits_40 rfl (lv_at hl 5 rfl) ?_
        refine lv_if_ne (tgt := 52) hx hb dX11_fits_41 (by decide) (fun c_222 => ?_) (fun c_222 => ?_)
        · have c_222n : ¬ w_.toInt = (0 : Int) := fun q => c_222 ((fa_eq _ _).mpr q)
          refine lv_iload_n hx hb dX11_fits_52 rfl (lv_at hl 5 rfl) ?_
          refine lv_iconst (v := 1) hx hb dX11_fits_53 (by decide) ?_
          refine lv_icmp_ne (tgt := 67) hx hb dX11_fits_54 (by decide) (fun c_223 => ?_) (fun c_223 => ?_)
          · have c_223n : ¬ w_.toInt = (1 : Int) := fun q => c_223 ((fa_eq _ _).mpr q)
            refine lv_iload_n hx hb dX11_fits_67 rfl (lv_at hl 5 rfl) ?_
            refine lv_bipush (v := 9) hx hb dX11_fits_68 (by decide) ?_
            refine lv_icmp_ge (tgt := 86) hx hb dX11_fits_70 (by decide) (fun c_224 => ?_) (fun c_224 => ?_)
            · have c_224n : (9 : Int) ≤ w_.toInt := (fa_le _ _).mp c_224
              refine lv_iload_n hx hb dX11_fits_86 rfl (lv_at hl 5 rfl) ?_
              refine lv_bipush (v := 10) hx hb dX11_fits_87 (by decide) ?_
              refine lv_isub hx hb dX11_fits_89 ?_
              refine lv_istore (lv' := [(6, .int (w_ - 10)), (5, .ref wb_), (4, .ref l1), (0, .ref xo), (1, .int i1), (2, .int i2), (3, .int w_)]) hx hb dX11_fits_90 hl (by decide) (zLvf_h rfl) (fun ls hl => ?_)
              refine lv_iload hx hb dX11_fits_92 (lv_at hl 0 rfl) ?_
              refine lv_if_lt (tgt := 126) hx hb dX11_fits_94 (by decide) (fun c_225 => ?_) (fun c_225 => ?_)
              · have c_225n : (w_ - 10).toInt < (0 : Int) := (fa_lt _ _).mp c_225
                refine lv_bipush (v := (-2)) hx hb dX11_fits_126 (by decide) ?_
                have G := G.sub (bs' := [[zO10 xo t im mk rd po co tr wa wb_ fi cd], wt, z0_, z1_, wg0_, wg1_, wwA_163, w2_207, wff_185]) [6, 0, 1, 8, 2, 3, 4, 7, 5] rfl
                exact z_back hQz_ (z_iret C hr hlocks G (Nat.le_of_ble_eq_true rfl) (by omega) dX11_fits_128 ⟨laA_152, mdA_153, wyA_154, pc_A_155, f1A_156, f2A_157, f3A_158, f4A_159, f5A_160, f6A_161, n4A_162, wwA_163, l1, m2_208, wy2_209, pc2_210, g1_211, g2_212, f3B_170, g4_213, g5_214, g6_215, (zMk mdB_165 n4B_174 (zPl cr1_ inn1_ k11_)), w2_207, e0f_176, e1f_177, e2f_178, e3f_179, e4f_180, e5f_181, r1f_182, m1f_183, r2f_184, wff_185, rfl, h_186, h_187, h_188, h_189, h_190, h_191, h_217, (Or.inr rfl), hwy9, (hzk.trans h_195), (by rw [hzk]; exact h_196), (fun _ => h_220), h_198, h_199, h_200, h_201, (fun q => (h_203 q).elim (fun w => Or.inl ⟨w.1, w.2⟩) (fun w => Or.inr ⟨w.1, h_220⟩))⟩)
              · have c_225n : ¬ (w_ - 10).toInt < (0 : Int) := fun q => c_225 ((fa_lt _ _).mpr q)
                refine lv_iload hx hb dX11_fits_97 (lv_at hl 0 rfl) ?_
                refine lv_aload_n hx hb dX11_fits_99 rfl (lv_at hl 3 rfl) ?_
                refine z_get C G clX11 6 rfl 9 (by decide) m_fl_RX11_65 rfl dX11_fits_100 ?_
                refine zEx2 h_198 ?_
                intro a1_226 a2_227 hbs9
                clear h_198
                subst hbs9
                have G : zS T A s.heap s [wt, z0_, wg0_, wg1_, wwA_163, [zO3 fi e0f_176 e1f_177 e2f_178 e3f_179 e4f_180 e5f_181 a1_226 a2_227], [zAr T 0 a1_226 m1f_183 r1f_182], [zAr T 0 a2_227 7 r2f_184], [zO10 xo t im mk rd po co tr wa wb_ fi cd], w2_207, z1_] _ _ := G.re rfl
                refine z_get C G clX3 5 rfl 3 (by decide) m_fl_RX11_306 rfl dX11_fits_103 ?_
                refine lv_icmp_ge (tgt := 126) hx hb dX11_fits_106 (by decide) (fun c_228 => ?_) (fun c_228 => ?_)
                · have c_228n : e3f_179.toInt ≤ (w_ - 10).toInt := (fa_le _ _).mp c_228
                  refine lv_bipush (v := (-2)) hx hb dX11_fits_126 (by decide) ?_
                  have hw_229 : bFit T fi e0f_176 e1f_177 e2f_178 e3f_179 e4f_180 e5f_181 r1f_182 m1f_183 r2f_184 [zO3 fi e0f_176 e1f_177 e2f_178 e3f_179 e4f_180 e5f_181 a1_226 a2_227, zAr T 0 a1_226 m1f_183 r1f_182, zAr T 0 a2_227 7 r2f_184] := ⟨a1_226, a2_227, rfl⟩
                  have G : zS T A s.heap s [wt, z0_, wg0_, wg1_, wwA_163, [zO3 fi e0f_176 e1f_177 e2f_178 e3f_179 e4f_180 e5f_181 a1_226 a2_227, zAr T 0 a1_226 m1f_183 r1f_182, zAr T 0 a2_227 7 r2f_184], [zO10 xo t im mk rd po co tr wa wb_ fi cd], w2_207, z1_] _ _ := G.re rfl
                  have G := G.sub (bs' := [[zO10 xo t im mk rd po co tr wa wb_ fi cd], wt, z0_, z1_, wg0_, wg1_, wwA_163, w2_207, [zO3 fi e0f_176 e1f_177 e2f_178 e3f_179 e4f_180 e5f_181 a1_226 a2_227, zAr T 0 a1_226 m1f_183 r1f_182, zAr T 0 a2_227 7 r2f_184]]) [6, 0, 1, 8, 2, 3, 4, 7, 5] rfl
                  exact z_back hQz_ (z_iret C hr hlocks G (Nat.le_of_ble_eq_true rfl) (by omega) dX11_fits_128 ⟨laA_152, mdA_153, wyA_154, pc_A_155, f1A_156, f2A_157, f3A_158, f4A_159, f5A_160, f6A_161, n4A_162, wwA_163, l1, m2_208, wy2_209, pc2_210, g1_211, g2_212, f3B_170, g4_213, g5_214, g6_215, (zMk mdB_165 n4B_174 (zPl cr1_ inn1_ k11_)), w2_207, e0f_176, e1f_177, e2f_178, e3f_179, e4f_180, e5f_181, r1f_182, m1f_183, r2f_184, ([zO3 fi e0f_176 e1f_177 e2f_178 e3f_179 e4f_180 e5f_181 a1_226 a2_227, zAr T 0 a1_226 m1f_183 r1f_182, zAr T 0 a2_227 7 r2f_184]), rfl, h_186, h_187, h_188, h_189, h_190, h_191, h_217, (Or.inr rfl), hwy9, (hzk.trans h_195), (by rw [hzk]; exact h_196), (fun _ => h_220), hw_229, h_199, h_200, h_201, (fun q => (h_203 q).elim (fun w => Or.inl ⟨w.1, w.2⟩) (fun w => Or.inr ⟨w.1, h_220⟩))⟩)
                · have c_228n : ¬ e3f_179.toInt ≤ (w_ - 10).toInt := fun q => c_228 ((fa_le _ _).mpr q)
                  refine lv_aload hx hb dX11_fits_109 (lv_at hl 1 rfl) ?_
                  refine lv_aload_n hx hb dX11_fits_111 rfl (lv_at hl 3 rfl) ?_
                  refine z_get C G clX11 8 rfl 9 (by decide) m_fl_RX11_65 rfl dX11_fits_112 ?_
                  refine lv_iload hx hb dX11_fits_115 (lv_at hl 0 rfl) ?_
                  have hw_230 : bFit T fi e0f_176 e1f_177 e2f_178 e3f_179 e4f_180 e5f_181 r1f_182 m1f_183 r2f_184 [zO3 fi e0f_176 e1f_177 e2f_178 e3f_179 e4f_180 e5f_181 a1_226 a2_227, zAr T 0 a1_226 m1f_183 r1f_182, zAr T 0 a2_227 7 r2f_184] := ⟨a1_226, a2_227, rfl⟩
                  have G : zS T A s.heap s [wt, z0_, wg0_, wg1_, wwA_163, [zO3 fi e0f_176 e1f_177 e2f_178 e3f_179 e4f_180 e5f_181 a1_226 a2_227, zAr T 0 a1_226 m1f_183 r1f_182, zAr T 0 a2_227 7 r2f_184], [zO10 xo t im mk rd po co tr wa wb_ fi cd], w2_207, z1_] _ _ := G.re rfl
                  refine z_Vi (bc := [[zO3 fi e0f_176 e1f_177 e2f_178 e3f_179 e4f_180 e5f_181 a1_226 a2_227, zAr T 0 a1_226 m1f_183 r1f_182, zAr T 0 a2_227 7 r2f_184]]) (br := [wt, z0_, wg0_, wg1_, wwA_163, [zO10 xo t im mk rd po co tr wa wb_ fi cd], w2_207, z1_]) (As := [.int (w_ - 10)]) (rest := [.ref wb_]) C G (c_way l T fi e0f_176 e1f_177 e2f_178 e3f_179 e4f_180 e5f_181 r1f_182 m1f_183 r2f_184 ([zO3 fi e0f_176 e1f_177 e2f_178 e3f_179 e4f_180 e5f_181 a1_226 a2_227, zAr T 0 a1_226 m1f_183 r1f_182, zAr T 0 a2_227 7 r2f_184]) (w_ - 10) hw_230 hfm9) (kV_RX11_317 C.2.2.2.2 (Nat.le_of_ble_eq_true rfl) (Nat.le_of_ble_eq_true rfl)) [5] [5] rfl rfl (ci := 3) (qc := (RX3, TX3, 8)) rfl rfl (List.mem_flatten.mpr ⟨_, List.mem_of_getElem? (i := 0) rfl, (bFit_mem hw_230).choose_spec⟩) rfl rfl hl.1 dX11_fits_117 (Nat.le_of_ble_eq_true rfl) (by show _ + 0 ≤ 6 * (zNA (i1.toInt = 0 ∧ 0 < (fk 0).toInt ∧ (0 ≤ i2.toInt ∧ i2.toInt < (fk 2).toInt ∧ i2.toInt < 2) ∧ (e0f.toInt = 0 ∨ ¬ e1f.toInt = i1.toInt ∨ ¬ e2f.toInt = i2.toInt)) mdA n4A (zPl cr0_ inn0_ k10_) - n4A) + 6 * (zNA (i1.toInt = 1 ∧ 1 < (fk 0).toInt ∧ (0 ≤ i2.toInt ∧ i2.toInt < (fk 2).toInt ∧ i2.toInt < 2) ∧ (e0f.toInt = 0 ∨ ¬ e1f.toInt = i1.toInt ∨ ¬ e2f.toInt = i2.toInt)) mdB n4B (zPl cr1_ inn1_ k11_) - n4B) + 2 * (zNF (i1.toInt = 1 ∧ 1 < (fk 0).toInt ∧ (0 ≤ i2.toInt ∧ i2.toInt < (fk 2).toInt ∧ i2.toInt < 2) ∧ (e0f.toInt = 0 ∨ ¬ e1f.toInt = i1.toInt ∨ ¬ e2f.toInt = i2.toInt)) (zNF (i1.toInt = 0 ∧ 0 < (fk 0).toInt ∧ (0 ≤ i2.toInt ∧ i2.toInt < (fk 2).toInt ∧ i2.toInt < 2) ∧ (e0f.toInt = 0 ∨ ¬ e1f.toInt = i1.toInt ∨ ¬ e2f.toInt = i2.toInt)) m1f (zMw mdA wyA cr0_ inn0_ k10_)) (zMw mdB wyB cr1_ inn1_ k11_) - m1f); omega) (fun r_232 b1 H locs hw G => ?_)
                  refine zAn2 hw ?_
                  intro hbs9 h_231
                  clear hw
                  subst hbs9
                  have G : zS T A s.heap s [wt, z0_, wg0_, wg1_, wwA_163, [zO10 xo t im mk rd po co tr wa wb_ fi cd], w2_207, z1_, [zO3 fi e0f_176 e1f_177 e2f_178 e3f_179 e4f_180 e5f_181 a1_226 a2_227, zAr T 0 a1_226 m1f_183 r1f_182, zAr T 0 a2_227 7 r2f_184]] _ _ := G
                  subst h_231
                  refine z_Vi (bc := [w2_207, z1_]) (br := [wt, z0_, wg0_, wg1_, wwA_163, [zO10 xo t im mk rd po co tr wa wb_ fi cd], [zO3 fi e0f_176 e1f_177 e2f_178 e3f_179 e4f_180 e5f_181 a1_226 a2_227, zAr T 0 a1_226 m1f_183 r1f_182, zAr T 0 a2_227 7 r2f_184]]) (As := [.int (zFway r1f_182 m1f_183 (w_ - 10))]) (rest := []) C G (c_number l T wb_ l1 m2_208 wy2_209 pc2_210 g1_211 g2_212 f3B_170 g4_213 g5_214 g6_215 (zMk mdB_165 n4B_174 (zPl cr1_ inn1_ k11_)) w2_207 cr1_ inn1_ k11_ k21_ k31_ k41_ z1_ (zFway r1f_182 m1f_183 (w_ - 10)) h_217 hz1_ (by first | with_reducible assumption | with_reducible rfl | omega | assumption | rfl)) (kV_RX11_272 C.2.2.2.2 (Nat.le_of_ble_eq_true rfl) (Nat.le_of_ble_eq_true rfl)) [6, 7] [6, 0] rfl rfl (ci := 0) (qc := (RX0, TX0, 10)) rfl rfl (List.mem_flatten.mpr ⟨_, List.mem_of_getElem? (i := 0) rfl, (bWays_mem h_217).choose_spec⟩) rfl rfl hl.1 dX11_fits_120 (Nat.le_of_ble_eq_true rfl) (by show _ + 0 ≤ 6 * (zNA (i1.toInt = 0 ∧ 0 < (fk 0).toInt ∧ (0 ≤ i2.toInt ∧ i2.toInt < (fk 2).toInt ∧ i2.toInt < 2) ∧ (e0f.toInt = 0 ∨ ¬ e1f.toInt = i1.toInt ∨ ¬ e2f.toInt = i2.toInt)) mdA n4A (zPl cr0_ inn0_ k10_) - n4A) + 6 * (zNA (i1.toInt = 1 ∧ 1 < (fk 0).toInt ∧ (0 ≤ i2.toInt ∧ i2.toInt < (fk 2).toInt ∧ i2.toInt < 2) ∧ (e0f.toInt = 0 ∨ ¬ e1f.toInt = i1.toInt ∨ ¬ e2f.toInt = i2.toInt)) mdB n4B (zPl cr1_ inn1_ k11_) - n4B) + 2 * (zNF (i1.toInt = 1 ∧ 1 < (fk 0).toInt ∧ (0 ≤ i2.toInt ∧ i2.toInt < (fk 2).toInt ∧ i2.toInt < 2) ∧ (e0f.toInt = 0 ∨ ¬ e1f.toInt = i1.toInt ∨ ¬ e2f.toInt = i2.toInt)) (zNF (i1.toInt = 0 ∧ 0 < (fk 0).toInt ∧ (0 ≤ i2.toInt ∧ i2.toInt < (fk 2).toInt ∧ i2.toInt < 2) ∧ (e0f.toInt = 0 ∨ ¬ e1f.toInt = i1.toInt ∨ ¬ e2f.toInt = i2.toInt)) m1f (zMw mdA wyA cr0_ inn0_ k10_)) (zMw mdB wyB cr1_ inn1_ k11_) - m1f); omega) (fun r_233 b1 H locs hw G => ?_)
                  obtain rfl := hw
                  have G : zS T A s.heap s [wt, z0_, wg0_, wg1_, wwA_163, [zO10 xo t im mk rd po co tr wa wb_ fi cd], [zO3 fi e0f_176 e1f_177 e2f_178 e3f_179 e4f_180 e5f_181 a1_226 a2_227, zAr T 0 a1_226 m1f_183 r1f_182, zAr T 0 a2_227 7 r2f_184], w2_207, z1_] _ _ := G
                  refine lv_goto (tgt := 128) hx hb dX11_fits_123 (by decide) ?_
                  have G := G.sub (bs' := [[zO10 xo t im mk rd po co tr wa wb_ fi cd], wt, z0_, z1_, wg0_, wg1_, wwA_163, w2_207, [zO3 fi e0f_176 e1f_177 e2f_178 e3f_179 e4f_180 e5f_181 a1_226 a2_227, zAr T 0 a1_226 m1f_183 r1f_182, zAr T 0 a2_227 7 r2f_184]]) [5, 0, 1, 8, 2, 3, 4, 7, 6] rfl
                  exact z_back hQz_ (z_iret C hr hlocks G (Nat.le_of_ble_eq_true rfl) (by omega) dX11_fits_128 ⟨laA_152, mdA_153, wyA_154, pc_A_155, f1A_156, f2A_157, f3A_158, f4A_159, f5A_160, f6A_161, n4A_162, wwA_163, l1, m2_208, wy2_209, pc2_210, g1_211, g2_212, f3B_170, g4_213, g5_214, g6_215, (zMk mdB_165 n4B_174 (zPl cr1_ inn1_ k11_)), w2_207, e0f_176, e1f_177, e2f_178, e3f_179, e4f_180, e5f_181, r1f_182, m1f_183, r2f_184, ([zO3 fi e0f_176 e1f_177 e2f_178 e3f_179 e4f_180 e5f_181 a1_226 a2_227, zAr T 0 a1_226 m1f_183 r1f_182, zAr T 0 a2_227 7 r2f_184]), rfl, h_186, h_187, h_188, h_189, h_190, h_191, h_217, (Or.inr rfl), hwy9, (hzk.trans h_195), (by rw [hzk]; exact h_196), (fun _ => h_220), hw_230, h_199, h_200, h_201, (fun q => (h_203 q).elim (fun w => Or.inl ⟨w.1, w.2⟩) (fun w => Or.inr ⟨w.1, h_220⟩))⟩)
            · have c_224n : ¬ (9 : Int) ≤ w_.toInt := fun q => c_224 ((fa_le _ _).mpr q)
              refine lv_aload_n hx hb dX11_fits_73 rfl (lv_at hl 2 rfl) ?_
              refine z_get C G clX11 6 rfl 9 (by decide) m_fl_RX11_65 rfl dX11_fits_74 ?_
              refine lv_aload hx hb dX11_fits_77 (lv_at hl 0 rfl) ?_
              refine lv_iload_n hx hb dX11_fits_79 rfl (lv_at hl 5 rfl) ?_
              refine lv_iconst (v := 2) hx hb dX11_fits_80 (by decide) ?_
              refine lv_isub hx hb dX11_fits_81 ?_
              refine z_Vi (bc := [wff_185, w2_207, z1_]) (br := [wt, z0_, wg0_, wg1_, wwA_163, [zO10 xo t im mk rd po co tr wa wb_ fi cd]]) (As := [.ref wb_, .int (w_ - 2)]) (rest := []) C G (c_sure l T fi e0f_176 e1f_177 e2f_178 e3f_179 e4f_180 e5f_181 r1f_182 m1f_183 r2f_184 wff_185 wb_ l1 m2_208 wy2_209 pc2_210 g1_211 g2_212 f3B_170 g4_213 g5_214 g6_215 (zMk mdB_165 n4B_174 (zPl cr1_ inn1_ k11_)) w2_207 cr1_ inn1_ k11_ k21_ k31_ k41_ z1_ (w_ - 2) h_198 h_217 hz1_ hfm9) (kV_RX11_313 C.2.2.2.2 (Nat.le_of_ble_eq_true rfl) (Nat.le_of_ble_eq_true rfl)) [5, 7, 8] [5, 1, 0] rfl rfl (ci := 3) (qc := (RX3, TX3, 8)) rfl rfl (List.mem_flatten.mpr ⟨_, List.mem_of_getElem? (i := 0) rfl, (bFit_mem h_198).choose_spec⟩) rfl rfl hl.1 dX11_fits_82 (Nat.le_of_ble_eq_true rfl) (by show _ + 0 ≤ 6 * (zNA (i1.toInt = 0 ∧ 0 < (fk 0).toInt ∧ (0 ≤ i2.toInt ∧ i2.toInt < (fk 2).toInt ∧ i2.toInt < 2) ∧ (e0f.toInt = 0 ∨ ¬ e1f.toInt = i1.toInt ∨ ¬ e2f.toInt = i2.toInt)) mdA n4A (zPl cr0_ inn0_ k10_) - n4A) + 6 * (zNA (i1.toInt = 1 ∧ 1 < (fk 0).toInt ∧ (0 ≤ i2.toInt ∧ i2.toInt < (fk 2).toInt ∧ i2.toInt < 2) ∧ (e0f.toInt = 0 ∨ ¬ e1f.toInt = i1.toInt ∨ ¬ e2f.toInt = i2.toInt)) mdB n4B (zPl cr1_ inn1_ k11_) - n4B) + 2 * (zNF (i1.toInt = 1 ∧ 1 < (fk 0).toInt ∧ (0 ≤ i2.toInt ∧ i2.toInt < (fk 2).toInt ∧ i2.toInt < 2) ∧ (e0f.toInt = 0 ∨ ¬ e1f.toInt = i1.toInt ∨ ¬ e2f.toInt = i2.toInt)) (zNF (i1.toInt = 0 ∧ 0 < (fk 0).toInt ∧ (0 ≤ i2.toInt ∧ i2.toInt < (fk 2).toInt ∧ i2.toInt < 2) ∧ (e0f.toInt = 0 ∨ ¬ e1f.toInt = i1.toInt ∨ ¬ e2f.toInt = i2.toInt)) m1f (zMw mdA wyA cr0_ inn0_ k10_)) (zMw mdB wyB cr1_ inn1_ k11_) - m1f); omega) (fun r_234 b1 H locs hw G => ?_)
              obtain rfl := hw
              have G : zS T A s.heap s [wt, z0_, wg0_, wg1_, wwA_163, [zO10 xo t im mk rd po co tr wa wb_ fi cd], wff_185, w2_207, z1_] _ _ := G
              have G := G.sub (bs' := [[zO10 xo t im mk rd po co tr wa wb_ fi cd], wt, z0_, z1_, wg0_, wg1_, wwA_163, w2_207, wff_185]) [5, 0, 1, 8, 2, 3, 4, 7, 6] rfl
              exact z_back hQz_ (z_iret C hr hlocks G (Nat.le_of_ble_eq_true rfl) (by omega) dX11_fits_85 ⟨laA_152, mdA_153, wyA_154, pc_A_155, f1A_156, f2A_157, f3A_158, f4A_159, f5A_160, f6A_161, n4A_162, wwA_163, l1, m2_208, wy2_209, pc2_210, g1_211, g2_212, f3B_170, g4_213, g5_214, g6_215, (zMk mdB_165 n4B_174 (zPl cr1_ inn1_ k11_)), w2_207, e0f_176, e1f_177, e2f_178, e3f_179, e4f_180, e5f_181, r1f_182, m1f_183, r2f_184, wff_185, rfl, h_186, h_187, h_188, h_189, h_190, h_191, h_217, (Or.inr rfl), hwy9, (hzk.trans h_195), (by rw [hzk]; exact h_196), (fun _ => h_220), h_198, h_199, h_200, h_201, (fun q => (h_203 q).elim (fun w => Or.inl ⟨w.1, w.2⟩) (fun w => Or.inr ⟨w.1, h_220⟩))⟩)
          · have c_223n : w_.toInt = (1 : Int) := (fa_eq _ _).mp c_223
            refine lv_aload_n hx hb dX11_fits_57 rfl (lv_at hl 2 rfl) ?_
            refine z_get C G clX11 6 rfl 9 (by decide) m_fl_RX11_65 rfl dX11_fits_58 ?_
            refine lv_aload hx hb dX11_fits_61 (lv_at hl 0 rfl) ?_
            refine z_Vi (bc := [wff_185, w2_207, z1_]) (br := [wt, z0_, wg0_, wg1_, wwA_163, [zO10 xo t im mk rd po co tr wa wb_ fi cd]]) (As := [.ref wb_]) (rest := []) C G (c_ask l T fi e0f_176 e1f_177 e2f_178 e3f_179 e4f_180 e5f_181 r1f_182 m1f_183 r2f_184 wff_185 wb_ l1 m2_208 wy2_209 pc2_210 g1_211 g2_212 f3B_170 g4_213 g5_214 g6_215 (zMk mdB_165 n4B_174 (zPl cr1_ inn1_ k11_)) w2_207 cr1_ inn1_ k11_ k21_ k31_ k41_ z1_ h_198 h_217 hz1_ hn9 hfm9 (by first | with_reducible assumption | with_reducible rfl | omega | assumption | rfl)) (kV_RX11_309 C.2.2.2.2 (Nat.le_of_ble_eq_true rfl) (Nat.le_of_ble_eq_true rfl)) [5, 7, 8] [5, 1, 0] rfl rfl (ci := 3) (qc := (RX3, TX3, 8)) rfl rfl (List.mem_flatten.mpr ⟨_, List.mem_of_getElem? (i := 0) rfl, (bFit_mem h_198).choose_spec⟩) rfl rfl hl.1 dX11_fits_63 (Nat.le_of_ble_eq_true rfl) (by show _ + 0 ≤ 6 * (zNA (i1.toInt = 0 ∧ 0 < (fk 0).toInt ∧ (0 ≤ i2.toInt ∧ i2.toInt < (fk 2).toInt ∧ i2.toInt < 2) ∧ (e0f.toInt = 0 ∨ ¬ e1f.toInt = i1.toInt ∨ ¬ e2f.toInt = i2.toInt)) mdA n4A (zPl cr0_ inn0_ k10_) - n4A) + 6 * (zNA (i1.toInt = 1 ∧ 1 < (fk 0).toInt ∧ (0 ≤ i2.toInt ∧ i2.toInt < (fk 2).toInt ∧ i2.toInt < 2) ∧ (e0f.toInt = 0 ∨ ¬ e1f.toInt = i1.toInt ∨ ¬ e2f.toInt = i2.toInt)) mdB n4B (zPl cr1_ inn1_ k11_) - n4B) + 2 * (zNF (i1.toInt = 1 ∧ 1 < (fk 0).toInt ∧ (0 ≤ i2.toInt ∧ i2.toInt < (fk 2).toInt ∧ i2.toInt < 2) ∧ (e0f.toInt = 0 ∨ ¬ e1f.toInt = i1.toInt ∨ ¬ e2f.toInt = i2.toInt)) (zNF (i1.toInt = 0 ∧ 0 < (fk 0).toInt ∧ (0 ≤ i2.toInt ∧ i2.toInt < (fk 2).toInt ∧ i2.toInt < 2) ∧ (e0f.toInt = 0 ∨ ¬ e1f.toInt = i1.toInt ∨ ¬ e2f.toInt = i2.toInt)) m1f (zMw mdA wyA cr0_ inn0_ k10_)) (zMw mdB wyB cr1_ inn1_ k11_) - m1f); omega) (fun r_238 b1 H locs hw G => ?_)
            refine zEx2 hw ?_
            intro w2_235 g2_236
            refine zCu2 ?_
            intro hbs9 h_237
            clear hw
            subst hbs9
            have G : zS T A s.heap s [wt, z0_, wg0_, wg1_, wwA_163, [zO10 xo t im mk rd po co tr wa wb_ fi cd], w2_235, w2_207, z1_] _ _ := G
            have G := G.sub (bs' := [[zO10 xo t im mk rd po co tr wa wb_ fi cd], wt, z0_, z1_, wg0_, wg1_, wwA_163, w2_207, w2_235]) [5, 0, 1, 8, 2, 3, 4, 7, 6] rfl
            exact z_back hQz_ (z_iret C hr hlocks G (Nat.le_of_ble_eq_true rfl) (by omega) dX11_fits_66 ⟨laA_152, mdA_153, wyA_154, pc_A_155, f1A_156, f2A_157, f3A_158, f4A_159, f5A_160, f6A_161, n4A_162, wwA_163, l1, m2_208, wy2_209, pc2_210, g1_211, g2_212, f3B_170, g4_213, g5_214, g6_215, (zMk mdB_165 n4B_174 (zPl cr1_ inn1_ k11_)), w2_207, e0f_176, e1f_177, e2f_178, e3f_179, e4f_180, e5f_181, r1f_182, m1f_183, g2_236, w2_235, rfl, h_186, h_187, h_188, h_189, h_190, h_191, h_217, (Or.inr rfl), hwy9, (hzk.trans h_195), (by rw [hzk]; exact h_196), (fun _ => h_220), h_237, h_199, h_200, h_201, (fun q => (h_203 q).elim (fun w => Or.inl ⟨w.1, w.2⟩) (fun w => Or.inr ⟨w.1, h_220⟩))⟩)
        · have c_222n : w_.toInt = (0 : Int) := (fa_eq _ _).mp c_222
          refine lv_aload_n hx hb dX11_fits_44 rfl (lv_at hl 2 rfl) ?_
          refine z_get C G clX11 6 rfl 9 (by decide) m_fl_RX11_65 rfl dX11_fits_45 ?_
          refine zEx2 h_198 ?_
          intro a1_239 a2_240 hbs9
          clear h_198
          subst hbs9
          have G : zS T A s.heap s [wt, z0_, wg0_, wg1_, wwA_163, [zO3 fi e0f_176 e1f_177 e2f_178 e3f_179 e4f_180 e5f_181 a1_239 a2_240], [zAr T 0 a1_239 m1f_183 r1f_182], [zAr T 0 a2_240 7 r2f_184], [zO10 xo t im mk rd po co tr wa wb_ fi cd], w2_207, z1_] _ _ := G.re rfl
          refine z_get C G clX3 5 rfl 3 (by decide) m_fl_RX11_306 rfl dX11_fits_48 ?_
          have hw_241 : bFit T fi e0f_176 e1f_177 e2f_178 e3f_179 e4f_180 e5f_181 r1f_182 m1f_183 r2f_184 [zO3 fi e0f_176 e1f_177 e2f_178 e3f_179 e4f_180 e5f_181 a1_239 a2_240, zAr T 0 a1_239 m1f_183 r1f_182, zAr T 0 a2_240 7 r2f_184] := ⟨a1_239, a2_240, rfl⟩
          have G : zS T A s.heap s [wt, z0_, wg0_, wg1_, wwA_163, [zO3 fi e0f_176 e1f_177 e2f_178 e3f_179 e4f_180 e5f_181 a1_239 a2_240, zAr T 0 a1_239 m1f_183 r1f_182, zAr T 0 a2_240 7 r2f_184], [zO10 xo t im mk rd po co tr wa wb_ fi cd], w2_207, z1_] _ _ := G.re rfl
          have G := G.sub (bs' := [[zO10 xo t im mk rd po co tr wa wb_ fi cd], wt, z0_, z1_, wg0_, wg1_, wwA_163, w2_207, [zO3 fi e0f_176 e1f_177 e2f_178 e3f_179 e4f_180 e5f_181 a1_239 a2_240, zAr T 0 a1_239 m1f_183 r1f_182, zAr T 0 a2_240 7 r2f_184]]) [6, 0, 1, 8, 2, 3, 4, 7, 5] rfl
          exact z_back hQz_ (z_iret C hr hlocks G (Nat.le_of_ble_eq_true rfl) (by omega) dX11_fits_51 ⟨laA_152, mdA_153, wyA_154, pc_A_155, f1A_156, f2A_157, f3A_158, f4A_159, f5A_160, f6A_161, n4A_162, wwA_163, l1, m2_208, wy2_209, pc2_210, g1_211, g2_212, f3B_170, g4_213, g5_214, g6_215, (zMk mdB_165 n4B_174 (zPl cr1_ inn1_ k11_)), w2_207, e0f_176, e1f_177, e2f_178, e3f_179, e4f_180, e5f_181, r1f_182, m1f_183, r2f_184, ([zO3 fi e0f_176 e1f_177 e2f_178 e3f_179 e4f_180 e5f_181 a1_239 a2_240, zAr T 0 a1_239 m1f_183 r1f_182, zAr T 0 a2_240 7 r2f_184]), rfl, h_186, h_187, h_188, h_189, h_190, h_191, h_217, (Or.inr rfl), hwy9, (hzk.trans h_195), (by rw [hzk]; exact h_196), (fun _ => h_220), hw_241, h_199, h_200, h_201, (fun q => (h_203 q).elim (fun w => Or.inl ⟨w.1, w.2⟩) (fun w => Or.inr ⟨w.1, h_220⟩))⟩)
      · have c_206n : ¬ (0 : Int) ≤ w_.toInt := fun q => c_206 ((fa_le _ _).mpr q)
        refine lv_bipush (v := (-2)) hx hb dX11_fits_28 (by decide) ?_
        exact z_back hQz_ (z_iret C hr hlocks G (Nat.le_of_ble_eq_true rfl) (by omega) dX11_fits_30 ⟨laA_152, mdA_153, wyA_154, pc_A_155, f1A_156, f2A_157, f3A_158, f4A_159, f5A_160, f6A_161, n4A_162, wwA_163, laB_164, mdB_165, wyB_166, pc_B_167, f1B_168, f2B_169, f3B_170, f4B_171, f5B_172, f6B_173, n4B_174, wwB_175, e0f_176, e1f_177, e2f_178, e3f_179, e4f_180, e5f_181, r1f_182, m1f_183, r2f_184, wff_185, rfl, h_186, h_187, h_188, h_189, h_190, h_191, h_192, h_193, h_194, h_195, h_196, h_197, h_198, h_199, h_200, h_201, h_203⟩)
set_option maxHeartbeats 4000000 in
set_option maxRecDepth 100000 in
/-- c_odds -/
theorem c_odds (l : Launch) (T : zTy) (xo : Nat) (t : Nat) (im : Nat) (mk : Nat) (rd : Nat) (po : Nat) (co : Nat) (tr : Nat) (wa : Nat) (wb_ : Nat) (fi : Nat) (cd : Nat) (l0 : Nat) (l1 : Nat) (d0 : Nat) (d1 : Nat) (g0 : Nat) (g1 : Nat) (ln : Int32) (fl : Int32) (pl : Int32) (ft : Nat → Int32) (fk : Nat → Int32) (wt : va_W) (cr0_ : Int32) (inn0_ : Int32) (k10_ : Nat → Int32) (k20_ : Nat → Int32) (k30_ : Nat → Int32) (k40_ : Nat → Int32) (z0_ : va_W) (cr1_ : Int32) (inn1_ : Int32) (k11_ : Nat → Int32) (k21_ : Nat → Int32) (k31_ : Nat → Int32) (k41_ : Nat → Int32) (z1_ : va_W) (gg0_ : Int32) (q10_ : Nat → Int32) (q20_ : Nat → Int32) (wg0_ : va_W) (gg1_ : Int32) (q11_ : Nat → Int32) (q21_ : Nat → Int32) (wg1_ : va_W) (laA : Nat) (mdA : Int32) (wyA : Int32) (pc_A : Int32) (f1A : Nat → Int32) (f2A : Nat → Int32) (f3A : Nat → Int32) (f4A : Nat → Int32) (f5A : Nat → Int32) (f6A : Nat → Int32) (n4A : Nat) (wwA : va_W) (laB : Nat) (mdB : Int32) (wyB : Int32) (pc_B : Int32) (f1B : Nat → Int32) (f2B : Nat → Int32) (f3B : Nat → Int32) (f4B : Nat → Int32) (f5B : Nat → Int32) (f6B : Nat → Int32) (n4B : Nat) (wwB : va_W) (e0f : Int32) (e1f : Int32) (e2f : Int32) (e3f : Int32) (e4f : Int32) (e5f : Int32) (r1f : Nat → Int32) (m1f : Nat) (r2f : Nat → Int32) (wff : va_W) (i1 : Int32) (i2 : Int32) (a_ : Int32) (b_ : Int32) (w_ : Int32) (ht : bTold T t l0 l1 d0 d1 g0 g1 ln fl pl ft fk wt) (hK : zKT fk) (hz0_ : bLand T l0 cr0_ inn0_ k10_ k20_ k30_ k40_ z0_) (hI0_ : zLI cr0_ k10_ k30_) (hz1_ : bLand T l1 cr1_ inn1_ k11_ k21_ k31_ k41_ z1_) (hI1_ : zLI cr1_ k11_ k31_) (hg0_ : bLog T g0 gg0_ q10_ q20_ wg0_) (hg1_ : bLog T g1 gg1_ q11_ q21_ wg1_) (hwwA : bWays T wa laA mdA wyA pc_A f1A f2A f3A f4A f5A f6A n4A wwA) (hpwA : zPw n4A) (hmdA : mdA = 0 ∨ laA = l0) (hwmA : 0 ≤ wyA.toInt ∧ wyA.toInt ≤ 16384) (hwwB : bWays T wb_ laB mdB wyB pc_B f1B f2B f3B f4B f5B f6B n4B wwB) (hpwB : zPw n4B) (hmdB : mdB = 0 ∨ laB = l1) (hwmB : 0 ≤ wyB.toInt ∧ wyB.toInt ≤ 16384) (hwff : bFit T fi e0f e1f e2f e3f e4f e5f r1f m1f r2f wff) (hfw : zFw m1f) (hf3 : 0 ≤ e3f.toInt) (hFI : (¬ e0f = 0 → e1f.toInt = 0 ∧ ¬ mdA = 0 ∨ e1f.toInt = 1 ∧ ¬ mdB = 0)) : zMi l T yX11_odds cX11_odds 8 (some .int) 8 7 (6 * (zNA (i1.toInt = 0 ∧ 0 < (fk 0).toInt ∧ (0 ≤ i2.toInt ∧ i2.toInt < (fk 2).toInt ∧ i2.toInt < 2) ∧ (e0f.toInt = 0 ∨ ¬ e1f.toInt = i1.toInt ∨ ¬ e2f.toInt = i2.toInt)) mdA n4A (zPl cr0_ inn0_ k10_) - n4A) + 6 * (zNA (i1.toInt = 1 ∧ 1 < (fk 0).toInt ∧ (0 ≤ i2.toInt ∧ i2.toInt < (fk 2).toInt ∧ i2.toInt < 2) ∧ (e0f.toInt = 0 ∨ ¬ e1f.toInt = i1.toInt ∨ ¬ e2f.toInt = i2.toInt)) mdB n4B (zPl cr1_ inn1_ k11_) - n4B) + 2 * (zNF (i1.toInt = 1 ∧ 1 < (fk 0).toInt ∧ (0 ≤ i2.toInt ∧ i2.toInt < (fk 2).toInt ∧ i2.toInt < 2) ∧ (e0f.toInt = 0 ∨ ¬ e1f.toInt = i1.toInt ∨ ¬ e2f.toInt = i2.toInt)) (zNF (i1.toInt = 0 ∧ 0 < (fk 0).toInt ∧ (0 ≤ i2.toInt ∧ i2.toInt < (fk 2).toInt ∧ i2.toInt < 2) ∧ (e0f.toInt = 0 ∨ ¬ e1f.toInt = i1.toInt ∨ ¬ e2f.toInt = i2.toInt)) m1f (zMw mdA wyA cr0_ inn0_ k10_)) (zMw mdB wyB cr1_ inn1_ k11_) - m1f)) [.ref xo, .int i1, .int i2, .int a_, .int b_, .int w_] [[zO10 xo t im mk rd po co tr wa wb_ fi cd], wt, z0_, z1_, wg0_, wg1_, wwA, wwB, wff] (fun (r : Int32) bs => ∃ (laA_2 : Nat) (mdA_2 : Int32) (wyA_2 : Int32) (pc_A_2 : Int32) (f1A_2 : Nat → Int32) (f2A_2 : Nat → Int32) (f3A_2 : Nat → Int32) (f4A_2 : Nat → Int32) (f5A_2 : Nat → Int32) (f6A_2 : Nat → Int32) (n4A_2 : Nat) (wwA_2 : va_W) (laB_2 : Nat) (mdB_2 : Int32) (wyB_2 : Int32) (pc_B_2 : Int32) (f1B_2 : Nat → Int32) (f2B_2 : Nat → Int32) (f3B_2 : Nat → Int32) (f4B_2 : Nat → Int32) (f5B_2 : Nat → Int32) (f6B_2 : Nat → Int32) (n4B_2 : Nat) (wwB_2 : va_W) (e0f_2 : Int32) (e1f_2 : Int32) (e2f_2 : Int32) (e3f_2 : Int32) (e4f_2 : Int32) (e5f_2 : Int32) (r1f_2 : Nat → Int32) (m1f_2 : Nat) (r2f_2 : Nat → Int32) (wff_2 : va_W), bs = [[zO10 xo t im mk rd po co tr wa wb_ fi cd], wt, z0_, z1_, wg0_, wg1_, wwA_2, wwB_2, wff_2] ∧ bWays T wa laA_2 mdA_2 wyA_2 pc_A_2 f1A_2 f2A_2 f3A_2 f4A_2 f5A_2 f6A_2 n4A_2 wwA_2 ∧ (mdA_2 = 0 ∨ laA_2 = l0) ∧ (0 ≤ wyA_2.toInt ∧ wyA_2.toInt ≤ 16384) ∧ n4A_2 = zNA (i1.toInt = 0 ∧ 0 < (fk 0).toInt ∧ (0 ≤ i2.toInt ∧ i2.toInt < (fk 2).toInt ∧ i2.toInt < 2) ∧ (e0f.toInt = 0 ∨ ¬ e1f.toInt = i1.toInt ∨ ¬ e2f.toInt = i2.toInt)) mdA n4A (zPl cr0_ inn0_ k10_) ∧ zPw n4A_2 ∧ (¬ mdA = 0 → ¬ mdA_2 = 0) ∧ bWays T wb_ laB_2 mdB_2 wyB_2 pc_B_2 f1B_2 f2B_2 f3B_2 f4B_2 f5B_2 f6B_2 n4B_2 wwB_2 ∧ (mdB_2 = 0 ∨ laB_2 = l1) ∧ (0 ≤ wyB_2.toInt ∧ wyB_2.toInt ≤ 16384) ∧ n4B_2 = zNA (i1.toInt = 1 ∧ 1 < (fk 0).toInt ∧ (0 ≤ i2.toInt ∧ i2.toInt < (fk 2).toInt ∧ i2.toInt < 2) ∧ (e0f.toInt = 0 ∨ ¬ e1f.toInt = i1.toInt ∨ ¬ e2f.toInt = i2.toInt)) mdB n4B (zPl cr1_ inn1_ k11_) ∧ zPw n4B_2 ∧ (¬ mdB = 0 → ¬ mdB_2 = 0) ∧ bFit T fi e0f_2 e1f_2 e2f_2 e3f_2 e4f_2 e5f_2 r1f_2 m1f_2 r2f_2 wff_2 ∧ m1f_2 = zNF (i1.toInt = 1 ∧ 1 < (fk 0).toInt ∧ (0 ≤ i2.toInt ∧ i2.toInt < (fk 2).toInt ∧ i2.toInt < 2) ∧ (e0f.toInt = 0 ∨ ¬ e1f.toInt = i1.toInt ∨ ¬ e2f.toInt = i2.toInt)) (zNF (i1.toInt = 0 ∧ 0 < (fk 0).toInt ∧ (0 ≤ i2.toInt ∧ i2.toInt < (fk 2).toInt ∧ i2.toInt < 2) ∧ (e0f.toInt = 0 ∨ ¬ e1f.toInt = i1.toInt ∨ ¬ e2f.toInt = i2.toInt)) m1f (zMw mdA wyA cr0_ inn0_ k10_)) (zMw mdB wyB cr1_ inn1_ k11_) ∧ zFw m1f_2 ∧ 0 ≤ e3f_2.toInt ∧ (¬ e0f_2 = 0 → e1f_2.toInt = 0 ∧ ¬ mdA_2 = 0 ∨ e1f_2.toInt = 1 ∧ ¬ mdB_2 = 0)) := by
  refine zMi_of (own := RX11) (by decide) rfl (Nat.le_of_ble_eq_true rfl) ?_
  intro p e s m args below meth c A ls C hr hlocks hnm hAe G hl
  refine zHide (fun Qz_ hQz_ => ?_)
  have hx := C.1
  have hb := C.2.1
  replace hmdA : zHd (mdA = 0 ∨ laA = l0) := hmdA
  replace hmdB : zHd (mdB = 0 ∨ laB = l1) := hmdB
  replace hFI : zHd ((¬ e0f = 0 → e1f.toInt = 0 ∧ ¬ mdA = 0 ∨ e1f.toInt = 1 ∧ ¬ mdB = 0)) := hFI
  have hl : lv_has ls 8 [(0, .ref xo), (1, .int i1), (2, .int i2), (3, .int a_), (4, .int b_), (5, .int w_)] := hl
  refine lv_aload_n hx hb dX11_odds_0 rfl (lv_at hl 0 rfl) ?_
  refine z_get C G clX11 0 rfl 0 (by decide) m_fl_RX11_10 rfl dX11_odds_1 ?_
  refine lv_iload_n hx hb dX11_odds_4 rfl (lv_at hl 1 rfl) ?_
  refine z_Vq (bc := [wt]) (br := [[zO10 xo t im mk rd po co tr wa wb_ fi cd], z0_, z1_, wg0_, wg1_, wwA, wwB, wff]) (As := [.int i1]) (rest := []) C G (c_landAt l T t l0 l1 d0 d1 g0 g1 ln fl pl ft fk wt i1 ht) (kV_RX11_121 C.2.2.2.2 (Nat.le_of_ble_eq_true rfl) (Nat.le_of_ble_eq_true rfl)) [1] [1] rfl rfl (ci := 8) (qc := (RX9, TX9, 8)) rfl rfl (List.mem_flatten.mpr ⟨_, List.mem_of_getElem? (i := 0) rfl, (bTold_mem ht).choose_spec⟩) rfl rfl hl.1 dX11_odds_5 (Nat.le_of_ble_eq_true rfl) (by show _ + 0 ≤ 6 * (zNA (i1.toInt = 0 ∧ 0 < (fk 0).toInt ∧ (0 ≤ i2.toInt ∧ i2.toInt < (fk 2).toInt ∧ i2.toInt < 2) ∧ (e0f.toInt = 0 ∨ ¬ e1f.toInt = i1.toInt ∨ ¬ e2f.toInt = i2.toInt)) mdA n4A (zPl cr0_ inn0_ k10_) - n4A) + 6 * (zNA (i1.toInt = 1 ∧ 1 < (fk 0).toInt ∧ (0 ≤ i2.toInt ∧ i2.toInt < (fk 2).toInt ∧ i2.toInt < 2) ∧ (e0f.toInt = 0 ∨ ¬ e1f.toInt = i1.toInt ∨ ¬ e2f.toInt = i2.toInt)) mdB n4B (zPl cr1_ inn1_ k11_) - n4B) + 2 * (zNF (i1.toInt = 1 ∧ 1 < (fk 0).toInt ∧ (0 ≤ i2.toInt ∧ i2.toInt < (fk 2).toInt ∧ i2.toInt < 2) ∧ (e0f.toInt = 0 ∨ ¬ e1f.toInt = i1.toInt ∨ ¬ e2f.toInt = i2.toInt)) (zNF (i1.toInt = 0 ∧ 0 < (fk 0).toInt ∧ (0 ≤ i2.toInt ∧ i2.toInt < (fk 2).toInt ∧ i2.toInt < 2) ∧ (e0f.toInt = 0 ∨ ¬ e1f.toInt = i1.toInt ∨ ¬ e2f.toInt = i2.toInt)) m1f (zMw mdA wyA cr0_ inn0_ k10_)) (zMw mdB wyB cr1_ inn1_ k11_) - m1f); omega) (fun r_2 b1 H locs hw G => ?_)
  refine zAn2 hw ?_
  intro hbs9 hc_1
  clear hw
  subst hbs9
  have G : zS T A s.heap s [[zO10 xo t im mk rd po co tr wa wb_ fi cd], z0_, z1_, wg0_, wg1_, wwA, wwB, wff, wt] _ _ := G
  rcases hc_1 with ⟨rfl, h_3⟩ | ⟨rfl, h_4, h_5⟩ | ⟨rfl, h_6, h_7⟩
  · have h_3 : (i1.toInt < 0 ∨ (fk 0).toInt ≤ i1.toInt ∨ 2 ≤ i1.toInt) := h_3
    refine lv_astoreN (lv' := [(6, .null), (0, .ref xo), (1, .int i1), (2, .int i2), (3, .int a_), (4, .int b_), (5, .int w_)]) hx hb dX11_odds_8 hl (by decide) (zLvf_h rfl) (fun ls hl => ?_)
    refine lv_aload_n hx hb dX11_odds_10 rfl (lv_at hl 1 rfl) ?_
    refine lv_iload_n hx hb dX11_odds_11 rfl (lv_at hl 2 rfl) ?_
    refine lv_iload_n hx hb dX11_odds_12 rfl (lv_at hl 3 rfl) ?_
    refine z_Vi (bc := [[zO10 xo t im mk rd po co tr wa wb_ fi cd], wt, z0_, z1_, wg0_, wg1_, wwA, wwB, wff]) (br := []) (As := [.int i1, .int i2]) (rest := []) C G (c_fit l T xo t im mk rd po co tr wa wb_ fi cd l0 l1 d0 d1 g0 g1 ln fl pl ft fk wt cr0_ inn0_ k10_ k20_ k30_ k40_ z0_ cr1_ inn1_ k11_ k21_ k31_ k41_ z1_ gg0_ q10_ q20_ wg0_ gg1_ q11_ q21_ wg1_ laA mdA wyA pc_A f1A f2A f3A f4A f5A f6A n4A wwA laB mdB wyB pc_B f1B f2B f3B f4B f5B f6B n4B wwB e0f e1f e2f e3f e4f e5f r1f m1f r2f wff i1 i2 ht (by first | with_reducible assumption | with_reducible rfl | omega | assumption | rfl) hz0_ (by first | with_reducible assumption | with_reducible rfl | omega | assumption | rfl) hz1_ (by first | with_reducible assumption | with_reducible rfl | omega | assumption | rfl) hg0_ hg1_ hwwA (by first | with_reducible assumption | with_reducible rfl | omega | assumption | rfl) (by first | with_reducible assumption | with_reducible rfl | omega | assumption | rfl) (by first | with_reducible assumption | with_reducible rfl | omega | assumption | rfl) hwwB (by first | with_reducible assumption | with_reducible rfl | omega | assumption | rfl) (by first | with_reducible assumption | with_reducible rfl | omega | assumption | rfl) (by first | with_reducible assumption | with_reducible rfl | omega | assumption | rfl) hwff hfw hf3 hFI) (kV_RX11_302 C.2.2.2.2 (Nat.le_of_ble_eq_true rfl) (Nat.le_of_ble_eq_true rfl)) [0, 8, 1, 2, 3, 4, 5, 6, 7] [0, 0, 0, 0, 0, 0, 0, 0, 0] rfl rfl (ci := 10) (qc := (RX11, TX11, 11)) rfl rfl (List.mem_flatten.mpr ⟨_, List.mem_of_getElem? (i := 0) rfl, List.mem_cons_self⟩) rfl rfl hl.1 dX11_odds_13 (Nat.le_of_ble_eq_true rfl) (by show _ + (6 * (zNA (i1.toInt = 0 ∧ 0 < (fk 0).toInt ∧ (0 ≤ i2.toInt ∧ i2.toInt < (fk 2).toInt ∧ i2.toInt < 2) ∧ (e0f.toInt = 0 ∨ ¬ e1f.toInt = i1.toInt ∨ ¬ e2f.toInt = i2.toInt)) mdA n4A (zPl cr0_ inn0_ k10_) - n4A) + 6 * (zNA (i1.toInt = 1 ∧ 1 < (fk 0).toInt ∧ (0 ≤ i2.toInt ∧ i2.toInt < (fk 2).toInt ∧ i2.toInt < 2) ∧ (e0f.toInt = 0 ∨ ¬ e1f.toInt = i1.toInt ∨ ¬ e2f.toInt = i2.toInt)) mdB n4B (zPl cr1_ inn1_ k11_) - n4B) + 2 * (zNF (i1.toInt = 1 ∧ 1 < (fk 0).toInt ∧ (0 ≤ i2.toInt ∧ i2.toInt < (fk 2).toInt ∧ i2.toInt < 2) ∧ (e0f.toInt = 0 ∨ ¬ e1f.toInt = i1.toInt ∨ ¬ e2f.toInt = i2.toInt)) (zNF (i1.toInt = 0 ∧ 0 < (fk 0).toInt ∧ (0 ≤ i2.toInt ∧ i2.toInt < (fk 2).toInt ∧ i2.toInt < 2) ∧ (e0f.toInt = 0 ∨ ¬ e1f.toInt = i1.toInt ∨ ¬ e2f.toInt = i2.toInt)) m1f (zMw mdA wyA cr0_ inn0_ k10_)) (zMw mdB wyB cr1_ inn1_ k11_) - m1f)) ≤ 6 * (zNA (i1.toInt = 0 ∧ 0 < (fk 0).toInt ∧ (0 ≤ i2.toInt ∧ i2.toInt < (fk 2).toInt ∧ i2.toInt < 2) ∧ (e0f.toInt = 0 ∨ ¬ e1f.toInt = i1.toInt ∨ ¬ e2f.toInt = i2.toInt)) mdA n4A (zPl cr0_ inn0_ k10_) - n4A) + 6 * (zNA (i1.toInt = 1 ∧ 1 < (fk 0).toInt ∧ (0 ≤ i2.toInt ∧ i2.toInt < (fk 2).toInt ∧ i2.toInt < 2) ∧ (e0f.toInt = 0 ∨ ¬ e1f.toInt = i1.toInt ∨ ¬ e2f.toInt = i2.toInt)) mdB n4B (zPl cr1_ inn1_ k11_) - n4B) + 2 * (zNF (i1.toInt = 1 ∧ 1 < (fk 0).toInt ∧ (0 ≤ i2.toInt ∧ i2.toInt < (fk 2).toInt ∧ i2.toInt < 2) ∧ (e0f.toInt = 0 ∨ ¬ e1f.toInt = i1.toInt ∨ ¬ e2f.toInt = i2.toInt)) (zNF (i1.toInt = 0 ∧ 0 < (fk 0).toInt ∧ (0 ≤ i2.toInt ∧ i2.toInt < (fk 2).toInt ∧ i2.toInt < 2) ∧ (e0f.toInt = 0 ∨ ¬ e1f.toInt = i1.toInt ∨ ¬ e2f.toInt = i2.toInt)) m1f (zMw mdA wyA cr0_ inn0_ k10_)) (zMw mdB wyB cr1_ inn1_ k11_) - m1f); omega) (fun r_60 b1 H locs hw G => ?_)
    refine zEx34 hw ?_
    intro laA_8 mdA_9 wyA_10 pc_A_11 f1A_12 f2A_13 f3A_14 f4A_15 f5A_16 f6A_17 n4A_18 wwA_19 laB_20 mdB_21 wyB_22 pc_B_23 f1B_24 f2B_25 f3B_26 f4B_27 f5B_28 f6B_29 n4B_30 wwB_31 e0f_32 e1f_33 e2f_34 e3f_35 e4f_36 e5f_37 r1f_38 m1f_39 r2f_40 wff_41
    refine zCu19 ?_
    intro hbs9 h_42 h_43 h_44 h_45 h_46 h_47 h_48 h_49 h_50 h_51 h_52 h_53 h_54 h_55 h_56 h_57 h_58 h_59
    clear hw
    subst hbs9
    have G : zS T A s.heap s [[zO10 xo t im mk rd po co tr wa wb_ fi cd], wt, z0_, z1_, wg0_, wg1_, wwA_19, wwB_31, wff_41] _ _ := G
    replace h_43 : zHd ((mdA_9 = 0 ∨ laA_8 = l0)) := h_43
    replace h_47 : zHd ((¬ mdA = 0 → ¬ mdA_9 = 0)) := h_47
    replace h_49 : zHd ((mdB_21 = 0 ∨ laB_20 = l1)) := h_49
    replace h_53 : zHd ((¬ mdB = 0 → ¬ mdB_21 = 0)) := h_53
    replace h_59 : zHd ((¬ e0f_32 = 0 → e1f_33.toInt = 0 ∧ ¬ mdA_9 = 0 ∨ e1f_33.toInt = 1 ∧ ¬ mdB_21 = 0)) := h_59
    have hfm9 : m1f_39 ≤ 16384 := zFw_le h_56
    refine lv_if_eq (tgt := 40) hx hb dX11_odds_16 (by decide) (fun c_61 => ?_) (fun c_61 => ?_)
    · have c_61n : r_60.toInt = (0 : Int) := (fa_eq _ _).mp c_61
      refine lv_iconst (v := (-1)) hx hb dX11_odds_40 (by decide) ?_
      exact z_back hQz_ (z_iret C hr hlocks G (Nat.le_of_ble_eq_true rfl) (by omega) dX11_odds_41 ⟨laA_8, mdA_9, wyA_10, pc_A_11, f1A_12, f2A_13, f3A_14, f4A_15, f5A_16, f6A_17, n4A_18, wwA_19, laB_20, mdB_21, wyB_22, pc_B_23, f1B_24, f2B_25, f3B_26, f4B_27, f5B_28, f6B_29, n4B_30, wwB_31, e0f_32, e1f_33, e2f_34, e3f_35, e4f_36, e5f_37, r1f_38, m1f_39, r2f_40, wff_41, rfl, h_42, h_43, h_44, h_45, h_46, h_47, h_48, h_49, h_50, h_51, h_52, h_53, h_54, h_55, h_56, h_57, h_59⟩)
    · have c_61n : ¬ r_60.toInt = (0 : Int) := fun q => c_61 ((fa_eq _ _).mpr q)
      refine lv_aloadN hx hb dX11_odds_19 (lv_at hl 0 rfl) ?_
      refine lv_ifnullN (tgt := 40) hx hb dX11_odds_21 (by decide) ?_
      refine lv_iconst (v := (-1)) hx hb dX11_odds_40 (by decide) ?_
      exact z_back hQz_ (z_iret C hr hlocks G (Nat.le_of_ble_eq_true rfl) (by omega) dX11_odds_41 ⟨laA_8, mdA_9, wyA_10, pc_A_11, f1A_12, f2A_13, f3A_14, f4A_15, f5A_16, f6A_17, n4A_18, wwA_19, laB_20, mdB_21, wyB_22, pc_B_23, f1B_24, f2B_25, f3B_26, f4B_27, f5B_28, f6B_29, n4B_30, wwB_31, e0f_32, e1f_33, e2f_34, e3f_35, e4f_36, e5f_37, r1f_38, m1f_39, r2f_40, wff_41, rfl, h_42, h_43, h_44, h_45, h_46, h_47, h_48, h_49, h_50, h_51, h_52, h_53, h_54, h_55, h_56, h_57, h_59⟩)
  · have h_4 : i1.toInt = 0 := h_4
    have h_5 : 0 < (fk 0).toInt := h_5
    refine lv_astore (lv' := [(6, .ref l0), (0, .ref xo), (1, .int i1), (2, .int i2), (3, .int a_), (4, .int b_), (5, .int w_)]) hx hb dX11_odds_8 hl (by decide) (zLvf_h rfl) (fun ls hl => ?_)
    refine lv_aload_n hx hb dX11_odds_10 rfl (lv_at hl 1 rfl) ?_
    refine lv_iload_n hx hb dX11_odds_11 rfl (lv_at hl 2 rfl) ?_
    refine lv_iload_n hx hb dX11_odds_12 rfl (lv_at hl 3 rfl) ?_
    refine z_Vi (bc := [[zO10 xo t im mk rd po co tr wa wb_ fi cd], wt, z0_, z1_, wg0_, wg1_, wwA, wwB, wff]) (br := []) (As := [.int i1, .int i2]) (rest := []) C G (c_fit l T xo t im mk rd po co tr wa wb_ fi cd l0 l1 d0 d1 g0 g1 ln fl pl ft fk wt cr0_ inn0_ k10_ k20_ k30_ k40_ z0_ cr1_ inn1_ k11_ k21_ k31_ k41_ z1_ gg0_ q10_ q20_ wg0_ gg1_ q11_ q21_ wg1_ laA mdA wyA pc_A f1A f2A f3A f4A f5A f6A n4A wwA laB mdB wyB pc_B f1B f2B f3B f4B f5B f6B n4B wwB e0f e1f e2f e3f e4f e5f r1f m1f r2f wff i1 i2 ht (by first | with_reducible assumption | with_reducible rfl | omega | assumption | rfl) hz0_ (by first | with_reducible assumption | with_reducible rfl | omega | assumption | rfl) hz1_ (by first | with_reducible assumption | with_reducible rfl | omega | assumption | rfl) hg0_ hg1_ hwwA (by first | with_reducible assumption | with_reducible rfl | omega | assumption | rfl) (by first | with_reducible assumption | with_reducible rfl | omega | assumption | rfl) (by first | with_reducible assumption | with_reducible rfl | omega | assumption | rfl) hwwB (by first | with_reducible assumption | with_reducible rfl | omega | assumption | rfl) (by first | with_reducible assumption | with_reducible rfl | omega | assumption | rfl) (by first | with_reducible assumption | with_reducible rfl | omega | assumption | rfl) hwff hfw hf3 hFI) (kV_RX11_302 C.2.2.2.2 (Nat.le_of_ble_eq_true rfl) (Nat.le_of_ble_eq_true rfl)) [0, 8, 1, 2, 3, 4, 5, 6, 7] [0, 0, 0, 0, 0, 0, 0, 0, 0] rfl rfl (ci := 10) (qc := (RX11, TX11, 11)) rfl rfl (List.mem_flatten.mpr ⟨_, List.mem_of_getElem? (i := 0) rfl, List.mem_cons_self⟩) rfl rfl hl.1 dX11_odds_13 (Nat.le_of_ble_eq_true rfl) (by show _ + (6 * (zNA (i1.toInt = 0 ∧ 0 < (fk 0).toInt ∧ (0 ≤ i2.toInt ∧ i2.toInt < (fk 2).toInt ∧ i2.toInt < 2) ∧ (e0f.toInt = 0 ∨ ¬ e1f.toInt = i1.toInt ∨ ¬ e2f.toInt = i2.toInt)) mdA n4A (zPl cr0_ inn0_ k10_) - n4A) + 6 * (zNA (i1.toInt = 1 ∧ 1 < (fk 0).toInt ∧ (0 ≤ i2.toInt ∧ i2.toInt < (fk 2).toInt ∧ i2.toInt < 2) ∧ (e0f.toInt = 0 ∨ ¬ e1f.toInt = i1.toInt ∨ ¬ e2f.toInt = i2.toInt)) mdB n4B (zPl cr1_ inn1_ k11_) - n4B) + 2 * (zNF (i1.toInt = 1 ∧ 1 < (fk 0).toInt ∧ (0 ≤ i2.toInt ∧ i2.toInt < (fk 2).toInt ∧ i2.toInt < 2) ∧ (e0f.toInt = 0 ∨ ¬ e1f.toInt = i1.toInt ∨ ¬ e2f.toInt = i2.toInt)) (zNF (i1.toInt = 0 ∧ 0 < (fk 0).toInt ∧ (0 ≤ i2.toInt ∧ i2.toInt < (fk 2).toInt ∧ i2.toInt < 2) ∧ (e0f.toInt = 0 ∨ ¬ e1f.toInt = i1.toInt ∨ ¬ e2f.toInt = i2.toInt)) m1f (zMw mdA wyA cr0_ inn0_ k10_)) (zMw mdB wyB cr1_ inn1_ k11_) - m1f)) ≤ 6 * (zNA (i1.toInt = 0 ∧ 0 < (fk 0).toInt ∧ (0 ≤ i2.toInt ∧ i2.toInt < (fk 2).toInt ∧ i2.toInt < 2) ∧ (e0f.toInt = 0 ∨ ¬ e1f.toInt = i1.toInt ∨ ¬ e2f.toInt = i2.toInt)) mdA n4A (zPl cr0_ inn0_ k10_) - n4A) + 6 * (zNA (i1.toInt = 1 ∧ 1 < (fk 0).toInt ∧ (0 ≤ i2.toInt ∧ i2.toInt < (fk 2).toInt ∧ i2.toInt < 2) ∧ (e0f.toInt = 0 ∨ ¬ e1f.toInt = i1.toInt ∨ ¬ e2f.toInt = i2.toInt)) mdB n4B (zPl cr1_ inn1_ k11_) - n4B) + 2 * (zNF (i1.toInt = 1 ∧ 1 < (fk 0).toInt ∧ (0 ≤ i2.toInt ∧ i2.toInt < (fk 2).toInt ∧ i2.toInt < 2) ∧ (e0f.toInt = 0 ∨ ¬ e1f.toInt = i1.toInt ∨ ¬ e2f.toInt = i2.toInt)) (zNF (i1.toInt = 0 ∧ 0 < (fk 0).toInt ∧ (0 ≤ i2.toInt ∧ i2.toInt < (fk 2).toInt ∧ i2.toInt < 2) ∧ (e0f.toInt = 0 ∨ ¬ e1f.toInt = i1.toInt ∨ ¬ e2f.toInt = i2.toInt)) m1f (zMw mdA wyA cr0_ inn0_ k10_)) (zMw mdB wyB cr1_ inn1_ k11_) - m1f); omega) (fun r_114 b1 H locs hw G => ?_)
    refine zEx34 hw ?_
    intro laA_62 mdA_63 wyA_64 pc_A_65 f1A_66 f2A_67 f3A_68 f4A_69 f5A_70 f6A_71 n4A_72 wwA_73 laB_74 mdB_75 wyB_76 pc_B_77 f1B_78 f2B_79 f3B_80 f4B_81 f5B_82 f6B_83 n4B_84 wwB_85 e0f_86 e1f_87 e2f_88 e3f_89 e4f_90 e5f_91 r1f_92 m1f_93 r2f_94 wff_95
    refine zCu19 ?_
    intro hbs9 h_96 h_97 h_98 h_99 h_100 h_101 h_102 h_103 h_104 h_105 h_106 h_107 h_108 h_109 h_110 h_111 h_112 h_113
    clear hw
    subst hbs9
    have G : zS T A s.heap s [[zO10 xo t im mk rd po co tr wa wb_ fi cd], wt, z0_, z1_, wg0_, wg1_, wwA_73, wwB_85, wff_95] _ _ := G
    replace h_97 : zHd ((mdA_63 = 0 ∨ laA_62 = l0)) := h_97
    replace h_101 : zHd ((¬ mdA = 0 → ¬ mdA_63 = 0)) := h_101
    replace h_103 : zHd ((mdB_75 = 0 ∨ laB_74 = l1)) := h_103
    replace h_107 : zHd ((¬ mdB = 0 → ¬ mdB_75 = 0)) := h_107
    replace h_113 : zHd ((¬ e0f_86 = 0 → e1f_87.toInt = 0 ∧ ¬ mdA_63 = 0 ∨ e1f_87.toInt = 1 ∧ ¬ mdB_75 = 0)) := h_113
    have hfm9 : m1f_93 ≤ 16384 := zFw_le h_110
    refine lv_if_eq (tgt := 40) hx hb dX11_odds_16 (by decide) (fun c_115 => ?_) (fun c_115 => ?_)
    · have c_115n : r_114.toInt = (0 : Int) := (fa_eq _ _).mp c_115
      refine lv_iconst (v := (-1)) hx hb dX11_odds_40 (by decide) ?_
      exact z_back hQz_ (z_iret C hr hlocks G (Nat.le_of_ble_eq_true rfl) (by omega) dX11_odds_41 ⟨laA_62, mdA_63, wyA_64, pc_A_65, f1A_66, f2A_67, f3A_68, f4A_69, f5A_70, f6A_71, n4A_72, wwA_73, laB_74, mdB_75, wyB_76, pc_B_77, f1B_78, f2B_79, f3B_80, f4B_81, f5B_82, f6B_83, n4B_84, wwB_85, e0f_86, e1f_87, e2f_88, e3f_89, e4f_90, e5f_91, r1f_92, m1f_93, r2f_94, wff_95, rfl, h_96, h_97, h_98, h_99, h_100, h_101, h_102, h_103, h_104, h_105, h_106, h_107, h_108, h_109, h_110, h_111, h_113⟩)
    · have c_115n : ¬ r_114.toInt = (0 : Int) := fun q => c_115 ((fa_eq _ _).mpr q)
      refine lv_aload hx hb dX11_odds_19 (lv_at hl 0 rfl) ?_
      refine lv_ifnull hx hb dX11_odds_21 ?_
      refine lv_iload hx hb dX11_odds_24 (lv_at hl 5 rfl) ?_
      refine lv_if_lt (tgt := 40) hx hb dX11_odds_26 (by decide) (fun c_116 => ?_) (fun c_116 => ?_)
      · have c_116n : b_.toInt < (0 : Int) := (fa_lt _ _).mp c_116
        refine lv_iconst (v := (-1)) hx hb dX11_odds_40 (by decide) ?_
        exact z_back hQz_ (z_iret C hr hlocks G (Nat.le_of_ble_eq_true rfl) (by omega) dX11_odds_41 ⟨laA_62, mdA_63, wyA_64, pc_A_65, f1A_66, f2A_67, f3A_68, f4A_69, f5A_70, f6A_71, n4A_72, wwA_73, laB_74, mdB_75, wyB_76, pc_B_77, f1B_78, f2B_79, f3B_80, f4B_81, f5B_82, f6B_83, n4B_84, wwB_85, e0f_86, e1f_87, e2f_88, e3f_89, e4f_90, e5f_91, r1f_92, m1f_93, r2f_94, wff_95, rfl, h_96, h_97, h_98, h_99, h_100, h_101, h_102, h_103, h_104, h_105, h_106, h_107, h_108, h_109, h_110, h_111, h_113⟩)
      · have c_116n : ¬ b_.toInt < (0 : Int) := fun q => c_116 ((fa_lt _ _).mpr q)
        refine lv_iload hx hb dX11_odds_29 (lv_at hl 5 rfl) ?_
        refine lv_aload hx hb dX11_odds_31 (lv_at hl 0 rfl) ?_
        refine lv_iload_n hx hb dX11_odds_33 rfl (lv_at hl 4 rfl) ?_
        refine z_Vi (bc := [z0_]) (br := [[zO10 xo t im mk rd po co tr wa wb_ fi cd], wt, z1_, wg0_, wg1_, wwA_73, wwB_85, wff_95]) (As := [.int a_]) (rest := [.int b_]) C G (c_waysOut l T l0 cr0_ inn0_ k10_ k20_ k30_ k40_ z0_ a_ hz0_) (kV_RX11_221 C.2.2.2.2 (Nat.le_of_ble_eq_true rfl) (Nat.le_of_ble_eq_true rfl)) [2] [2] rfl rfl (ci := 4) (qc := (RX4, TX4, 6)) rfl rfl (List.mem_flatten.mpr ⟨_, List.mem_of_getElem? (i := 0) rfl, (bLand_mem hz0_).choose_spec⟩) rfl rfl hl.1 dX11_odds_34 (Nat.le_of_ble_eq_true rfl) (by show _ + 0 ≤ 6 * (zNA (i1.toInt = 0 ∧ 0 < (fk 0).toInt ∧ (0 ≤ i2.toInt ∧ i2.toInt < (fk 2).toInt ∧ i2.toInt < 2) ∧ (e0f.toInt = 0 ∨ ¬ e1f.toInt = i1.toInt ∨ ¬ e2f.toInt = i2.toInt)) mdA n4A (zPl cr0_ inn0_ k10_) - n4A) + 6 * (zNA (i1.toInt = 1 ∧ 1 < (fk 0).toInt ∧ (0 ≤ i2.toInt ∧ i2.toInt < (fk 2).toInt ∧ i2.toInt < 2) ∧ (e0f.toInt = 0 ∨ ¬ e1f.toInt = i1.toInt ∨ ¬ e2f.toInt = i2.toInt)) mdB n4B (zPl cr1_ inn1_ k11_) - n4B) + 2 * (zNF (i1.toInt = 1 ∧ 1 < (fk 0).toInt ∧ (0 ≤ i2.toInt ∧ i2.toInt < (fk 2).toInt ∧ i2.toInt < 2) ∧ (e0f.toInt = 0 ∨ ¬ e1f.toInt = i1.toInt ∨ ¬ e2f.toInt = i2.toInt)) (zNF (i1.toInt = 0 ∧ 0 < (fk 0).toInt ∧ (0 ≤ i2.toInt ∧ i2.toInt < (fk 2).toInt ∧ i2.toInt < 2) ∧ (e0f.toInt = 0 ∨ ¬ e1f.toInt = i1.toInt ∨ ¬ e2f.toInt = i2.toInt)) m1f (zMw mdA wyA cr0_ inn0_ k10_)) (zMw mdB wyB cr1_ inn1_ k11_) - m1f); omega) (fun r_118 b1 H locs hw G => ?_)
        refine zAn2 hw ?_
        intro hbs9 h_117
        clear hw
        subst hbs9
        have G : zS T A s.heap s [[zO10 xo t im mk rd po co tr wa wb_ fi cd], wt, z1_, wg0_, wg1_, wwA_73, wwB_85, wff_95, z0_] _ _ := G
        subst h_117
        refine lv_icmp_lt (tgt := 42) hx hb dX11_odds_37 (by decide) (fun c_119 => ?_) (fun c_119 => ?_)
        · have c_119n : b_.toInt < (zWays cr0_ inn0_ k10_ a_).toInt := (fa_lt _ _).mp c_119
          refine lv_aload_n hx hb dX11_odds_42 rfl (lv_at hl 1 rfl) ?_
          refine z_get C G clX11 0 rfl 9 (by decide) m_fl_RX11_65 rfl dX11_odds_43 ?_
          refine zEx2 h_108 ?_
          intro a1_120 a2_121 hbs9
          clear h_108
          subst hbs9
          have G : zS T A s.heap s [[zO10 xo t im mk rd po co tr wa wb_ fi cd], wt, z1_, wg0_, wg1_, wwA_73, wwB_85, [zO3 fi e0f_86 e1f_87 e2f_88 e3f_89 e4f_90 e5f_91 a1_120 a2_121], [zAr T 0 a1_120 m1f_93 r1f_92], [zAr T 0 a2_121 7 r2f_94], z0_] _ _ := G.re rfl
          refine z_get C G clX3 7 rfl 3 (by decide) m_fl_RX11_306 rfl dX11_odds_46 ?_
          refine lv_if_ne (tgt := 54) hx hb dX11_odds_49 (by decide) (fun c_122 => ?_) (fun c_122 => ?_)
          · have c_122n : ¬ e3f_89.toInt = (0 : Int) := fun q => c_122 ((fa_eq _ _).mpr q)
            refine lv_aload_n hx hb dX11_odds_54 rfl (lv_at hl 1 rfl) ?_
            refine z_get C G clX11 0 rfl 9 (by decide) m_fl_RX11_65 rfl dX11_odds_55 ?_
            refine lv_aload_n hx hb dX11_odds_58 rfl (lv_at hl 1 rfl) ?_
            refine lv_iload_n hx hb dX11_odds_59 rfl (lv_at hl 2 rfl) ?_
            refine lv_aload hx hb dX11_odds_60 (lv_at hl 0 rfl) ?_
            have hX := h_112.resolve_left (fun q => absurd (congrArg Int32.toInt q.1) (by show ¬ _ = (0 : Int); omega))
            have hmk : ¬ mdA_63 = 0 := (h_113 hX.2.2.1).elim (fun q => q.2) (fun q => absurd q.1 (by have := hX.2.2.2; omega))
            have hzk : zMk mdA_63 n4A_72 (zPl cr0_ inn0_ k10_) = n4A_72 := by unfold zMk; rw [if_neg hmk]
            have hn9 : zMk mdA_63 n4A_72 (zPl cr0_ inn0_ k10_) ≤ 131072 := by rw [hzk]; exact zPw_le h_100
            refine z_Vq (bc := [[zO10 xo t im mk rd po co tr wa wb_ fi cd], wwA_73, z0_]) (br := [wt, z1_, wg0_, wg1_, wwB_85, [zO3 fi e0f_86 e1f_87 e2f_88 e3f_89 e4f_90 e5f_91 a1_120 a2_121], [zAr T 0 a1_120 m1f_93 r1f_92], [zAr T 0 a2_121 7 r2f_94]]) (As := [.int i1, .ref l0]) (rest := [.ref fi]) C G (c_waysInA l T xo t im mk rd po co tr wa wb_ fi cd i1 laA_62 mdA_63 wyA_64 pc_A_65 f1A_66 f2A_67 f3A_68 f4A_69 f5A_70 f6A_71 n4A_72 wwA_73 l0 cr0_ inn0_ k10_ k20_ k30_ k40_ z0_ h_96 hz0_ hI0_ h_100 h_97 h_98 (by omega)) (kV_RX11_235 C.2.2.2.2 (Nat.le_of_ble_eq_true rfl) (Nat.le_of_ble_eq_true rfl)) [0, 5, 10] [0, 4, 4] rfl rfl (ci := 10) (qc := (RX11, TX11, 11)) rfl rfl (List.mem_flatten.mpr ⟨_, List.mem_of_getElem? (i := 0) rfl, List.mem_cons_self⟩) rfl rfl hl.1 dX11_odds_62 (Nat.le_of_ble_eq_true rfl) (by show _ + (6 * (zMk mdA_63 n4A_72 (zPl cr0_ inn0_ k10_) - n4A_72)) ≤ 6 * (zNA (i1.toInt = 0 ∧ 0 < (fk 0).toInt ∧ (0 ≤ i2.toInt ∧ i2.toInt < (fk 2).toInt ∧ i2.toInt < 2) ∧ (e0f.toInt = 0 ∨ ¬ e1f.toInt = i1.toInt ∨ ¬ e2f.toInt = i2.toInt)) mdA n4A (zPl cr0_ inn0_ k10_) - n4A) + 6 * (zNA (i1.toInt = 1 ∧ 1 < (fk 0).toInt ∧ (0 ≤ i2.toInt ∧ i2.toInt < (fk 2).toInt ∧ i2.toInt < 2) ∧ (e0f.toInt = 0 ∨ ¬ e1f.toInt = i1.toInt ∨ ¬ e2f.toInt = i2.toInt)) mdB n4B (zPl cr1_ inn1_ k11_) - n4B) + 2 * (zNF (i1.toInt = 1 ∧ 1 < (fk 0).toInt ∧ (0 ≤ i2.toInt ∧ i2.toInt < (fk 2).toInt ∧ i2.toInt < 2) ∧ (e0f.toInt = 0 ∨ ¬ e1f.toInt = i1.toInt ∨ ¬ e2f.toInt = i2.toInt)) (zNF (i1.toInt = 0 ∧ 0 < (fk 0).toInt ∧ (0 ≤ i2.toInt ∧ i2.toInt < (fk 2).toInt ∧ i2.toInt < 2) ∧ (e0f.toInt = 0 ∨ ¬ e1f.toInt = i1.toInt ∨ ¬ e2f.toInt = i2.toInt)) m1f (zMw mdA wyA cr0_ inn0_ k10_)) (zMw mdB wyB cr1_ inn1_ k11_) - m1f); omega) (fun r_137 b1 H locs hw G => ?_)
            refine zEx9 hw ?_
            intro w2_123 m2_124 wy2_125 pc2_126 g1_127 g2_128 g4_129 g5_130 g6_131
            refine zCu6 ?_
            intro hbs9 h_132 h_133 h_134 h_135 h_136
            clear hw
            subst hbs9
            have G : zS T A s.heap s [wt, z1_, wg0_, wg1_, wwB_85, [zO3 fi e0f_86 e1f_87 e2f_88 e3f_89 e4f_90 e5f_91 a1_120 a2_121], [zAr T 0 a1_120 m1f_93 r1f_92], [zAr T 0 a2_121 7 r2f_94], [zO10 xo t im mk rd po co tr wa wb_ fi cd], w2_123, z0_] _ _ := G
            subst h_132
            have hwy9 := h_134
            refine lv_iload_n hx hb dX11_odds_65 rfl (lv_at hl 4 rfl) ?_
            refine lv_iload hx hb dX11_odds_66 (lv_at hl 5 rfl) ?_
            have hw_138 : bFit T fi e0f_86 e1f_87 e2f_88 e3f_89 e4f_90 e5f_91 r1f_92 m1f_93 r2f_94 [zO3 fi e0f_86 e1f_87 e2f_88 e3f_89 e4f_90 e5f_91 a1_120 a2_121, zAr T 0 a1_120 m1f_93 r1f_92, zAr T 0 a2_121 7 r2f_94] := ⟨a1_120, a2_121, rfl⟩
            have G : zS T A s.heap s [wt, z1_, wg0_, wg1_, wwB_85, [zO3 fi e0f_86 e1f_87 e2f_88 e3f_89 e4f_90 e5f_91 a1_120 a2_121, zAr T 0 a1_120 m1f_93 r1f_92, zAr T 0 a2_121 7 r2f_94], [zO10 xo t im mk rd po co tr wa wb_ fi cd], w2_123, z0_] _ _ := G.re rfl
            refine z_Vi (bc := [[zO3 fi e0f_86 e1f_87 e2f_88 e3f_89 e4f_90 e5f_91 a1_120 a2_121, zAr T 0 a1_120 m1f_93 r1f_92, zAr T 0 a2_121 7 r2f_94], w2_123]) (br := [wt, z1_, wg0_, wg1_, wwB_85, [zO10 xo t im mk rd po co tr wa wb_ fi cd], z0_]) (As := [.ref wa, .int a_, .int b_]) (rest := []) C G (c_pointing l T fi e0f_86 e1f_87 e2f_88 e3f_89 e4f_90 e5f_91 r1f_92 m1f_93 r2f_94 ([zO3 fi e0f_86 e1f_87 e2f_88 e3f_89 e4f_90 e5f_91 a1_120 a2_121, zAr T 0 a1_120 m1f_93 r1f_92, zAr T 0 a2_121 7 r2f_94]) wa l0 m2_124 wy2_125 pc2_126 g1_127 g2_128 f3A_68 g4_129 g5_130 g6_131 (zMk mdA_63 n4A_72 (zPl cr0_ inn0_ k10_)) w2_123 a_ b_ hw_138 h_133 hfm9) (kV_RX11_320 C.2.2.2.2 (Nat.le_of_ble_eq_true rfl) (Nat.le_of_ble_eq_true rfl)) [5, 7] [5, 1] rfl rfl (ci := 3) (qc := (RX3, TX3, 8)) rfl rfl (List.mem_flatten.mpr ⟨_, List.mem_of_getElem? (i := 0) rfl, (bFit_mem hw_138).choose_spec⟩) rfl rfl hl.1 dX11_odds_68 (Nat.le_of_ble_eq_true rfl) (by show _ + 0 ≤ 6 * (zNA (i1.toInt = 0 ∧ 0 < (fk 0).toInt ∧ (0 ≤ i2.toInt ∧ i2.toInt < (fk 2).toInt ∧ i2.toInt < 2) ∧ (e0f.toInt = 0 ∨ ¬ e1f.toInt = i1.toInt ∨ ¬ e2f.toInt = i2.toInt)) mdA n4A (zPl cr0_ inn0_ k10_) - n4A) + 6 * (zNA (i1.toInt = 1 ∧ 1 < (fk 0).toInt ∧ (0 ≤ i2.toInt ∧ i2.toInt < (fk 2).toInt ∧ i2.toInt < 2) ∧ (e0f.toInt = 0 ∨ ¬ e1f.toInt = i1.toInt ∨ ¬ e2f.toInt = i2.toInt)) mdB n4B (zPl cr1_ inn1_ k11_) - n4B) + 2 * (zNF (i1.toInt = 1 ∧ 1 < (fk 0).toInt ∧ (0 ≤ i2.toInt ∧ i2.toInt < (fk 2).toInt ∧ i2.toInt < 2) ∧ (e0f.toInt = 0 ∨ ¬ e1f.toInt = i1.toInt ∨ ¬ e2f.toInt = i2.toInt)) (zNF (i1.toInt = 0 ∧ 0 < (fk 0).toInt ∧ (0 ≤ i2.toInt ∧ i2.toInt < (fk 2).toInt ∧ i2.toInt < 2) ∧ (e0f.toInt = 0 ∨ ¬ e1f.toInt = i1.toInt ∨ ¬ e2f.toInt = i2.toInt)) m1f (zMw mdA wyA cr0_ inn0_ k10_)) (zMw mdB wyB cr1_ inn1_ k11_) - m1f); omega) (fun r_139 b1 H locs hw G => ?_)
            obtain rfl := hw
            have G : zS T A s.heap s [wt, z1_, wg0_, wg1_, wwB_85, [zO10 xo t im mk rd po co tr wa wb_ fi cd], z0_, [zO3 fi e0f_86 e1f_87 e2f_88 e3f_89 e4f_90 e5f_91 a1_120 a2_121, zAr T 0 a1_120 m1f_93 r1f_92, zAr T 0 a2_121 7 r2f_94], w2_123] _ _ := G
            refine lv_istore (lv' := [(7, .int r_139), (6, .ref l0), (0, .ref xo), (1, .int i1), (2, .int i2), (3, .int a_), (4, .int b_), (5, .int w_)]) hx hb dX11_odds_71 hl (by decide) (zLvf_h rfl) (fun ls hl => ?_)
            refine lv_iload hx hb dX11_odds_73 (lv_at hl 0 rfl) ?_
            refine lv_aload_n hx hb dX11_odds_75 rfl (lv_at hl 2 rfl) ?_
            refine z_get C G clX11 5 rfl 9 (by decide) m_fl_RX11_65 rfl dX11_odds_76 ?_
            have G : zS T A s.heap s [wt, z1_, wg0_, wg1_, wwB_85, [zO10 xo t im mk rd po co tr wa wb_ fi cd], z0_, [zO3 fi e0f_86 e1f_87 e2f_88 e3f_89 e4f_90 e5f_91 a1_120 a2_121], [zAr T 0 a1_120 m1f_93 r1f_92], [zAr T 0 a2_121 7 r2f_94], w2_123] _ _ := G.re rfl
            refine z_get C G clX3 7 rfl 3 (by decide) m_fl_RX11_306 rfl dX11_odds_79 ?_
            refine lv_iload hx hb dX11_odds_82 (lv_at hl 7 rfl) ?_
            refine z_Si (bc := []) (br := [wt, z1_, wg0_, wg1_, wwB_85, [zO10 xo t im mk rd po co tr wa wb_ fi cd], z0_, [zO3 fi e0f_86 e1f_87 e2f_88 e3f_89 e4f_90 e5f_91 a1_120 a2_121], [zAr T 0 a1_120 m1f_93 r1f_92], [zAr T 0 a2_121 7 r2f_94], w2_123]) (As := [.int r_139, .int e3f_89, .int w_]) (rest := []) C G (c_inLeastTerms l T r_139 e3f_89 w_) (kS_RX11_262 C.2.2.2.2 (Nat.le_of_ble_eq_true rfl) (Nat.le_of_ble_eq_true rfl)) [] [] rfl rfl rfl rfl hl.1 dX11_odds_84 (Nat.le_of_ble_eq_true rfl) (by show _ + 0 ≤ 6 * (zNA (i1.toInt = 0 ∧ 0 < (fk 0).toInt ∧ (0 ≤ i2.toInt ∧ i2.toInt < (fk 2).toInt ∧ i2.toInt < 2) ∧ (e0f.toInt = 0 ∨ ¬ e1f.toInt = i1.toInt ∨ ¬ e2f.toInt = i2.toInt)) mdA n4A (zPl cr0_ inn0_ k10_) - n4A) + 6 * (zNA (i1.toInt = 1 ∧ 1 < (fk 0).toInt ∧ (0 ≤ i2.toInt ∧ i2.toInt < (fk 2).toInt ∧ i2.toInt < 2) ∧ (e0f.toInt = 0 ∨ ¬ e1f.toInt = i1.toInt ∨ ¬ e2f.toInt = i2.toInt)) mdB n4B (zPl cr1_ inn1_ k11_) - n4B) + 2 * (zNF (i1.toInt = 1 ∧ 1 < (fk 0).toInt ∧ (0 ≤ i2.toInt ∧ i2.toInt < (fk 2).toInt ∧ i2.toInt < 2) ∧ (e0f.toInt = 0 ∨ ¬ e1f.toInt = i1.toInt ∨ ¬ e2f.toInt = i2.toInt)) (zNF (i1.toInt = 0 ∧ 0 < (fk 0).toInt ∧ (0 ≤ i2.toInt ∧ i2.toInt < (fk 2).toInt ∧ i2.toInt < 2) ∧ (e0f.toInt = 0 ∨ ¬ e1f.toInt = i1.toInt ∨ ¬ e2f.toInt = i2.toInt)) m1f (zMw mdA wyA cr0_ inn0_ k10_)) (zMw mdB wyB cr1_ inn1_ k11_) - m1f); omega) (fun r_140 b1 H locs hw G => ?_)
            obtain rfl := hw
            have G : zS T A s.heap s [wt, z1_, wg0_, wg1_, wwB_85, [zO10 xo t im mk rd po co tr wa wb_ fi cd], z0_, [zO3 fi e0f_86 e1f_87 e2f_88 e3f_89 e4f_90 e5f_91 a1_120 a2_121], [zAr T 0 a1_120 m1f_93 r1f_92], [zAr T 0 a2_121 7 r2f_94], w2_123] _ _ := G
            have hw_141 : bFit T fi e0f_86 e1f_87 e2f_88 e3f_89 e4f_90 e5f_91 r1f_92 m1f_93 r2f_94 [zO3 fi e0f_86 e1f_87 e2f_88 e3f_89 e4f_90 e5f_91 a1_120 a2_121, zAr T 0 a1_120 m1f_93 r1f_92, zAr T 0 a2_121 7 r2f_94] := ⟨a1_120, a2_121, rfl⟩
            have G : zS T A s.heap s [wt, z1_, wg0_, wg1_, wwB_85, [zO10 xo t im mk rd po co tr wa wb_ fi cd], z0_, [zO3 fi e0f_86 e1f_87 e2f_88 e3f_89 e4f_90 e5f_91 a1_120 a2_121, zAr T 0 a1_120 m1f_93 r1f_92, zAr T 0 a2_121 7 r2f_94], w2_123] _ _ := G.re rfl
            have G := G.sub (bs' := [[zO10 xo t im mk rd po co tr wa wb_ fi cd], wt, z0_, z1_, wg0_, wg1_, w2_123, wwB_85, [zO3 fi e0f_86 e1f_87 e2f_88 e3f_89 e4f_90 e5f_91 a1_120 a2_121, zAr T 0 a1_120 m1f_93 r1f_92, zAr T 0 a2_121 7 r2f_94]]) [5, 0, 6, 1, 2, 3, 8, 4, 7] rfl
            exact z_back hQz_ (z_iret C hr hlocks G (Nat.le_of_ble_eq_true rfl) (by omega) dX11_odds_87 ⟨l0, m2_124, wy2_125, pc2_126, g1_127, g2_128, f3A_68, g4_129, g5_130, g6_131, (zMk mdA_63 n4A_72 (zPl cr0_ inn0_ k10_)), w2_123, laB_74, mdB_75, wyB_76, pc_B_77, f1B_78, f2B_79, f3B_80, f4B_81, f5B_82, f6B_83, n4B_84, wwB_85, e0f_86, e1f_87, e2f_88, e3f_89, e4f_90, e5f_91, r1f_92, m1f_93, r2f_94, ([zO3 fi e0f_86 e1f_87 e2f_88 e3f_89 e4f_90 e5f_91 a1_120 a2_121, zAr T 0 a1_120 m1f_93 r1f_92, zAr T 0 a2_121 7 r2f_94]), rfl, h_133, (Or.inr rfl), hwy9, (hzk.trans h_99), (by rw [hzk]; exact h_100), (fun _ => h_136), h_102, h_103, h_104, h_105, h_106, h_107, hw_141, h_109, h_110, h_111, (fun q => (h_113 q).elim (fun w => Or.inl ⟨w.1, h_136⟩) (fun w => Or.inr ⟨w.1, w.2⟩))⟩)
          · have c_122n : e3f_89.toInt = (0 : Int) := (fa_eq _ _).mp c_122
            refine lv_iconst (v := (-1)) hx hb dX11_odds_52 (by decide) ?_
            have hw_142 : bFit T fi e0f_86 e1f_87 e2f_88 e3f_89 e4f_90 e5f_91 r1f_92 m1f_93 r2f_94 [zO3 fi e0f_86 e1f_87 e2f_88 e3f_89 e4f_90 e5f_91 a1_120 a2_121, zAr T 0 a1_120 m1f_93 r1f_92, zAr T 0 a2_121 7 r2f_94] := ⟨a1_120, a2_121, rfl⟩
            have G : zS T A s.heap s [[zO10 xo t im mk rd po co tr wa wb_ fi cd], wt, z1_, wg0_, wg1_, wwA_73, wwB_85, [zO3 fi e0f_86 e1f_87 e2f_88 e3f_89 e4f_90 e5f_91 a1_120 a2_121, zAr T 0 a1_120 m1f_93 r1f_92, zAr T 0 a2_121 7 r2f_94], z0_] _ _ := G.re rfl
            have G := G.sub (bs' := [[zO10 xo t im mk rd po co tr wa wb_ fi cd], wt, z0_, z1_, wg0_, wg1_, wwA_73, wwB_85, [zO3 fi e0f_86 e1f_87 e2f_88 e3f_89 e4f_90 e5f_91 a1_120 a2_121, zAr T 0 a1_120 m1f_93 r1f_92, zAr T 0 a2_121 7 r2f_94]]) [0, 1, 8, 2, 3, 4, 5, 6, 7] rfl
            exact z_back hQz_ (z_iret C hr hlocks G (Nat.le_of_ble_eq_true rfl) (by omega) dX11_odds_53 ⟨laA_62, mdA_63, wyA_64, pc_A_65, f1A_66, f2A_67, f3A_68, f4A_69, f5A_70, f6A_71, n4A_72, wwA_73, laB_74, mdB_75, wyB_76, pc_B_77, f1B_78, f2B_79, f3B_80, f4B_81, f5B_82, f6B_83, n4B_84, wwB_85, e0f_86, e1f_87, e2f_88, e3f_89, e4f_90, e5f_91, r1f_92, m1f_93, r2f_94, ([zO3 fi e0f_86 e1f_87 e2f_88 e3f_89 e4f_90 e5f_91 a1_120 a2_121, zAr T 0 a1_120 m1f_93 r1f_92, zAr T 0 a2_121 7 r2f_94]), rfl, h_96, h_97, h_98, h_99, h_100, h_101, h_102, h_103, h_104, h_105, h_106, h_107, hw_142, h_109, h_110, h_111, h_113⟩)
        · have c_119n : ¬ b_.toInt < (zWays cr0_ inn0_ k10_ a_).toInt := fun q => c_119 ((fa_lt _ _).mpr q)
          refine lv_iconst (v := (-1)) hx hb dX11_odds_40 (by decide) ?_
          have G := G.sub (bs' := [[zO10 xo t im mk rd po co tr wa wb_ fi cd], wt, z0_, z1_, wg0_, wg1_, wwA_73, wwB_85, wff_95]) [0, 1, 8, 2, 3, 4, 5, 6, 7] rfl
          exact z_back hQz_ (z_iret C hr hlocks G (Nat.le_of_ble_eq_true rfl) (by omega) dX11_odds_41 ⟨laA_62, mdA_63, wyA_64, pc_A_65, f1A_66, f2A_67, f3A_68, f4A_69, f5A_70, f6A_71, n4A_72, wwA_73, laB_74, mdB_75, wyB_76, pc_B_77, f1B_78, f2B_79, f3B_80, f4B_81, f5B_82, f6B_83, n4B_84, wwB_85, e0f_86, e1f_87, e2f_88, e3f_89, e4f_90, e5f_91, r1f_92, m1f_93, r2f_94, wff_95, rfl, h_96, h_97, h_98, h_99, h_100, h_101, h_102, h_103, h_104, h_105, h_106, h_107, h_108, h_109, h_110, h_111, h_113⟩)
  · have h_6 : i1.toInt = 1 := h_6
    have h_7 : 1 < (fk 0).toInt := h_7
    refine lv_astore (lv' := [(6, .ref l1), (0, .ref xo), (1, .int i1), (2, .int i2), (3, .int a_), (4, .int b_), (5, .int w_)]) hx hb dX11_odds_8 hl (by decide) (zLvf_h rfl) (fun ls hl => ?_)
    refine lv_aload_n hx hb dX11_odds_10 rfl (lv_at hl 1 rfl) ?_
    refine lv_iload_n hx hb dX11_odds_11 rfl (lv_at hl 2 rfl) ?_
    refine lv_iload_n hx hb dX11_odds_12 rfl (lv_at hl 3 rfl) ?_
    refine z_Vi (bc := [[zO10 xo t im mk rd po co tr wa wb_ fi cd], wt, z0_, z1_, wg0_, wg1_, wwA, wwB, wff]) (br := []) (As := [.int i1, .int i2]) (rest := []) C G (c_fit l T xo t im mk rd po co tr wa wb_ fi cd l0 l1 d0 d1 g0 g1 ln fl pl ft fk wt cr0_ inn0_ k10_ k20_ k30_ k40_ z0_ cr1_ inn1_ k11_ k21_ k31_ k41_ z1_ gg0_ q10_ q20_ wg0_ gg1_ q11_ q21_ wg1_ laA mdA wyA pc_A f1A f2A f3A f4A f5A f6A n4A wwA laB mdB wyB pc_B f1B f2B f3B f4B f5B f6B n4B wwB e0f e1f e2f e3f e4f e5f r1f m1f r2f wff i1 i2 ht (by first | with_reducible assumption | with_reducible rfl | omega | assumption | rfl) hz0_ (by first | with_reducible assumption | with_reducible rfl | omega | assumption | rfl) hz1_ (by first | with_reducible assumption | with_reducible rfl | omega | assumption | rfl) hg0_ hg1_ hwwA (by first | with_reducible assumption | with_reducible rfl | omega | assumption | rfl) (by first | with_reducible assumption | with_reducible rfl | omega | assumption | rfl) (by first | with_reducible assumption | with_reducible rfl | omega | assumption | rfl) hwwB (by first | with_reducible assumption | with_reducible rfl | omega | assumption | rfl) (by first | with_reducible assumption | with_reducible rfl | omega | assumption | rfl) (by first | with_reducible assumption | with_reducible rfl | omega | assumption | rfl) hwff hfw hf3 hFI) (kV_RX11_302 C.2.2.2.2 (Nat.le_of_ble_eq_true rfl) (Nat.le_of_ble_eq_true rfl)) [0, 8, 1, 2, 3, 4, 5, 6, 7] [0, 0, 0, 0, 0, 0, 0, 0, 0] rfl rfl (ci := 10) (qc := (RX11, TX11, 11)) rfl rfl (List.mem_flatten.mpr ⟨_, List.mem_of_getElem? (i := 0) rfl, List.mem_cons_self⟩) rfl rfl hl.1 dX11_odds_13 (Nat.le_of_ble_eq_true rfl) (by show _ + (6 * (zNA (i1.toInt = 0 ∧ 0 < (fk 0).toInt ∧ (0 ≤ i2.toInt ∧ i2.toInt < (fk 2).toInt ∧ i2.toInt < 2) ∧ (e0f.toInt = 0 ∨ ¬ e1f.toInt = i1.toInt ∨ ¬ e2f.toInt = i2.toInt)) mdA n4A (zPl cr0_ inn0_ k10_) - n4A) + 6 * (zNA (i1.toInt = 1 ∧ 1 < (fk 0).toInt ∧ (0 ≤ i2.toInt ∧ i2.toInt < (fk 2).toInt ∧ i2.toInt < 2) ∧ (e0f.toInt = 0 ∨ ¬ e1f.toInt = i1.toInt ∨ ¬ e2f.toInt = i2.toInt)) mdB n4B (zPl cr1_ inn1_ k11_) - n4B) + 2 * (zNF (i1.toInt = 1 ∧ 1 < (fk 0).toInt ∧ (0 ≤ i2.toInt ∧ i2.toInt < (fk 2).toInt ∧ i2.toInt < 2) ∧ (e0f.toInt = 0 ∨ ¬ e1f.toInt = i1.toInt ∨ ¬ e2f.toInt = i2.toInt)) (zNF (i1.toInt = 0 ∧ 0 < (fk 0).toInt ∧ (0 ≤ i2.toInt ∧ i2.toInt < (fk 2).toInt ∧ i2.toInt < 2) ∧ (e0f.toInt = 0 ∨ ¬ e1f.toInt = i1.toInt ∨ ¬ e2f.toInt = i2.toInt)) m1f (zMw mdA wyA cr0_ inn0_ k10_)) (zMw mdB wyB cr1_ inn1_ k11_) - m1f)) ≤ 6 * (zNA (i1.toInt = 0 ∧ 0 < (fk 0).toInt ∧ (0 ≤ i2.toInt ∧ i2.toInt < (fk 2).toInt ∧ i2.toInt < 2) ∧ (e0f.toInt = 0 ∨ ¬ e1f.toInt = i1.toInt ∨ ¬ e2f.toInt = i2.toInt)) mdA n4A (zPl cr0_ inn0_ k10_) - n4A) + 6 * (zNA (i1.toInt = 1 ∧ 1 < (fk 0).toInt ∧ (0 ≤ i2.toInt ∧ i2.toInt < (fk 2).toInt ∧ i2.toInt < 2) ∧ (e0f.toInt = 0 ∨ ¬ e1f.toInt = i1.toInt ∨ ¬ e2f.toInt = i2.toInt)) mdB n4B (zPl cr1_ inn1_ k11_) - n4B) + 2 * (zNF (i1.toInt = 1 ∧ 1 < (fk 0).toInt ∧ (0 ≤ i2.toInt ∧ i2.toInt < (fk 2).toInt ∧ i2.toInt < 2) ∧ (e0f.toInt = 0 ∨ ¬ e1f.toInt = i1.toInt ∨ ¬ e2f.toInt = i2.toInt)) (zNF (i1.toInt = 0 ∧ 0 < (fk 0).toInt ∧ (0 ≤ i2.toInt ∧ i2.toInt < (fk 2).toInt ∧ i2.toInt < 2) ∧ (e0f.toInt = 0 ∨ ¬ e1f.toInt = i1.toInt ∨ ¬ e2f.toInt = i2.toInt)) m1f (zMw mdA wyA cr0_ inn0_ k10_)) (zMw mdB wyB cr1_ inn1_ k11_) - m1f); omega) (fun r_195 b1 H locs hw G => ?_)
    refine zEx34 hw ?_
    intro laA_143 mdA_144 wyA_145 pc_A_146 f1A_147 f2A_148 f3A_149 f4A_150 f5A_151 f6A_152 n4A_153 wwA_154 laB_155 mdB_156 wyB_157 pc_B_158 f1B_159 f2B_160 f3B_161 f4B_162 f5B_163 f6B_164 n4B_165 wwB_166 e0f_167 e1f_168 e2f_169 e3f_170 e4f_171 e5f_172 r1f_173 m1f_174 r2f_175 wff_176
    refine zCu19 ?_
    intro hbs9 h_177 h_178 h_179 h_180 h_181 h_182 h_183 h_184 h_185 h_186 h_187 h_188 h_189 h_190 h_191 h_192 h_193 h_194
    clear hw
    subst hbs9
    have G : zS T A s.heap s [[zO10 xo t im mk rd po co tr wa wb_ fi cd], wt, z0_, z1_, wg0_, wg1_, wwA_154, wwB_166, wff_176] _ _ := G
    replace h_178 : zHd ((mdA_144 = 0 ∨ laA_143 = l0)) := h_178
    replace h_182 : zHd ((¬ mdA = 0 → ¬ mdA_144 = 0)) := h_182
    replace h_184 : zHd ((mdB_156 = 0 ∨ laB_155 = l1)) := h_184
    replace h_188 : zHd ((¬ mdB = 0 → ¬ mdB_156 = 0)) := h_188
    replace h_194 : zHd ((¬ e0f_167 = 0 → e1f_168.toInt = 0 ∧ ¬ mdA_144 = 0 ∨ e1f_168.toInt = 1 ∧ ¬ mdB_156 = 0)) := h_194
    have hfm9 : m1f_174 ≤ 16384 := zFw_le h_191
    refine lv_if_eq (tgt := 40) hx hb dX11_odds_16 (by decide) (fun c_196 => ?_) (fun c_196 => ?_)
    · have c_196n : r_195.toInt = (0 : Int) := (fa_eq _ _).mp c_196
      refine lv_iconst (v := (-1)) hx hb dX11_odds_40 (by decide) ?_
      exact z_back hQz_ (z_iret C hr hlocks G (Nat.le_of_ble_eq_true rfl) (by omega) dX11_odds_41 ⟨laA_143, mdA_144, wyA_145, pc_A_146, f1A_147, f2A_148, f3A_149, f4A_150, f5A_151, f6A_152, n4A_153, wwA_154, laB_155, mdB_156, wyB_157, pc_B_158, f1B_159, f2B_160, f3B_161, f4B_162, f5B_163, f6B_164, n4B_165, wwB_166, e0f_167, e1f_168, e2f_169, e3f_170, e4f_171, e5f_172, r1f_173, m1f_174, r2f_175, wff_176, rfl, h_177, h_178, h_179, h_180, h_181, h_182, h_183, h_184, h_185, h_186, h_187, h_188, h_189, h_190, h_191, h_192, h_194⟩)
    · have c_196n : ¬ r_195.toInt = (0 : Int) := fun q => c_196 ((fa_eq _ _).mpr q)
      refine lv_aload hx hb dX11_odds_19 (lv_at hl 0 rfl) ?_
      refine lv_ifnull hx hb dX11_odds_21 ?_
      refine lv_iload hx hb dX11_odds_24 (lv_at hl 5 rfl) ?_
      refine lv_if_lt (tgt := 40) hx hb dX11_odds_26 (by decide) (fun c_197 => ?_) (fun c_197 => ?_)
      · have c_197n : b_.toInt < (0 : Int) := (fa_lt _ _).mp c_197
        refine lv_iconst (v := (-1)) hx hb dX11_odds_40 (by decide) ?_
        exact z_back hQz_ (z_iret C hr hlocks G (Nat.le_of_ble_eq_true rfl) (by omega) dX11_odds_41 ⟨laA_143, mdA_144, wyA_145, pc_A_146, f1A_147, f2A_148, f3A_149, f4A_150, f5A_151, f6A_152, n4A_153, wwA_154, laB_155, mdB_156, wyB_157, pc_B_158, f1B_159, f2B_160, f3B_161, f4B_162, f5B_163, f6B_164, n4B_165, wwB_166, e0f_167, e1f_168, e2f_169, e3f_170, e4f_171, e5f_172, r1f_173, m1f_174, r2f_175, wff_176, rfl, h_177, h_178, h_179, h_180, h_181, h_182, h_183, h_184, h_185, h_186, h_187, h_188, h_189, h_190, h_191, h_192, h_194⟩)
      · have c_197n : ¬ b_.toInt < (0 : Int) := fun q => c_197 ((fa_lt _ _).mpr q)
        refine lv_iload hx hb dX11_odds_29 (lv_at hl 5 rfl) ?_
        refine lv_aload hx hb dX11_odds_31 (lv_at hl 0 rfl) ?_
        refine lv_iload_n hx hb dX11_odds_33 rfl (lv_at hl 4 rfl) ?_
        refine z_Vi (bc := [z1_]) (br := [[zO10 xo t im mk rd po co tr wa wb_ fi cd], wt, z0_, wg0_, wg1_, wwA_154, wwB_166, wff_176]) (As := [.int a_]) (rest := [.int b_]) C G (c_waysOut l T l1 cr1_ inn1_ k11_ k21_ k31_ k41_ z1_ a_ hz1_) (kV_RX11_221 C.2.2.2.2 (Nat.le_of_ble_eq_true rfl) (Nat.le_of_ble_eq_true rfl)) [3] [3] rfl rfl (ci := 4) (qc := (RX4, TX4, 6)) rfl rfl (List.mem_flatten.mpr ⟨_, List.mem_of_getElem? (i := 0) rfl, (bLand_mem hz1_).choose_spec⟩) rfl rfl hl.1 dX11_odds_34 (Nat.le_of_ble_eq_true rfl) (by show _ + 0 ≤ 6 * (zNA (i1.toInt = 0 ∧ 0 < (fk 0).toInt ∧ (0 ≤ i2.toInt ∧ i2.toInt < (fk 2).toInt ∧ i2.toInt < 2) ∧ (e0f.toInt = 0 ∨ ¬ e1f.toInt = i1.toInt ∨ ¬ e2f.toInt = i2.toInt)) mdA n4A (zPl cr0_ inn0_ k10_) - n4A) + 6 * (zNA (i1.toInt = 1 ∧ 1 < (fk 0).toInt ∧ (0 ≤ i2.toInt ∧ i2.toInt < (fk 2).toInt ∧ i2.toInt < 2) ∧ (e0f.toInt = 0 ∨ ¬ e1f.toInt = i1.toInt ∨ ¬ e2f.toInt = i2.toInt)) mdB n4B (zPl cr1_ inn1_ k11_) - n4B) + 2 * (zNF (i1.toInt = 1 ∧ 1 < (fk 0).toInt ∧ (0 ≤ i2.toInt ∧ i2.toInt < (fk 2).toInt ∧ i2.toInt < 2) ∧ (e0f.toInt = 0 ∨ ¬ e1f.toInt = i1.toInt ∨ ¬ e2f.toInt = i2.toInt)) (zNF (i1.toInt = 0 ∧ 0 < (fk 0).toInt ∧ (0 ≤ i2.toInt ∧ i2.toInt < (fk 2).toInt ∧ i2.toInt < 2) ∧ (e0f.toInt = 0 ∨ ¬ e1f.toInt = i1.toInt ∨ ¬ e2f.toInt = i2.toInt)) m1f (zMw mdA wyA cr0_ inn0_ k10_)) (zMw mdB wyB cr1_ inn1_ k11_) - m1f); omega) (fun r_199 b1 H locs hw G => ?_)
        refine zAn2 hw ?_
        intro hbs9 h_198
        clear hw
        subst hbs9
        have G : zS T A s.heap s [[zO10 xo t im mk rd po co tr wa wb_ fi cd], wt, z0_, wg0_, wg1_, wwA_154, wwB_166, wff_176, z1_] _ _ := G
        subst h_198
        refine lv_icmp_lt (tgt := 42) hx hb dX11_odds_37 (by decide) (fun c_200 => ?_) (fun c_200 => ?_)
        · have c_200n : b_.toInt < (zWays cr1_ inn1_ k11_ a_).toInt := (fa_lt _ _).mp c_200
          refine lv_aload_n hx hb dX11_odds_42 rfl (lv_at hl 1 rfl) ?_
          refine z_get C G clX11 0 rfl 9 (by decide) m_fl_RX11_65 rfl dX11_odds_43 ?_
          refine zEx2 h_189 ?_
          intro a1_201 a2_202 hbs9
          clear h_189
          subst hbs9
          have G : zS T A s.heap s [[zO10 xo t im mk rd po co tr wa wb_ fi cd], wt, z0_, wg0_, wg1_, wwA_154, wwB_166, [zO3 fi e0f_167 e1f_168 e2f_169 e3f_170 e4f_171 e5f_172 a1_201 a2_202], [zAr T 0 a1_201 m1f_174 r1f_173], [zAr T 0 a2_202 7 r2f_175], z1_] _ _ := G.re rfl
          refine z_get C G clX3 7 rfl 3 (by decide) m_fl_RX11_306 rfl dX11_odds_46 ?_
          refine lv_if_ne (tgt := 54) hx hb dX11_odds_49 (by decide) (fun c_203 => ?_) (fun c_203 => ?_)
          · have c_203n : ¬ e3f_170.toInt = (0 : Int) := fun q => c_203 ((fa_eq _ _).mpr q)
            refine lv_aload_n hx hb dX11_odds_54 rfl (lv_at hl 1 rfl) ?_
            refine z_get C G clX11 0 rfl 9 (by decide) m_fl_RX11_65 rfl dX11_odds_55 ?_
            refine lv_aload_n hx hb dX11_odds_58 rfl (lv_at hl 1 rfl) ?_
            refine lv_iload_n hx hb dX11_odds_59 rfl (lv_at hl 2 rfl) ?_
            refine lv_aload hx hb dX11_odds_60 (lv_at hl 0 rfl) ?_
            have hX := h_193.resolve_left (fun q => absurd (congrArg Int32.toInt q.1) (by show ¬ _ = (0 : Int); omega))
            have hmk : ¬ mdB_156 = 0 := (h_194 hX.2.2.1).elim (fun q => absurd q.1 (by have := hX.2.2.2; omega)) (fun q => q.2)
            have hzk : zMk mdB_156 n4B_165 (zPl cr1_ inn1_ k11_) = n4B_165 := by unfold zMk; rw [if_neg hmk]
            have hn9 : zMk mdB_156 n4B_165 (zPl cr1_ inn1_ k11_) ≤ 131072 := by rw [hzk]; exact zPw_le h_187
            refine z_Vq (bc := [[zO10 xo t im mk rd po co tr wa wb_ fi cd], wwB_166, z1_]) (br := [wt, z0_, wg0_, wg1_, wwA_154, [zO3 fi e0f_167 e1f_168 e2f_169 e3f_170 e4f_171 e5f_172 a1_201 a2_202], [zAr T 0 a1_201 m1f_174 r1f_173], [zAr T 0 a2_202 7 r2f_175]]) (As := [.int i1, .ref l1]) (rest := [.ref fi]) C G (c_waysInB l T xo t im mk rd po co tr wa wb_ fi cd i1 laB_155 mdB_156 wyB_157 pc_B_158 f1B_159 f2B_160 f3B_161 f4B_162 f5B_163 f6B_164 n4B_165 wwB_166 l1 cr1_ inn1_ k11_ k21_ k31_ k41_ z1_ h_183 hz1_ hI1_ h_187 h_184 h_185 (by omega)) (kV_RX11_235 C.2.2.2.2 (Nat.le_of_ble_eq_true rfl) (Nat.le_of_ble_eq_true rfl)) [0, 6, 10] [0, 5, 3] rfl rfl (ci := 10) (qc := (RX11, TX11, 11)) rfl rfl (List.mem_flatten.mpr ⟨_, List.mem_of_getElem? (i := 0) rfl, List.mem_cons_self⟩) rfl rfl hl.1 dX11_odds_62 (Nat.le_of_ble_eq_true rfl) (by show _ + (6 * (zMk mdB_156 n4B_165 (zPl cr1_ inn1_ k11_) - n4B_165)) ≤ 6 * (zNA (i1.toInt = 0 ∧ 0 < (fk 0).toInt ∧ (0 ≤ i2.toInt ∧ i2.toInt < (fk 2).toInt ∧ i2.toInt < 2) ∧ (e0f.toInt = 0 ∨ ¬ e1f.toInt = i1.toInt ∨ ¬ e2f.toInt = i2.toInt)) mdA n4A (zPl cr0_ inn0_ k10_) - n4A) + 6 * (zNA (i1.toInt = 1 ∧ 1 < (fk 0).toInt ∧ (0 ≤ i2.toInt ∧ i2.toInt < (fk 2).toInt ∧ i2.toInt < 2) ∧ (e0f.toInt = 0 ∨ ¬ e1f.toInt = i1.toInt ∨ ¬ e2f.toInt = i2.toInt)) mdB n4B (zPl cr1_ inn1_ k11_) - n4B) + 2 * (zNF (i1.toInt = 1 ∧ 1 < (fk 0).toInt ∧ (0 ≤ i2.toInt ∧ i2.toInt < (fk 2).toInt ∧ i2.toInt < 2) ∧ (e0f.toInt = 0 ∨ ¬ e1f.toInt = i1.toInt ∨ ¬ e2f.toInt = i2.toInt)) (zNF (i1.toInt = 0 ∧ 0 < (fk 0).toInt ∧ (0 ≤ i2.toInt ∧ i2.toInt < (fk 2).toInt ∧ i2.toInt < 2) ∧ (e0f.toInt = 0 ∨ ¬ e1f.toInt = i1.toInt ∨ ¬ e2f.toInt = i2.toInt)) m1f (zMw mdA wyA cr0_ inn0_ k10_)) (zMw mdB wyB cr1_ inn1_ k11_) - m1f); omega) (fun r_218 b1 H locs hw G => ?_)
            refine zEx9 hw ?_
            intro w2_204 m2_205 wy2_206 pc2_207 g1_208 g2_209 g4_210 g5_211 g6_212
            refine zCu6 ?_
            intro hbs9 h_213 h_214 h_215 h_216 h_217
            clear hw
            subst hbs9
            have G : zS T A s.heap s [wt, z0_, wg0_, wg1_, wwA_154, [zO3 fi e0f_167 e1f_168 e2f_169 e3f_170 e4f_171 e5f_172 a1_201 a2_202], [zAr T 0 a1_201 m1f_174 r1f_173], [zAr T 0 a2_202 7 r2f_175], [zO10 xo t im mk rd po co tr wa wb_ fi cd], w2_204, z1_] _ _ := G
            subst h_213
            have hwy9 := h_215
            refine lv_iload_n hx hb dX11_odds_65 rfl (lv_at hl 4 rfl) ?_
            refine lv_iload hx hb dX11_odds_66 (lv_at hl 5 rfl) ?_
            have hw_219 : bFit T fi e0f_167 e1f_168 e2f_169 e3f_170 e4f_171 e5f_172 r1f_173 m1f_174 r2f_175 [zO3 fi e0f_167 e1f_168 e2f_169 e3f_170 e4f_171 e5f_172 a1_201 a2_202, zAr T 0 a1_201 m1f_174 r1f_173, zAr T 0 a2_202 7 r2f_175] := ⟨a1_201, a2_202, rfl⟩
            have G : zS T A s.heap s [wt, z0_, wg0_, wg1_, wwA_154, [zO3 fi e0f_167 e1f_168 e2f_169 e3f_170 e4f_171 e5f_172 a1_201 a2_202, zAr T 0 a1_201 m1f_174 r1f_173, zAr T 0 a2_202 7 r2f_175], [zO10 xo t im mk rd po co tr wa wb_ fi cd], w2_204, z1_] _ _ := G.re rfl
            refine z_Vi (bc := [[zO3 fi e0f_167 e1f_168 e2f_169 e3f_170 e4f_171 e5f_172 a1_201 a2_202, zAr T 0 a1_201 m1f_174 r1f_173, zAr T 0 a2_202 7 r2f_175], w2_204]) (br := [wt, z0_, wg0_, wg1_, wwA_154, [zO10 xo t im mk rd po co tr wa wb_ fi cd], z1_]) (As := [.ref wb_, .int a_, .int b_]) (rest := []) C G (c_pointing l T fi e0f_167 e1f_168 e2f_169 e3f_170 e4f_171 e5f_172 r1f_173 m1f_174 r2f_175 ([zO3 fi e0f_167 e1f_168 e2f_169 e3f_170 e4f_171 e5f_172 a1_201 a2_202, zAr T 0 a1_201 m1f_174 r1f_173, zAr T 0 a2_202 7 r2f_175]) wb_ l1 m2_205 wy2_206 pc2_207 g1_208 g2_209 f3B_161 g4_210 g5_211 g6_212 (zMk mdB_156 n4B_165 (zPl cr1_ inn1_ k11_)) w2_204 a_ b_ hw_219 h_214 hfm9) (kV_RX11_320 C.2.2.2.2 (Nat.le_of_ble_eq_true rfl) (Nat.le_of_ble_eq_true rfl)) [5, 7] [5, 1] rfl rfl (ci := 3) (qc := (RX3, TX3, 8)) rfl rfl (List.mem_flatten.mpr ⟨_, List.mem_of_getElem? (i := 0) rfl, (bFit_mem hw_219).choose_spec⟩) rfl rfl hl.1 dX11_odds_68 (Nat.le_of_ble_eq_true rfl) (by show _ + 0 ≤ 6 * (zNA (i1.toInt = 0 ∧ 0 < (fk 0).toInt ∧ (0 ≤ i2.toInt ∧ i2.toInt < (fk 2).toInt ∧ i2.toInt < 2) ∧ (e0f.toInt = 0 ∨ ¬ e1f.toInt = i1.toInt ∨ ¬ e2f.toInt = i2.toInt)) mdA n4A (zPl cr0_ inn0_ k10_) - n4A) + 6 * (zNA (i1.toInt = 1 ∧ 1 < (fk 0).toInt ∧ (0 ≤ i2.toInt ∧ i2.toInt < (fk 2).toInt ∧ i2.toInt < 2) ∧ (e0f.toInt = 0 ∨ ¬ e1f.toInt = i1.toInt ∨ ¬ e2f.toInt = i2.toInt)) mdB n4B (zPl cr1_ inn1_ k11_) - n4B) + 2 * (zNF (i1.toInt = 1 ∧ 1 < (fk 0).toInt ∧ (0 ≤ i2.toInt ∧ i2.toInt < (fk 2).toInt ∧ i2.toInt < 2) ∧ (e0f.toInt = 0 ∨ ¬ e1f.toInt = i1.toInt ∨ ¬ e2f.toInt = i2.toInt)) (zNF (i1.toInt = 0 ∧ 0 < (fk 0).toInt ∧ (0 ≤ i2.toInt ∧ i2.toInt < (fk 2).toInt ∧ i2.toInt < 2) ∧ (e0f.toInt = 0 ∨ ¬ e1f.toInt = i1.toInt ∨ ¬ e2f.toInt = i2.toInt)) m1f (zMw mdA wyA cr0_ inn0_ k10_)) (zMw mdB wyB cr1_ inn1_ k11_) - m1f); omega) (fun r_220 b1 H locs hw G => ?_)
            obtain rfl := hw
            have G : zS T A s.heap s [wt, z0_, wg0_, wg1_, wwA_154, [zO10 xo t im mk rd po co tr wa wb_ fi cd], z1_, [zO3 fi e0f_167 e1f_168 e2f_169 e3f_170 e4f_171 e5f_172 a1_201 a2_202, zAr T 0 a1_201 m1f_174 r1f_173, zAr T 0 a2_202 7 r2f_175], w2_204] _ _ := G
            refine lv_istore (lv' := [(7, .int r_220), (6, .ref l1), (0, .ref xo), (1, .int i1), (2, .int i2), (3, .int a_), (4, .int b_), (5, .int w_)]) hx hb dX11_odds_71 hl (by decide) (zLvf_h rfl) (fun ls hl => ?_)
            refine lv_iload hx hb dX11_odds_73 (lv_at hl 0 rfl) ?_
            refine lv_aload_n hx hb dX11_odds_75 rfl (lv_at hl 2 rfl) ?_
            refine z_get C G clX11 5 rfl 9 (by decide) m_fl_RX11_65 rfl dX11_odds_76 ?_
            have G : zS T A s.heap s [wt, z0_, wg0_, wg1_, wwA_154, [zO10 xo t im mk rd po co tr wa wb_ fi cd], z1_, [zO3 fi e0f_167 e1f_168 e2f_169 e3f_170 e4f_171 e5f_172 a1_201 a2_202], [zAr T 0 a1_201 m1f_174 r1f_173], [zAr T 0 a2_202 7 r2f_175], w2_204] _ _ := G.re rfl
            refine z_get C G clX3 7 rfl 3 (by decide) m_fl_RX11_306 rfl dX11_odds_79 ?_
            refine lv_iload hx hb dX11_odds_82 (lv_at hl 7 rfl) ?_
            refine z_Si (bc := []) (br := [wt, z0_, wg0_, wg1_, wwA_154, [zO10 xo t im mk rd po co tr wa wb_ fi cd], z1_, [zO3 fi e0f_167 e1f_168 e2f_169 e3f_170 e4f_171 e5f_172 a1_201 a2_202], [zAr T 0 a1_201 m1f_174 r1f_173], [zAr T 0 a2_202 7 r2f_175], w2_204]) (As := [.int r_220, .int e3f_170, .int w_]) (rest := []) C G (c_inLeastTerms l T r_220 e3f_170 w_) (kS_RX11_262 C.2.2.2.2 (Nat.le_of_ble_eq_true rfl) (Nat.le_of_ble_eq_true rfl)) [] [] rfl rfl rfl rfl hl.1 dX11_odds_84 (Nat.le_of_ble_eq_true rfl) (by show _ + 0 ≤ 6 * (zNA (i1.toInt = 0 ∧ 0 < (fk 0).toInt ∧ (0 ≤ i2.toInt ∧ i2.toInt < (fk 2).toInt ∧ i2.toInt < 2) ∧ (e0f.toInt = 0 ∨ ¬ e1f.toInt = i1.toInt ∨ ¬ e2f.toInt = i2.toInt)) mdA n4A (zPl cr0_ inn0_ k10_) - n4A) + 6 * (zNA (i1.toInt = 1 ∧ 1 < (fk 0).toInt ∧ (0 ≤ i2.toInt ∧ i2.toInt < (fk 2).toInt ∧ i2.toInt < 2) ∧ (e0f.toInt = 0 ∨ ¬ e1f.toInt = i1.toInt ∨ ¬ e2f.toInt = i2.toInt)) mdB n4B (zPl cr1_ inn1_ k11_) - n4B) + 2 * (zNF (i1.toInt = 1 ∧ 1 < (fk 0).toInt ∧ (0 ≤ i2.toInt ∧ i2.toInt < (fk 2).toInt ∧ i2.toInt < 2) ∧ (e0f.toInt = 0 ∨ ¬ e1f.toInt = i1.toInt ∨ ¬ e2f.toInt = i2.toInt)) (zNF (i1.toInt = 0 ∧ 0 < (fk 0).toInt ∧ (0 ≤ i2.toInt ∧ i2.toInt < (fk 2).toInt ∧ i2.toInt < 2) ∧ (e0f.toInt = 0 ∨ ¬ e1f.toInt = i1.toInt ∨ ¬ e2f.toInt = i2.toInt)) m1f (zMw mdA wyA cr0_ inn0_ k10_)) (zMw mdB wyB cr1_ inn1_ k11_) - m1f); omega) (fun r_221 b1 H locs hw G => ?_)
            obtain rfl := hw
            have G : zS T A s.heap s [wt, z0_, wg0_, wg1_, wwA_154, [zO10 xo t im mk rd po co tr wa wb_ fi cd], z1_, [zO3 fi e0f_167 e1f_168 e2f_169 e3f_170 e4f_171 e5f_172 a1_201 a2_202], [zAr T 0 a1_201 m1f_174 r1f_173], [zAr T 0 a2_202 7 r2f_175], w2_204] _ _ := G
            have hw_222 : bFit T fi e0f_167 e1f_168 e2f_169 e3f_170 e4f_171 e5f_172 r1f_173 m1f_174 r2f_175 [zO3 fi e0f_167 e1f_168 e2f_169 e3f_170 e4f_171 e5f_172 a1_201 a2_202, zAr T 0 a1_201 m1f_174 r1f_173, zAr T 0 a2_202 7 r2f_175] := ⟨a1_201, a2_202, rfl⟩
            have G : zS T A s.heap s [wt, z0_, wg0_, wg1_, wwA_154, [zO10 xo t im mk rd po co tr wa wb_ fi cd], z1_, [zO3 fi e0f_167 e1f_168 e2f_169 e3f_170 e4f_171 e5f_172 a1_201 a2_202, zAr T 0 a1_201 m1f_174 r1f_173, zAr T 0 a2_202 7 r2f_175], w2_204] _ _ := G.re rfl
            have G := G.sub (bs' := [[zO10 xo t im mk rd po co tr wa wb_ fi cd], wt, z0_, z1_, wg0_, wg1_, wwA_154, w2_204, [zO3 fi e0f_167 e1f_168 e2f_169 e3f_170 e4f_171 e5f_172 a1_201 a2_202, zAr T 0 a1_201 m1f_174 r1f_173, zAr T 0 a2_202 7 r2f_175]]) [5, 0, 1, 6, 2, 3, 4, 8, 7] rfl
            exact z_back hQz_ (z_iret C hr hlocks G (Nat.le_of_ble_eq_true rfl) (by omega) dX11_odds_87 ⟨laA_143, mdA_144, wyA_145, pc_A_146, f1A_147, f2A_148, f3A_149, f4A_150, f5A_151, f6A_152, n4A_153, wwA_154, l1, m2_205, wy2_206, pc2_207, g1_208, g2_209, f3B_161, g4_210, g5_211, g6_212, (zMk mdB_156 n4B_165 (zPl cr1_ inn1_ k11_)), w2_204, e0f_167, e1f_168, e2f_169, e3f_170, e4f_171, e5f_172, r1f_173, m1f_174, r2f_175, ([zO3 fi e0f_167 e1f_168 e2f_169 e3f_170 e4f_171 e5f_172 a1_201 a2_202, zAr T 0 a1_201 m1f_174 r1f_173, zAr T 0 a2_202 7 r2f_175]), rfl, h_177, h_178, h_179, h_180, h_181, h_182, h_214, (Or.inr rfl), hwy9, (hzk.trans h_186), (by rw [hzk]; exact h_187), (fun _ => h_217), hw_222, h_190, h_191, h_192, (fun q => (h_194 q).elim (fun w => Or.inl ⟨w.1, w.2⟩) (fun w => Or.inr ⟨w.1, h_217⟩))⟩)
          · have c_203n : e3f_170.toInt = (0 : Int) := (fa_eq _ _).mp c_203
            refine lv_iconst (v := (-1)) hx hb dX11_odds_52 (by decide) ?_
            have hw_223 : bFit T fi e0f_167 e1f_168 e2f_169 e3f_170 e4f_171 e5f_172 r1f_173 m1f_174 r2f_175 [zO3 fi e0f_167 e1f_168 e2f_169 e3f_170 e4f_171 e5f_172 a1_201 a2_202, zAr T 0 a1_201 m1f_174 r1f_173, zAr T 0 a2_202 7 r2f_175] := ⟨a1_201, a2_202, rfl⟩
            have G : zS T A s.heap s [[zO10 xo t im mk rd po co tr wa wb_ fi cd], wt, z0_, wg0_, wg1_, wwA_154, wwB_166, [zO3 fi e0f_167 e1f_168 e2f_169 e3f_170 e4f_171 e5f_172 a1_201 a2_202, zAr T 0 a1_201 m1f_174 r1f_173, zAr T 0 a2_202 7 r2f_175], z1_] _ _ := G.re rfl
            have G := G.sub (bs' := [[zO10 xo t im mk rd po co tr wa wb_ fi cd], wt, z0_, z1_, wg0_, wg1_, wwA_154, wwB_166, [zO3 fi e0f_167 e1f_168 e2f_169 e3f_170 e4f_171 e5f_172 a1_201 a2_202, zAr T 0 a1_201 m1f_174 r1f_173, zAr T 0 a2_202 7 r2f_175]]) [0, 1, 2, 8, 3, 4, 5, 6, 7] rfl
            exact z_back hQz_ (z_iret C hr hlocks G (Nat.le_of_ble_eq_true rfl) (by omega) dX11_odds_53 ⟨laA_143, mdA_144, wyA_145, pc_A_146, f1A_147, f2A_148, f3A_149, f4A_150, f5A_151, f6A_152, n4A_153, wwA_154, laB_155, mdB_156, wyB_157, pc_B_158, f1B_159, f2B_160, f3B_161, f4B_162, f5B_163, f6B_164, n4B_165, wwB_166, e0f_167, e1f_168, e2f_169, e3f_170, e4f_171, e5f_172, r1f_173, m1f_174, r2f_175, ([zO3 fi e0f_167 e1f_168 e2f_169 e3f_170 e4f_171 e5f_172 a1_201 a2_202, zAr T 0 a1_201 m1f_174 r1f_173, zAr T 0 a2_202 7 r2f_175]), rfl, h_177, h_178, h_179, h_180, h_181, h_182, h_183, h_184, h_185, h_186, h_187, h_188, hw_223, h_190, h_191, h_192, h_194⟩)
        · have c_200n : ¬ b_.toInt < (zWays cr1_ inn1_ k11_ a_).toInt := fun q => c_200 ((fa_lt _ _).mpr q)
          refine lv_iconst (v := (-1)) hx hb dX11_odds_40 (by decide) ?_
          have G := G.sub (bs' := [[zO10 xo t im mk rd po co tr wa wb_ fi cd], wt, z0_, z1_, wg0_, wg1_, wwA_154, wwB_166, wff_176]) [0, 1, 2, 8, 3, 4, 5, 6, 7] rfl
          exact z_back hQz_ (z_iret C hr hlocks G (Nat.le_of_ble_eq_true rfl) (by omega) dX11_odds_41 ⟨laA_143, mdA_144, wyA_145, pc_A_146, f1A_147, f2A_148, f3A_149, f4A_150, f5A_151, f6A_152, n4A_153, wwA_154, laB_155, mdB_156, wyB_157, pc_B_158, f1B_159, f2B_160, f3B_161, f4B_162, f5B_163, f6B_164, n4B_165, wwB_166, e0f_167, e1f_168, e2f_169, e3f_170, e4f_171, e5f_172, r1f_173, m1f_174, r2f_175, wff_176, rfl, h_177, h_178, h_179, h_180, h_181, h_182, h_183, h_184, h_185, h_186, h_187, h_188, h_189, h_190, h_191, h_192, h_194⟩)
theorem m_ml_RX12_1 : Cond.methodLink RX12 1 objectInit ∈ zT := zmem1 zsub_5 234 rfl rfl
theorem m_fl_RX12_7 : Cond.fieldLink RX12 7 (TX12 0).1 (TX12 0).2.1 (TX12 0).2.2.1 ∈ zT := zmem1 zsub_5 235 rfl rfl
theorem m_fl_RX12_13 : Cond.fieldLink RX12 13 (TX12 1).1 (TX12 1).2.1 (TX12 1).2.2.1 ∈ zT := zmem1 zsub_5 236 rfl rfl
theorem m_fl_RX12_17 : Cond.fieldLink RX12 17 (TX12 10).1 (TX12 10).2.1 (TX12 10).2.2.1 ∈ zT := zmem1 zsub_6 5 rfl rfl
theorem m_fl_RX12_20 : Cond.fieldLink RX12 20 (TX12 14).1 (TX12 14).2.1 (TX12 14).2.2.1 ∈ zT := zmem1 zsub_6 9 rfl rfl
theorem m_fl_RX12_23 : Cond.fieldLink RX12 23 (TX12 15).1 (TX12 15).2.1 (TX12 15).2.2.1 ∈ zT := zmem1 zsub_6 10 rfl rfl
theorem m_fl_RX12_26 : Cond.fieldLink RX12 26 (TX12 16).1 (TX12 16).2.1 (TX12 16).2.2.1 ∈ zT := zmem1 zsub_6 11 rfl rfl
theorem m_fl_RX12_29 : Cond.fieldLink RX12 29 (TX12 21).1 (TX12 21).2.1 (TX12 21).2.2.1 ∈ zT := zmem1 zsub_6 16 rfl rfl
theorem m_fl_RX12_32 : Cond.fieldLink RX12 32 (TX12 22).1 (TX12 22).2.1 (TX12 22).2.2.1 ∈ zT := zmem1 zsub_6 17 rfl rfl
theorem m_fl_RX12_35 : Cond.fieldLink RX12 35 (TX12 23).1 (TX12 23).2.1 (TX12 23).2.2.1 ∈ zT := zmem1 zsub_6 18 rfl rfl
theorem m_fl_RX12_38 : Cond.fieldLink RX12 38 (TX12 24).1 (TX12 24).2.1 (TX12 24).2.2.1 ∈ zT := zmem1 zsub_6 19 rfl rfl
theorem m_fl_RX12_41 : Cond.fieldLink RX12 41 (TX12 25).1 (TX12 25).2.1 (TX12 25).2.2.1 ∈ zT := zmem1 zsub_6 20 rfl rfl
theorem m_fl_RX12_44 : Cond.fieldLink RX12 44 (TX12 26).1 (TX12 26).2.1 (TX12 26).2.2.1 ∈ zT := zmem1 zsub_6 21 rfl rfl
theorem m_fl_RX12_47 : Cond.fieldLink RX12 47 (TX12 39).1 (TX12 39).2.1 (TX12 39).2.2.1 ∈ zT := zmem1 zsub_6 34 rfl rfl
theorem m_fl_RX12_50 : Cond.fieldLink RX12 50 (TX12 40).1 (TX12 40).2.1 (TX12 40).2.2.1 ∈ zT := zmem1 zsub_6 35 rfl rfl
theorem m_fl_RX12_53 : Cond.fieldLink RX12 53 (TX12 41).1 (TX12 41).2.1 (TX12 41).2.2.1 ∈ zT := zmem1 zsub_6 36 rfl rfl
theorem dX12_init_0 : decode cX12_init 0 = .ok (.aload_n 0, 1) := zo_42 (by decide +kernel)
theorem dX12_init_1 : decode cX12_init 1 = .ok (.invokespecial 1, 3) := zo_183 (by decide +kernel)
theorem dX12_init_4 : decode cX12_init 4 = .ok (.aload_n 0, 1) := zo_42 (by decide +kernel)
theorem dX12_init_5 : decode cX12_init 5 = .ok (.sipush 3952, 3) := zo_17 (by decide +kernel)
theorem dX12_init_8 : decode cX12_init 8 = .ok (.newarray .int, 2) := by decide +kernel
theorem dX12_init_10 : decode cX12_init 10 = .ok (.putfield 7, 3) := zo_181 (by decide +kernel)
theorem dX12_init_13 : decode cX12_init 13 = .ok (.aload_n 0, 1) := zo_42 (by decide +kernel)
theorem dX12_init_14 : decode cX12_init 14 = .ok (.iconst 3, 1) := zo_6 (by decide +kernel)
theorem dX12_init_15 : decode cX12_init 15 = .ok (.newarray .boolean, 2) := by decide +kernel
theorem dX12_init_17 : decode cX12_init 17 = .ok (.putfield 13, 3) := zo_181 (by decide +kernel)
theorem dX12_init_20 : decode cX12_init 20 = .ok (.aload_n 0, 1) := zo_42 (by decide +kernel)
theorem dX12_init_21 : decode cX12_init 21 = .ok (.bipush 121, 2) := zo_16 (by decide +kernel)
theorem dX12_init_23 : decode cX12_init 23 = .ok (.newarray .int, 2) := by decide +kernel
theorem dX12_init_25 : decode cX12_init 25 = .ok (.putfield 17, 3) := zo_181 (by decide +kernel)
theorem dX12_init_28 : decode cX12_init 28 = .ok (.aload_n 0, 1) := zo_42 (by decide +kernel)
theorem dX12_init_29 : decode cX12_init 29 = .ok (.bipush 7, 2) := zo_16 (by decide +kernel)
theorem dX12_init_31 : decode cX12_init 31 = .ok (.newarray .int, 2) := by decide +kernel
theorem dX12_init_33 : decode cX12_init 33 = .ok (.putfield 20, 3) := zo_181 (by decide +kernel)
theorem dX12_init_36 : decode cX12_init 36 = .ok (.aload_n 0, 1) := zo_42 (by decide +kernel)
theorem dX12_init_37 : decode cX12_init 37 = .ok (.bipush 7, 2) := zo_16 (by decide +kernel)
theorem dX12_init_39 : decode cX12_init 39 = .ok (.newarray .int, 2) := by decide +kernel
theorem dX12_init_41 : decode cX12_init 41 = .ok (.putfield 23, 3) := zo_181 (by decide +kernel)
theorem dX12_init_44 : decode cX12_init 44 = .ok (.aload_n 0, 1) := zo_42 (by decide +kernel)
theorem dX12_init_45 : decode cX12_init 45 = .ok (.bipush 7, 2) := zo_16 (by decide +kernel)
theorem dX12_init_47 : decode cX12_init 47 = .ok (.newarray .int, 2) := by decide +kernel
theorem dX12_init_49 : decode cX12_init 49 = .ok (.putfield 26, 3) := zo_181 (by decide +kernel)
theorem dX12_init_52 : decode cX12_init 52 = .ok (.aload_n 0, 1) := zo_42 (by decide +kernel)
theorem dX12_init_53 : decode cX12_init 53 = .ok (.bipush 7, 2) := zo_16 (by decide +kernel)
theorem dX12_init_55 : decode cX12_init 55 = .ok (.newarray .int, 2) := by decide +kernel
theorem dX12_init_57 : decode cX12_init 57 = .ok (.putfield 29, 3) := zo_181 (by decide +kernel)
theorem dX12_init_60 : decode cX12_init 60 = .ok (.aload_n 0, 1) := zo_42 (by decide +kernel)
theorem dX12_init_61 : decode cX12_init 61 = .ok (.bipush 7, 2) := zo_16 (by decide +kernel)
theorem dX12_init_63 : decode cX12_init 63 = .ok (.newarray .int, 2) := by decide +kernel
theorem dX12_init_65 : decode cX12_init 65 = .ok (.putfield 32, 3) := zo_181 (by decide +kernel)
theorem dX12_init_68 : decode cX12_init 68 = .ok (.aload_n 0, 1) := zo_42 (by decide +kernel)
theorem dX12_init_69 : decode cX12_init 69 = .ok (.sipush 16384, 3) := zo_17 (by decide +kernel)
theorem dX12_init_72 : decode cX12_init 72 = .ok (.newarray .int, 2) := by decide +kernel
theorem dX12_init_74 : decode cX12_init 74 = .ok (.putfield 35, 3) := zo_181 (by decide +kernel)
theorem dX12_init_77 : decode cX12_init 77 = .ok (.aload_n 0, 1) := zo_42 (by decide +kernel)
theorem dX12_init_78 : decode cX12_init 78 = .ok (.sipush 512, 3) := zo_17 (by decide +kernel)
theorem dX12_init_81 : decode cX12_init 81 = .ok (.newarray .int, 2) := by decide +kernel
theorem dX12_init_83 : decode cX12_init 83 = .ok (.putfield 38, 3) := zo_181 (by decide +kernel)
theorem dX12_init_86 : decode cX12_init 86 = .ok (.aload_n 0, 1) := zo_42 (by decide +kernel)
theorem dX12_init_87 : decode cX12_init 87 = .ok (.bipush 49, 2) := zo_16 (by decide +kernel)
theorem dX12_init_89 : decode cX12_init 89 = .ok (.newarray .int, 2) := by decide +kernel
theorem dX12_init_91 : decode cX12_init 91 = .ok (.putfield 41, 3) := zo_181 (by decide +kernel)
theorem dX12_init_94 : decode cX12_init 94 = .ok (.aload_n 0, 1) := zo_42 (by decide +kernel)
theorem dX12_init_95 : decode cX12_init 95 = .ok (.bipush 7, 2) := zo_16 (by decide +kernel)
theorem dX12_init_97 : decode cX12_init 97 = .ok (.newarray .int, 2) := by decide +kernel
theorem dX12_init_99 : decode cX12_init 99 = .ok (.putfield 44, 3) := zo_181 (by decide +kernel)
theorem dX12_init_102 : decode cX12_init 102 = .ok (.aload_n 0, 1) := zo_42 (by decide +kernel)
theorem dX12_init_103 : decode cX12_init 103 = .ok (.bipush 28, 2) := zo_16 (by decide +kernel)
theorem dX12_init_105 : decode cX12_init 105 = .ok (.newarray .int, 2) := by decide +kernel
theorem dX12_init_107 : decode cX12_init 107 = .ok (.putfield 47, 3) := zo_181 (by decide +kernel)
theorem dX12_init_110 : decode cX12_init 110 = .ok (.aload_n 0, 1) := zo_42 (by decide +kernel)
theorem dX12_init_111 : decode cX12_init 111 = .ok (.bipush 49, 2) := zo_16 (by decide +kernel)
theorem dX12_init_113 : decode cX12_init 113 = .ok (.newarray .int, 2) := by decide +kernel
theorem dX12_init_115 : decode cX12_init 115 = .ok (.putfield 50, 3) := zo_181 (by decide +kernel)
theorem dX12_init_118 : decode cX12_init 118 = .ok (.aload_n 0, 1) := zo_42 (by decide +kernel)
theorem dX12_init_119 : decode cX12_init 119 = .ok (.bipush 7, 2) := zo_16 (by decide +kernel)
theorem dX12_init_121 : decode cX12_init 121 = .ok (.newarray .int, 2) := by decide +kernel
theorem dX12_init_123 : decode cX12_init 123 = .ok (.putfield 53, 3) := zo_181 (by decide +kernel)
theorem dX12_init_126 : decode cX12_init 126 = .ok (.aload_n 0, 1) := zo_42 (by decide +kernel)
theorem dX12_init_127 : decode cX12_init 127 = .ok (.getfield 7, 3) := zo_180 (by decide +kernel)
theorem dX12_init_130 : decode cX12_init 130 = .ok (.bipush 6, 2) := zo_16 (by decide +kernel)
theorem dX12_init_132 : decode cX12_init 132 = .ok (.iconst (-1), 1) := zo_2 (by decide +kernel)
theorem dX12_init_133 : decode cX12_init 133 = .ok (.iastore, 1) := zo_79 (by decide +kernel)
theorem dX12_init_134 : decode cX12_init 134 = .ok (.return_, 1) := zo_177 (by decide +kernel)
theorem dX12_end_0 : decode cX12_end 0 = .ok (.iload_n 1, 1) := zo_27 (by decide +kernel)
theorem dX12_end_1 : decode cX12_end 1 = .ok (.ifCond .lt 13, 3) := zo_155 (by decide +kernel)
theorem dX12_end_4 : decode cX12_end 4 = .ok (.iload_n 1, 1) := zo_27 (by decide +kernel)
theorem dX12_end_5 : decode cX12_end 5 = .ok (.aload_n 0, 1) := zo_42 (by decide +kernel)
theorem dX12_end_6 : decode cX12_end 6 = .ok (.getfield 7, 3) := zo_180 (by decide +kernel)
theorem dX12_end_9 : decode cX12_end 9 = .ok (.iconst 4, 1) := zo_7 (by decide +kernel)
theorem dX12_end_10 : decode cX12_end 10 = .ok (.iaload, 1) := zo_46 (by decide +kernel)
theorem dX12_end_11 : decode cX12_end 11 = .ok (.if_icmp .le 5, 3) := zo_164 (by decide +kernel)
theorem dX12_end_14 : decode cX12_end 14 = .ok (.iconst (-1), 1) := zo_2 (by decide +kernel)
theorem dX12_end_15 : decode cX12_end 15 = .ok (.ireturn, 1) := zo_172 (by decide +kernel)
theorem dX12_end_16 : decode cX12_end 16 = .ok (.aload_n 0, 1) := zo_42 (by decide +kernel)
theorem dX12_end_17 : decode cX12_end 17 = .ok (.getfield 7, 3) := zo_180 (by decide +kernel)
theorem dX12_end_20 : decode cX12_end 20 = .ok (.iconst 4, 1) := zo_7 (by decide +kernel)
theorem dX12_end_21 : decode cX12_end 21 = .ok (.iload_n 1, 1) := zo_27 (by decide +kernel)
theorem dX12_end_22 : decode cX12_end 22 = .ok (.iastore, 1) := zo_79 (by decide +kernel)
theorem dX12_end_23 : decode cX12_end 23 = .ok (.iload_n 1, 1) := zo_27 (by decide +kernel)
theorem dX12_end_24 : decode cX12_end 24 = .ok (.ireturn, 1) := zo_172 (by decide +kernel)
set_option maxHeartbeats 4000000 in
set_option maxRecDepth 100000 in
theorem c_m_init (l : Launch) (T : zTy) (mo : Nat) : zMv l T yX12_init cX12_init 1 2 15 21147 [.ref mo] [[(mo, .inr (11, [.null, .null, .int 0, .int 0, .int 0, .int 0, .int 0, .int 0, .int 0, .int 0, .null, .int 0, .int 0, .int 0, .null, .null, .null, .int 0, .int 0, .int 0, .int 0, .null, .null, .null, .null, .null, .null, .int 0, .int 0, .int 0, .int 0, .int 0, .int 0, .int 0, .int 0, .int 0, .int 0, .int 0, .int 0, .null, .null, .null, .int 0]))]] (fun bs => ∃ (m_all : Nat) (m_has : Nat) (m_read : Nat) (m_posts : Nat) (m_shut : Nat) (m_here : Nat) (m_was : Nat) (m_came : Nat) (m_seenAt : Nat) (m_rowWorth : Nat) (m_farBy : Nat) (m_used : Nat) (m_fitPost : Nat) (m_fitEnd : Nat) (m_keptPosts : Nat), bs = [[zO11 mo m_all m_has 0 0 0 0 0 0 0 0 m_read 0 0 0 m_posts m_shut m_here 0 0 0 0 m_was m_came m_seenAt m_rowWorth m_farBy m_used 0 0 0 0 0 0 0 0 0 0 0 0 m_fitPost m_fitEnd m_keptPosts 0], [zAr T 0 m_all 3952 (upd (fun _ => 0) 6 (-1))], [zAr T 2 m_has 3 (fun _ => 0)], [zAr T 0 m_read 121 (fun _ => 0)], [zAr T 0 m_posts 7 (fun _ => 0)], [zAr T 0 m_shut 7 (fun _ => 0)], [zAr T 0 m_here 7 (fun _ => 0)], [zAr T 0 m_was 7 (fun _ => 0)], [zAr T 0 m_came 7 (fun _ => 0)], [zAr T 0 m_seenAt 16384 (fun _ => 0)], [zAr T 0 m_rowWorth 512 (fun _ => 0)], [zAr T 0 m_farBy 49 (fun _ => 0)], [zAr T 0 m_used 7 (fun _ => 0)], [zAr T 0 m_fitPost 28 (fun _ => 0)], [zAr T 0 m_fitEnd 49 (fun _ => 0)], [zAr T 0 m_keptPosts 7 (fun _ => 0)]]) := by
  refine zMv_of (own := RX12) (by decide) rfl (Nat.le_of_ble_eq_true rfl) ?_
  intro p e s m args below meth c A ls C hr hlocks hnm hAe G hl
  refine zHide (fun Qz_ hQz_ => ?_)
  have hx := C.1
  have hb := C.2.1
  have hl : lv_has ls 1 [(0, .ref mo)] := hl
  refine lv_aload_n hx hb dX12_init_0 rfl (lv_at hl 0 rfl) ?_
  refine W.objInit hx hb C.2.2.2.1 (C.2.2.2.2 _ m_ml_RX12_1) (C.2.2.2.2 _ m_im_obj) (C.2.2.2.2 _ m_co_obj) rfl (by rw [C.2.2.1]; exact hl.1) rfl dX12_init_1 (Nat.le_of_ble_eq_true rfl) (Nat.le_of_ble_eq_true rfl) ?_
  refine W.eq (g2 := F0 m 4 ls []) rfl ?_
  refine lv_aload_n hx hb dX12_init_4 rfl (lv_at hl 0 rfl) ?_
  refine lv_sipush (v := 3952) hx hb dX12_init_5 (by decide) ?_
  refine z_newa C G 0 (ty := .int) (N' := 3952) (a0 := (3952, .inl (fun _ => 0))) rfl z_uint m_ar_int rfl (fun _ => rfl) (by decide) (by decide) (Nat.le_of_ble_eq_true rfl) (Nat.le_of_ble_eq_true rfl) (Nat.le_of_ble_eq_true rfl) dX12_init_8 (fun q_1 H G => ?_)
  have G : zS T A s.heap s [[(mo, .inr (11, [.null, .null, .int 0, .int 0, .int 0, .int 0, .int 0, .int 0, .int 0, .int 0, .null, .int 0, .int 0, .int 0, .null, .null, .null, .int 0, .int 0, .int 0, .int 0, .null, .null, .null, .null, .null, .null, .int 0, .int 0, .int 0, .int 0, .int 0, .int 0, .int 0, .int 0, .int 0, .int 0, .int 0, .int 0, .null, .null, .null, .int 0]))], [zAr T 0 q_1 3952 (fun _ => 0)]] _ _ := G
  refine z_putF C G hnm clX12 0 rfl 0 (by decide) m_fl_RX12_7 rfl rfl rfl rfl (Nat.le_of_ble_eq_true rfl) dX12_init_10 (fun H locs G => ?_)
  have G : zS T A s.heap s [[(mo, .inr (11, [.ref q_1, .null, .int 0, .int 0, .int 0, .int 0, .int 0, .int 0, .int 0, .int 0, .null, .int 0, .int 0, .int 0, .null, .null, .null, .int 0, .int 0, .int 0, .int 0, .null, .null, .null, .null, .null, .null, .int 0, .int 0, .int 0, .int 0, .int 0, .int 0, .int 0, .int 0, .int 0, .int 0, .int 0, .int 0, .null, .null, .null, .int 0]))], [zAr T 0 q_1 3952 (fun _ => 0)]] _ _ := G
  refine lv_aload_n hx hb dX12_init_13 rfl (lv_at hl 0 rfl) ?_
  refine lv_iconst (v := 3) hx hb dX12_init_14 (by decide) ?_
  refine z_newa C G 2 (ty := .boolean) (N' := 3) (a0 := (3, .inl (fun _ => 0))) rfl z_uboolean m_ar_boolean rfl (fun _ => rfl) (by decide) (by decide) (Nat.le_of_ble_eq_true rfl) (Nat.le_of_ble_eq_true rfl) (Nat.le_of_ble_eq_true rfl) dX12_init_15 (fun q_2 H G => ?_)
  have G : zS T A s.heap s [[(mo, .inr (11, [.ref q_1, .null, .int 0, .int 0, .int 0, .int 0, .int 0, .int 0, .int 0, .int 0, .null, .int 0, .int 0, .int 0, .null, .null, .null, .int 0, .int 0, .int 0, .int 0, .null, .null, .null, .null, .null, .null, .int 0, .int 0, .int 0, .int 0, .int 0, .int 0, .int 0, .int 0, .int 0, .int 0, .int 0, .int 0, .null, .null, .null, .int 0]))], [zAr T 0 q_1 3952 (fun _ => 0)], [zAr T 2 q_2 3 (fun _ => 0)]] _ _ := G
  refine z_putF C G hnm clX12 0 rfl 1 (by decide) m_fl_RX12_13 rfl rfl rfl rfl (Nat.le_of_ble_eq_true rfl) dX12_init_17 (fun H locs G => ?_)
  have G : zS T A s.heap s [[(mo, .inr (11, [.ref q_1, .ref q_2, .int 0, .int 0, .int 0, .int 0, .int 0, .int 0, .int 0, .int 0, .null, .int 0, .int 0, .int 0, .null, .null, .null, .int 0, .int 0, .int 0, .int 0, .null, .null, .null, .null, .null, .null, .int 0, .int 0, .int 0, .int 0, .int 0, .int 0, .int 0, .int 0, .int 0, .int 0, .int 0, .int 0, .null, .null, .null, .int 0]))], [zAr T 0 q_1 3952 (fun _ => 0)], [zAr T 2 q_2 3 (fun _ => 0)]] _ _ := G
  refine lv_aload_n hx hb dX12_init_20 rfl (lv_at hl 0 rfl) ?_
  refine lv_bipush (v := 121) hx hb dX12_init_21 (by decide) ?_
  refine z_newa C G 0 (ty := .int) (N' := 121) (a0 := (121, .inl (fun _ => 0))) rfl z_uint m_ar_int rfl (fun _ => rfl) (by decide) (by decide) (Nat.le_of_ble_eq_true rfl) (Nat.le_of_ble_eq_true rfl) (Nat.le_of_ble_eq_true rfl) dX12_init_23 (fun q_3 H G => ?_)
  have G : zS T A s.heap s [[(mo, .inr (11, [.ref q_1, .ref q_2, .int 0, .int 0, .int 0, .int 0, .int 0, .int 0, .int 0, .int 0, .null, .int 0, .int 0, .int 0, .null, .null, .null, .int 0, .int 0, .int 0, .int 0, .null, .null, .null, .null, .null, .null, .int 0, .int 0, .int 0, .int 0, .int 0, .int 0, .int 0, .int 0, .int 0, .int 0, .int 0, .int 0, .null, .null, .null, .int 0]))], [zAr T 0 q_1 3952 (fun _ => 0)], [zAr T 2 q_2 3 (fun _ => 0)], [zAr T 0 q_3 121 (fun _ => 0)]] _ _ := G
  refine z_putF C G hnm clX12 0 rfl 10 (by decide) m_fl_RX12_17 rfl rfl rfl rfl (Nat.le_of_ble_eq_true rfl) dX12_init_25 (fun H locs G => ?_)
  have G : zS T A s.heap s [[(mo, .inr (11, [.ref q_1, .ref q_2, .int 0, .int 0, .int 0, .int 0, .int 0, .int 0, .int 0, .int 0, .ref q_3, .int 0, .int 0, .int 0, .null, .null, .null, .int 0, .int 0, .int 0, .int 0, .null, .null, .null, .null, .null, .null, .int 0, .int 0, .int 0, .int 0, .int 0, .int 0, .int 0, .int 0, .int 0, .int 0, .int 0, .int 0, .null, .null, .null, .int 0]))], [zAr T 0 q_1 3952 (fun _ => 0)], [zAr T 2 q_2 3 (fun _ => 0)], [zAr T 0 q_3 121 (fun _ => 0)]] _ _ := G
  refine lv_aload_n hx hb dX12_init_28 rfl (lv_at hl 0 rfl) ?_
  refine lv_bipush (v := 7) hx hb dX12_init_29 (by decide) ?_
  refine z_newa C G 0 (ty := .int) (N' := 7) (a0 := (7, .inl (fun _ => 0))) rfl z_uint m_ar_int rfl (fun _ => rfl) (by decide) (by decide) (Nat.le_of_ble_eq_true rfl) (Nat.le_of_ble_eq_true rfl) (Nat.le_of_ble_eq_true rfl) dX12_init_31 (fun q_4 H G => ?_)
  have G : zS T A s.heap s [[(mo, .inr (11, [.ref q_1, .ref q_2, .int 0, .int 0, .int 0, .int 0, .int 0, .int 0, .int 0, .int 0, .ref q_3, .int 0, .int 0, .int 0, .null, .null, .null, .int 0, .int 0, .int 0, .int 0, .null, .null, .null, .null, .null, .null, .int 0, .int 0, .int 0, .int 0, .int 0, .int 0, .int 0, .int 0, .int 0, .int 0, .int 0, .int 0, .null, .null, .null, .int 0]))], [zAr T 0 q_1 3952 (fun _ => 0)], [zAr T 2 q_2 3 (fun _ => 0)], [zAr T 0 q_3 121 (fun _ => 0)], [zAr T 0 q_4 7 (fun _ => 0)]] _ _ := G
  refine z_putF C G hnm clX12 0 rfl 14 (by decide) m_fl_RX12_20 rfl rfl rfl rfl (Nat.le_of_ble_eq_true rfl) dX12_init_33 (fun H locs G => ?_)
  have G : zS T A s.heap s [[(mo, .inr (11, [.ref q_1, .ref q_2, .int 0, .int 0, .int 0, .int 0, .int 0, .int 0, .int 0, .int 0, .ref q_3, .int 0, .int 0, .int 0, .ref q_4, .null, .null, .int 0, .int 0, .int 0, .int 0, .null, .null, .null, .null, .null, .null, .int 0, .int 0, .int 0, .int 0, .int 0, .int 0, .int 0, .int 0, .int 0, .int 0, .int 0, .int 0, .null, .null, .null, .int 0]))], [zAr T 0 q_1 3952 (fun _ => 0)], [zAr T 2 q_2 3 (fun _ => 0)], [zAr T 0 q_3 121 (fun _ => 0)], [zAr T 0 q_4 7 (fun _ => 0)]] _ _ := G
  refine lv_aload_n hx hb dX12_init_36 rfl (lv_at hl 0 rfl) ?_
  refine lv_bipush (v := 7) hx hb dX12_init_37 (by decide) ?_
  refine z_newa C G 0 (ty := .int) (N' := 7) (a0 := (7, .inl (fun _ => 0))) rfl z_uint m_ar_int rfl (fun _ => rfl) (by decide) (by decide) (Nat.le_of_ble_eq_true rfl) (Nat.le_of_ble_eq_true rfl) (Nat.le_of_ble_eq_true rfl) dX12_init_39 (fun q_5 H G => ?_)
  have G : zS T A s.heap s [[(mo, .inr (11, [.ref q_1, .ref q_2, .int 0, .int 0, .int 0, .int 0, .int 0, .int 0, .int 0, .int 0, .ref q_3, .int 0, .int 0, .int 0, .ref q_4, .null, .null, .int 0, .int 0, .int 0, .int 0, .null, .null, .null, .null, .null, .null, .int 0, .int 0, .int 0, .int 0, .int 0, .int 0, .int 0, .int 0, .int 0, .int 0, .int 0, .int 0, .null, .null, .null, .int 0]))], [zAr T 0 q_1 3952 (fun _ => 0)], [zAr T 2 q_2 3 (fun _ => 0)], [zAr T 0 q_3 121 (fun _ => 0)], [zAr T 0 q_4 7 (fun _ => 0)], [zAr T 0 q_5 7 (fun _ => 0)]] _ _ := G
  refine z_putF C G hnm clX12 0 rfl 15 (by decide) m_fl_RX12_23 rfl rfl rfl rfl (Nat.le_of_ble_eq_true rfl) dX12_init_41 (fun H locs G => ?_)
  have G : zS T A s.heap s [[(mo, .inr (11, [.ref q_1, .ref q_2, .int 0, .int 0, .int 0, .int 0, .int 0, .int 0, .int 0, .int 0, .ref q_3, .int 0, .int 0, .int 0, .ref q_4, .ref q_5, .null, .int 0, .int 0, .int 0, .int 0, .null, .null, .null, .null, .null, .null, .int 0, .int 0, .int 0, .int 0, .int 0, .int 0, .int 0, .int 0, .int 0, .int 0, .int 0, .int 0, .null, .null, .null, .int 0]))], [zAr T 0 q_1 3952 (fun _ => 0)], [zAr T 2 q_2 3 (fun _ => 0)], [zAr T 0 q_3 121 (fun _ => 0)], [zAr T 0 q_4 7 (fun _ => 0)], [zAr T 0 q_5 7 (fun _ => 0)]] _ _ := G
  refine lv_aload_n hx hb dX12_init_44 rfl (lv_at hl 0 rfl) ?_
  refine lv_bipush (v := 7) hx hb dX12_init_45 (by decide) ?_
  refine z_newa C G 0 (ty := .int) (N' := 7) (a0 := (7, .inl (fun _ => 0))) rfl z_uint m_ar_int rfl (fun _ => rfl) (by decide) (by decide) (Nat.le_of_ble_eq_true rfl) (Nat.le_of_ble_eq_true rfl) (Nat.le_of_ble_eq_true rfl) dX12_init_47 (fun q_6 H G => ?_)
  have G : zS T A s.heap s [[(mo, .inr (11, [.ref q_1, .ref q_2, .int 0, .int 0, .int 0, .int 0, .int 0, .int 0, .int 0, .int 0, .ref q_3, .int 0, .int 0, .int 0, .ref q_4, .ref q_5, .null, .int 0, .int 0, .int 0, .int 0, .null, .null, .null, .null, .null, .null, .int 0, .int 0, .int 0, .int 0, .int 0, .int 0, .int 0, .int 0, .int 0, .int 0, .int 0, .int 0, .null, .null, .null, .int 0]))], [zAr T 0 q_1 3952 (fun _ => 0)], [zAr T 2 q_2 3 (fun _ => 0)], [zAr T 0 q_3 121 (fun _ => 0)], [zAr T 0 q_4 7 (fun _ => 0)], [zAr T 0 q_5 7 (fun _ => 0)], [zAr T 0 q_6 7 (fun _ => 0)]] _ _ := G
  refine z_putF C G hnm clX12 0 rfl 16 (by decide) m_fl_RX12_26 rfl rfl rfl rfl (Nat.le_of_ble_eq_true rfl) dX12_init_49 (fun H locs G => ?_)
  have G : zS T A s.heap s [[(mo, .inr (11, [.ref q_1, .ref q_2, .int 0, .int 0, .int 0, .int 0, .int 0, .int 0, .int 0, .int 0, .ref q_3, .int 0, .int 0, .int 0, .ref q_4, .ref q_5, .ref q_6, .int 0, .int 0, .int 0, .int 0, .null, .null, .null, .null, .null, .null, .int 0, .int 0, .int 0, .int 0, .int 0, .int 0, .int 0, .int 0, .int 0, .int 0, .int 0, .int 0, .null, .null, .null, .int 0]))], [zAr T 0 q_1 3952 (fun _ => 0)], [zAr T 2 q_2 3 (fun _ => 0)], [zAr T 0 q_3 121 (fun _ => 0)], [zAr T 0 q_4 7 (fun _ => 0)], [zAr T 0 q_5 7 (fun _ => 0)], [zAr T 0 q_6 7 (fun _ => 0)]] _ _ := G
  refine lv_aload_n hx hb dX12_init_52 rfl (lv_at hl 0 rfl) ?_
  refine lv_bipush (v := 7) hx hb dX12_init_53 (by decide) ?_
  refine z_newa C G 0 (ty := .int) (N' := 7) (a0 := (7, .inl (fun _ => 0))) rfl z_uint m_ar_int rfl (fun _ => rfl) (by decide) (by decide) (Nat.le_of_ble_eq_true rfl) (Nat.le_of_ble_eq_true rfl) (Nat.le_of_ble_eq_true rfl) dX12_init_55 (fun q_7 H G => ?_)
  have G : zS T A s.heap s [[(mo, .inr (11, [.ref q_1, .ref q_2, .int 0, .int 0, .int 0, .int 0, .int 0, .int 0, .int 0, .int 0, .ref q_3, .int 0, .int 0, .int 0, .ref q_4, .ref q_5, .ref q_6, .int 0, .int 0, .int 0, .int 0, .null, .null, .null, .null, .null, .null, .int 0, .int 0, .int 0, .int 0, .int 0, .int 0, .int 0, .int 0, .int 0, .int 0, .int 0, .int 0, .null, .null, .null, .int 0]))], [zAr T 0 q_1 3952 (fun _ => 0)], [zAr T 2 q_2 3 (fun _ => 0)], [zAr T 0 q_3 121 (fun _ => 0)], [zAr T 0 q_4 7 (fun _ => 0)], [zAr T 0 q_5 7 (fun _ => 0)], [zAr T 0 q_6 7 (fun _ => 0)], [zAr T 0 q_7 7 (fun _ => 0)]] _ _ := G
  refine z_putF C G hnm clX12 0 rfl 21 (by decide) m_fl_RX12_29 rfl rfl rfl rfl (Nat.le_of_ble_eq_true rfl) dX12_init_57 (fun H locs G => ?_)
  have G : zS T A s.heap s [[(mo, .inr (11, [.ref q_1, .ref q_2, .int 0, .int 0, .int 0, .int 0, .int 0, .int 0, .int 0, .int 0, .ref q_3, .int 0, .int 0, .int 0, .ref q_4, .ref q_5, .ref q_6, .int 0, .int 0, .int 0, .int 0, .ref q_7, .null, .null, .null, .null, .null, .int 0, .int 0, .int 0, .int 0, .int 0, .int 0, .int 0, .int 0, .int 0, .int 0, .int 0, .int 0, .null, .null, .null, .int 0]))], [zAr T 0 q_1 3952 (fun _ => 0)], [zAr T 2 q_2 3 (fun _ => 0)], [zAr T 0 q_3 121 (fun _ => 0)], [zAr T 0 q_4 7 (fun _ => 0)], [zAr T 0 q_5 7 (fun _ => 0)], [zAr T 0 q_6 7 (fun _ => 0)], [zAr T 0 q_7 7 (fun _ => 0)]] _ _ := G
  refine lv_aload_n hx hb dX12_init_60 rfl (lv_at hl 0 rfl) ?_
  refine lv_bipush (v := 7) hx hb dX12_init_61 (by decide) ?_
  refine z_newa C G 0 (ty := .int) (N' := 7) (a0 := (7, .inl (fun _ => 0))) rfl z_uint m_ar_int rfl (fun _ => rfl) (by decide) (by decide) (Nat.le_of_ble_eq_true rfl) (Nat.le_of_ble_eq_true rfl) (Nat.le_of_ble_eq_true rfl) dX12_init_63 (fun q_8 H G => ?_)
  have G : zS T A s.heap s [[(mo, .inr (11, [.ref q_1, .ref q_2, .int 0, .int 0, .int 0, .int 0, .int 0, .int 0, .int 0, .int 0, .ref q_3, .int 0, .int 0, .int 0, .ref q_4, .ref q_5, .ref q_6, .int 0, .int 0, .int 0, .int 0, .ref q_7, .null, .null, .null, .null, .null, .int 0, .int 0, .int 0, .int 0, .int 0, .int 0, .int 0, .int 0, .int 0, .int 0, .int 0, .int 0, .null, .null, .null, .int 0]))], [zAr T 0 q_1 3952 (fun _ => 0)], [zAr T 2 q_2 3 (fun _ => 0)], [zAr T 0 q_3 121 (fun _ => 0)], [zAr T 0 q_4 7 (fun _ => 0)], [zAr T 0 q_5 7 (fun _ => 0)], [zAr T 0 q_6 7 (fun _ => 0)], [zAr T 0 q_7 7 (fun _ => 0)], [zAr T 0 q_8 7 (fun _ => 0)]] _ _ := G
  refine z_putF C G hnm clX12 0 rfl 22 (by decide) m_fl_RX12_32 rfl rfl rfl rfl (Nat.le_of_ble_eq_true rfl) dX12_init_65 (fun H locs G => ?_)
  have G : zS T A s.heap s [[(mo, .inr (11, [.ref q_1, .ref q_2, .int 0, .int 0, .int 0, .int 0, .int 0, .int 0, .int 0, .int 0, .ref q_3, .int 0, .int 0, .int 0, .ref q_4, .ref q_5, .ref q_6, .int 0, .int 0, .int 0, .int 0, .ref q_7, .ref q_8, .null, .null, .null, .null, .int 0, .int 0, .int 0, .int 0, .int 0, .int 0, .int 0, .int 0, .int 0, .int 0, .int 0, .int 0, .null, .null, .null, .int 0]))], [zAr T 0 q_1 3952 (fun _ => 0)], [zAr T 2 q_2 3 (fun _ => 0)], [zAr T 0 q_3 121 (fun _ => 0)], [zAr T 0 q_4 7 (fun _ => 0)], [zAr T 0 q_5 7 (fun _ => 0)], [zAr T 0 q_6 7 (fun _ => 0)], [zAr T 0 q_7 7 (fun _ => 0)], [zAr T 0 q_8 7 (fun _ => 0)]] _ _ := G
  refine lv_aload_n hx hb dX12_init_68 rfl (lv_at hl 0 rfl) ?_
  refine lv_sipush (v := 16384) hx hb dX12_init_69 (by decide) ?_
  refine z_newa C G 0 (ty := .int) (N' := 16384) (a0 := (16384, .inl (fun _ => 0))) rfl z_uint m_ar_int rfl (fun _ => rfl) (by decide) (by decide) (Nat.le_of_ble_eq_true rfl) (Nat.le_of_ble_eq_true rfl) (Nat.le_of_ble_eq_true rfl) dX12_init_72 (fun q_9 H G => ?_)
  have G : zS T A s.heap s [[(mo, .inr (11, [.ref q_1, .ref q_2, .int 0, .int 0, .int 0, .int 0, .int 0, .int 0, .int 0, .int 0, .ref q_3, .int 0, .int 0, .int 0, .ref q_4, .ref q_5, .ref q_6, .int 0, .int 0, .int 0, .int 0, .ref q_7, .ref q_8, .null, .null, .null, .null, .int 0, .int 0, .int 0, .int 0, .int 0, .int 0, .int 0, .int 0, .int 0, .int 0, .int 0, .int 0, .null, .null, .null, .int 0]))], [zAr T 0 q_1 3952 (fun _ => 0)], [zAr T 2 q_2 3 (fun _ => 0)], [zAr T 0 q_3 121 (fun _ => 0)], [zAr T 0 q_4 7 (fun _ => 0)], [zAr T 0 q_5 7 (fun _ => 0)], [zAr T 0 q_6 7 (fun _ => 0)], [zAr T 0 q_7 7 (fun _ => 0)], [zAr T 0 q_8 7 (fun _ => 0)], [zAr T 0 q_9 16384 (fun _ => 0)]] _ _ := G
  refine z_putF C G hnm clX12 0 rfl 23 (by decide) m_fl_RX12_35 rfl rfl rfl rfl (Nat.le_of_ble_eq_true rfl) dX12_init_74 (fun H locs G => ?_)
  have G : zS T A s.heap s [[(mo, .inr (11, [.ref q_1, .ref q_2, .int 0, .int 0, .int 0, .int 0, .int 0, .int 0, .int 0, .int 0, .ref q_3, .int 0, .int 0, .int 0, .ref q_4, .ref q_5, .ref q_6, .int 0, .int 0, .int 0, .int 0, .ref q_7, .ref q_8, .ref q_9, .null, .null, .null, .int 0, .int 0, .int 0, .int 0, .int 0, .int 0, .int 0, .int 0, .int 0, .int 0, .int 0, .int 0, .null, .null, .null, .int 0]))], [zAr T 0 q_1 3952 (fun _ => 0)], [zAr T 2 q_2 3 (fun _ => 0)], [zAr T 0 q_3 121 (fun _ => 0)], [zAr T 0 q_4 7 (fun _ => 0)], [zAr T 0 q_5 7 (fun _ => 0)], [zAr T 0 q_6 7 (fun _ => 0)], [zAr T 0 q_7 7 (fun _ => 0)], [zAr T 0 q_8 7 (fun _ => 0)], [zAr T 0 q_9 16384 (fun _ => 0)]] _ _ := G
  refine lv_aload_n hx hb dX12_init_77 rfl (lv_at hl 0 rfl) ?_
  refine lv_sipush (v := 512) hx hb dX12_init_78 (by decide) ?_
  refine z_newa C G 0 (ty := .int) (N' := 512) (a0 := (512, .inl (fun _ => 0))) rfl z_uint m_ar_int rfl (fun _ => rfl) (by decide) (by decide) (Nat.le_of_ble_eq_true rfl) (Nat.le_of_ble_eq_true rfl) (Nat.le_of_ble_eq_true rfl) dX12_init_81 (fun q_10 H G => ?_)
  have G : zS T A s.heap s [[(mo, .inr (11, [.ref q_1, .ref q_2, .int 0, .int 0, .int 0, .int 0, .int 0, .int 0, .int 0, .int 0, .ref q_3, .int 0, .int 0, .int 0, .ref q_4, .ref q_5, .ref q_6, .int 0, .int 0, .int 0, .int 0, .ref q_7, .ref q_8, .ref q_9, .null, .null, .null, .int 0, .int 0, .int 0, .int 0, .int 0, .int 0, .int 0, .int 0, .int 0, .int 0, .int 0, .int 0, .null, .null, .null, .int 0]))], [zAr T 0 q_1 3952 (fun _ => 0)], [zAr T 2 q_2 3 (fun _ => 0)], [zAr T 0 q_3 121 (fun _ => 0)], [zAr T 0 q_4 7 (fun _ => 0)], [zAr T 0 q_5 7 (fun _ => 0)], [zAr T 0 q_6 7 (fun _ => 0)], [zAr T 0 q_7 7 (fun _ => 0)], [zAr T 0 q_8 7 (fun _ => 0)], [zAr T 0 q_9 16384 (fun _ => 0)], [zAr T 0 q_10 512 (fun _ => 0)]] _ _ := G
  refine z_putF C G hnm clX12 0 rfl 24 (by decide) m_fl_RX12_38 rfl rfl rfl rfl (Nat.le_of_ble_eq_true rfl) dX12_init_83 (fun H locs G => ?_)
  have G : zS T A s.heap s [[(mo, .inr (11, [.ref q_1, .ref q_2, .int 0, .int 0, .int 0, .int 0, .int 0, .int 0, .int 0, .int 0, .ref q_3, .int 0, .int 0, .int 0, .ref q_4, .ref q_5, .ref q_6, .int 0, .int 0, .int 0, .int 0, .ref q_7, .ref q_8, .ref q_9, .ref q_10, .null, .null, .int 0, .int 0, .int 0, .int 0, .int 0, .int 0, .int 0, .int 0, .int 0, .int 0, .int 0, .int 0, .null, .null, .null, .int 0]))], [zAr T 0 q_1 3952 (fun _ => 0)], [zAr T 2 q_2 3 (fun _ => 0)], [zAr T 0 q_3 121 (fun _ => 0)], [zAr T 0 q_4 7 (fun _ => 0)], [zAr T 0 q_5 7 (fun _ => 0)], [zAr T 0 q_6 7 (fun _ => 0)], [zAr T 0 q_7 7 (fun _ => 0)], [zAr T 0 q_8 7 (fun _ => 0)], [zAr T 0 q_9 16384 (fun _ => 0)], [zAr T 0 q_10 512 (fun _ => 0)]] _ _ := G
  refine lv_aload_n hx hb dX12_init_86 rfl (lv_at hl 0 rfl) ?_
  refine lv_bipush (v := 49) hx hb dX12_init_87 (by decide) ?_
  refine z_newa C G 0 (ty := .int) (N' := 49) (a0 := (49, .inl (fun _ => 0))) rfl z_uint m_ar_int rfl (fun _ => rfl) (by decide) (by decide) (Nat.le_of_ble_eq_true rfl) (Nat.le_of_ble_eq_true rfl) (Nat.le_of_ble_eq_true rfl) dX12_init_89 (fun q_11 H G => ?_)
  have G : zS T A s.heap s [[(mo, .inr (11, [.ref q_1, .ref q_2, .int 0, .int 0, .int 0, .int 0, .int 0, .int 0, .int 0, .int 0, .ref q_3, .int 0, .int 0, .int 0, .ref q_4, .ref q_5, .ref q_6, .int 0, .int 0, .int 0, .int 0, .ref q_7, .ref q_8, .ref q_9, .ref q_10, .null, .null, .int 0, .int 0, .int 0, .int 0, .int 0, .int 0, .int 0, .int 0, .int 0, .int 0, .int 0, .int 0, .null, .null, .null, .int 0]))], [zAr T 0 q_1 3952 (fun _ => 0)], [zAr T 2 q_2 3 (fun _ => 0)], [zAr T 0 q_3 121 (fun _ => 0)], [zAr T 0 q_4 7 (fun _ => 0)], [zAr T 0 q_5 7 (fun _ => 0)], [zAr T 0 q_6 7 (fun _ => 0)], [zAr T 0 q_7 7 (fun _ => 0)], [zAr T 0 q_8 7 (fun _ => 0)], [zAr T 0 q_9 16384 (fun _ => 0)], [zAr T 0 q_10 512 (fun _ => 0)], [zAr T 0 q_11 49 (fun _ => 0)]] _ _ := G
  refine z_putF C G hnm clX12 0 rfl 25 (by decide) m_fl_RX12_41 rfl rfl rfl rfl (Nat.le_of_ble_eq_true rfl) dX12_init_91 (fun H locs G => ?_)
  have G : zS T A s.heap s [[(mo, .inr (11, [.ref q_1, .ref q_2, .int 0, .int 0, .int 0, .int 0, .int 0, .int 0, .int 0, .int 0, .ref q_3, .int 0, .int 0, .int 0, .ref q_4, .ref q_5, .ref q_6, .int 0, .int 0, .int 0, .int 0, .ref q_7, .ref q_8, .ref q_9, .ref q_10, .ref q_11, .null, .int 0, .int 0, .int 0, .int 0, .int 0, .int 0, .int 0, .int 0, .int 0, .int 0, .int 0, .int 0, .null, .null, .null, .int 0]))], [zAr T 0 q_1 3952 (fun _ => 0)], [zAr T 2 q_2 3 (fun _ => 0)], [zAr T 0 q_3 121 (fun _ => 0)], [zAr T 0 q_4 7 (fun _ => 0)], [zAr T 0 q_5 7 (fun _ => 0)], [zAr T 0 q_6 7 (fun _ => 0)], [zAr T 0 q_7 7 (fun _ => 0)], [zAr T 0 q_8 7 (fun _ => 0)], [zAr T 0 q_9 16384 (fun _ => 0)], [zAr T 0 q_10 512 (fun _ => 0)], [zAr T 0 q_11 49 (fun _ => 0)]] _ _ := G
  refine lv_aload_n hx hb dX12_init_94 rfl (lv_at hl 0 rfl) ?_
  refine lv_bipush (v := 7) hx hb dX12_init_95 (by decide) ?_
  refine z_newa C G 0 (ty := .int) (N' := 7) (a0 := (7, .inl (fun _ => 0))) rfl z_uint m_ar_int rfl (fun _ => rfl) (by decide) (by decide) (Nat.le_of_ble_eq_true rfl) (Nat.le_of_ble_eq_true rfl) (Nat.le_of_ble_eq_true rfl) dX12_init_97 (fun q_12 H G => ?_)
  have G : zS T A s.heap s [[(mo, .inr (11, [.ref q_1, .ref q_2, .int 0, .int 0, .int 0, .int 0, .int 0, .int 0, .int 0, .int 0, .ref q_3, .int 0, .int 0, .int 0, .ref q_4, .ref q_5, .ref q_6, .int 0, .int 0, .int 0, .int 0, .ref q_7, .ref q_8, .ref q_9, .ref q_10, .ref q_11, .null, .int 0, .int 0, .int 0, .int 0, .int 0, .int 0, .int 0, .int 0, .int 0, .int 0, .int 0, .int 0, .null, .null, .null, .int 0]))], [zAr T 0 q_1 3952 (fun _ => 0)], [zAr T 2 q_2 3 (fun _ => 0)], [zAr T 0 q_3 121 (fun _ => 0)], [zAr T 0 q_4 7 (fun _ => 0)], [zAr T 0 q_5 7 (fun _ => 0)], [zAr T 0 q_6 7 (fun _ => 0)], [zAr T 0 q_7 7 (fun _ => 0)], [zAr T 0 q_8 7 (fun _ => 0)], [zAr T 0 q_9 16384 (fun _ => 0)], [zAr T 0 q_10 512 (fun _ => 0)], [zAr T 0 q_11 49 (fun _ => 0)], [zAr T 0 q_12 7 (fun _ => 0)]] _ _ := G
  refine z_putF C G hnm clX12 0 rfl 26 (by decide) m_fl_RX12_44 rfl rfl rfl rfl (Nat.le_of_ble_eq_true rfl) dX12_init_99 (fun H locs G => ?_)
  have G : zS T A s.heap s [[(mo, .inr (11, [.ref q_1, .ref q_2, .int 0, .int 0, .int 0, .int 0, .int 0, .int 0, .int 0, .int 0, .ref q_3, .int 0, .int 0, .int 0, .ref q_4, .ref q_5, .ref q_6, .int 0, .int 0, .int 0, .int 0, .ref q_7, .ref q_8, .ref q_9, .ref q_10, .ref q_11, .ref q_12, .int 0, .int 0, .int 0, .int 0, .int 0, .int 0, .int 0, .int 0, .int 0, .int 0, .int 0, .int 0, .null, .null, .null, .int 0]))], [zAr T 0 q_1 3952 (fun _ => 0)], [zAr T 2 q_2 3 (fun _ => 0)], [zAr T 0 q_3 121 (fun _ => 0)], [zAr T 0 q_4 7 (fun _ => 0)], [zAr T 0 q_5 7 (fun _ => 0)], [zAr T 0 q_6 7 (fun _ => 0)], [zAr T 0 q_7 7 (fun _ => 0)], [zAr T 0 q_8 7 (fun _ => 0)], [zAr T 0 q_9 16384 (fun _ => 0)], [zAr T 0 q_10 512 (fun _ => 0)], [zAr T 0 q_11 49 (fun _ => 0)], [zAr T 0 q_12 7 (fun _ => 0)]] _ _ := G
  refine lv_aload_n hx hb dX12_init_102 rfl (lv_at hl 0 rfl) ?_
  refine lv_bipush (v := 28) hx hb dX12_init_103 (by decide) ?_
  refine z_newa C G 0 (ty := .int) (N' := 28) (a0 := (28, .inl (fun _ => 0))) rfl z_uint m_ar_int rfl (fun _ => rfl) (by decide) (by decide) (Nat.le_of_ble_eq_true rfl) (Nat.le_of_ble_eq_true rfl) (Nat.le_of_ble_eq_true rfl) dX12_init_105 (fun q_13 H G => ?_)
  have G : zS T A s.heap s [[(mo, .inr (11, [.ref q_1, .ref q_2, .int 0, .int 0, .int 0, .int 0, .int 0, .int 0, .int 0, .int 0, .ref q_3, .int 0, .int 0, .int 0, .ref q_4, .ref q_5, .ref q_6, .int 0, .int 0, .int 0, .int 0, .ref q_7, .ref q_8, .ref q_9, .ref q_10, .ref q_11, .ref q_12, .int 0, .int 0, .int 0, .int 0, .int 0, .int 0, .int 0, .int 0, .int 0, .int 0, .int 0, .int 0, .null, .null, .null, .int 0]))], [zAr T 0 q_1 3952 (fun _ => 0)], [zAr T 2 q_2 3 (fun _ => 0)], [zAr T 0 q_3 121 (fun _ => 0)], [zAr T 0 q_4 7 (fun _ => 0)], [zAr T 0 q_5 7 (fun _ => 0)], [zAr T 0 q_6 7 (fun _ => 0)], [zAr T 0 q_7 7 (fun _ => 0)], [zAr T 0 q_8 7 (fun _ => 0)], [zAr T 0 q_9 16384 (fun _ => 0)], [zAr T 0 q_10 512 (fun _ => 0)], [zAr T 0 q_11 49 (fun _ => 0)], [zAr T 0 q_12 7 (fun _ => 0)], [zAr T 0 q_13 28 (fun _ => 0)]] _ _ := G
  refine z_putF C G hnm clX12 0 rfl 39 (by decide) m_fl_RX12_47 rfl rfl rfl rfl (Nat.le_of_ble_eq_true rfl) dX12_init_107 (fun H locs G => ?_)
  have G : zS T A s.heap s [[(mo, .inr (11, [.ref q_1, .ref q_2, .int 0, .int 0, .int 0, .int 0, .int 0, .int 0, .int 0, .int 0, .ref q_3, .int 0, .int 0, .int 0, .ref q_4, .ref q_5, .ref q_6, .int 0, .int 0, .int 0, .int 0, .ref q_7, .ref q_8, .ref q_9, .ref q_10, .ref q_11, .ref q_12, .int 0, .int 0, .int 0, .int 0, .int 0, .int 0, .int 0, .int 0, .int 0, .int 0, .int 0, .int 0, .ref q_13, .null, .null, .int 0]))], [zAr T 0 q_1 3952 (fun _ => 0)], [zAr T 2 q_2 3 (fun _ => 0)], [zAr T 0 q_3 121 (fun _ => 0)], [zAr T 0 q_4 7 (fun _ => 0)], [zAr T 0 q_5 7 (fun _ => 0)], [zAr T 0 q_6 7 (fun _ => 0)], [zAr T 0 q_7 7 (fun _ => 0)], [zAr T 0 q_8 7 (fun _ => 0)], [zAr T 0 q_9 16384 (fun _ => 0)], [zAr T 0 q_10 512 (fun _ => 0)], [zAr T 0 q_11 49 (fun _ => 0)], [zAr T 0 q_12 7 (fun _ => 0)], [zAr T 0 q_13 28 (fun _ => 0)]] _ _ := G
  refine lv_aload_n hx hb dX12_init_110 rfl (lv_at hl 0 rfl) ?_
  refine lv_bipush (v := 49) hx hb dX12_init_111 (by decide) ?_
  refine z_newa C G 0 (ty := .int) (N' := 49) (a0 := (49, .inl (fun _ => 0))) rfl z_uint m_ar_int rfl (fun _ => rfl) (by decide) (by decide) (Nat.le_of_ble_eq_true rfl) (Nat.le_of_ble_eq_true rfl) (Nat.le_of_ble_eq_true rfl) dX12_init_113 (fun q_14 H G => ?_)
  have G : zS T A s.heap s [[(mo, .inr (11, [.ref q_1, .ref q_2, .int 0, .int 0, .int 0, .int 0, .int 0, .int 0, .int 0, .int 0, .ref q_3, .int 0, .int 0, .int 0, .ref q_4, .ref q_5, .ref q_6, .int 0, .int 0, .int 0, .int 0, .ref q_7, .ref q_8, .ref q_9, .ref q_10, .ref q_11, .ref q_12, .int 0, .int 0, .int 0, .int 0, .int 0, .int 0, .int 0, .int 0, .int 0, .int 0, .int 0, .int 0, .ref q_13, .null, .null, .int 0]))], [zAr T 0 q_1 3952 (fun _ => 0)], [zAr T 2 q_2 3 (fun _ => 0)], [zAr T 0 q_3 121 (fun _ => 0)], [zAr T 0 q_4 7 (fun _ => 0)], [zAr T 0 q_5 7 (fun _ => 0)], [zAr T 0 q_6 7 (fun _ => 0)], [zAr T 0 q_7 7 (fun _ => 0)], [zAr T 0 q_8 7 (fun _ => 0)], [zAr T 0 q_9 16384 (fun _ => 0)], [zAr T 0 q_10 512 (fun _ => 0)], [zAr T 0 q_11 49 (fun _ => 0)], [zAr T 0 q_12 7 (fun _ => 0)], [zAr T 0 q_13 28 (fun _ => 0)], [zAr T 0 q_14 49 (fun _ => 0)]] _ _ := G
  refine z_putF C G hnm clX12 0 rfl 40 (by decide) m_fl_RX12_50 rfl rfl rfl rfl (Nat.le_of_ble_eq_true rfl) dX12_init_115 (fun H locs G => ?_)
  have G : zS T A s.heap s [[(mo, .inr (11, [.ref q_1, .ref q_2, .int 0, .int 0, .int 0, .int 0, .int 0, .int 0, .int 0, .int 0, .ref q_3, .int 0, .int 0, .int 0, .ref q_4, .ref q_5, .ref q_6, .int 0, .int 0, .int 0, .int 0, .ref q_7, .ref q_8, .ref q_9, .ref q_10, .ref q_11, .ref q_12, .int 0, .int 0, .int 0, .int 0, .int 0, .int 0, .int 0, .int 0, .int 0, .int 0, .int 0, .int 0, .ref q_13, .ref q_14, .null, .int 0]))], [zAr T 0 q_1 3952 (fun _ => 0)], [zAr T 2 q_2 3 (fun _ => 0)], [zAr T 0 q_3 121 (fun _ => 0)], [zAr T 0 q_4 7 (fun _ => 0)], [zAr T 0 q_5 7 (fun _ => 0)], [zAr T 0 q_6 7 (fun _ => 0)], [zAr T 0 q_7 7 (fun _ => 0)], [zAr T 0 q_8 7 (fun _ => 0)], [zAr T 0 q_9 16384 (fun _ => 0)], [zAr T 0 q_10 512 (fun _ => 0)], [zAr T 0 q_11 49 (fun _ => 0)], [zAr T 0 q_12 7 (fun _ => 0)], [zAr T 0 q_13 28 (fun _ => 0)], [zAr T 0 q_14 49 (fun _ => 0)]] _ _ := G
  refine lv_aload_n hx hb dX12_init_118 rfl (lv_at hl 0 rfl) ?_
  refine lv_bipush (v := 7) hx hb dX12_init_119 (by decide) ?_
  refine z_newa C G 0 (ty := .int) (N' := 7) (a0 := (7, .inl (fun _ => 0))) rfl z_uint m_ar_int rfl (fun _ => rfl) (by decide) (by decide) (Nat.le_of_ble_eq_true rfl) (Nat.le_of_ble_eq_true rfl) (Nat.le_of_ble_eq_true rfl) dX12_init_121 (fun q_15 H G => ?_)
  have G : zS T A s.heap s [[(mo, .inr (11, [.ref q_1, .ref q_2, .int 0, .int 0, .int 0, .int 0, .int 0, .int 0, .int 0, .int 0, .ref q_3, .int 0, .int 0, .int 0, .ref q_4, .ref q_5, .ref q_6, .int 0, .int 0, .int 0, .int 0, .ref q_7, .ref q_8, .ref q_9, .ref q_10, .ref q_11, .ref q_12, .int 0, .int 0, .int 0, .int 0, .int 0, .int 0, .int 0, .int 0, .int 0, .int 0, .int 0, .int 0, .ref q_13, .ref q_14, .null, .int 0]))], [zAr T 0 q_1 3952 (fun _ => 0)], [zAr T 2 q_2 3 (fun _ => 0)], [zAr T 0 q_3 121 (fun _ => 0)], [zAr T 0 q_4 7 (fun _ => 0)], [zAr T 0 q_5 7 (fun _ => 0)], [zAr T 0 q_6 7 (fun _ => 0)], [zAr T 0 q_7 7 (fun _ => 0)], [zAr T 0 q_8 7 (fun _ => 0)], [zAr T 0 q_9 16384 (fun _ => 0)], [zAr T 0 q_10 512 (fun _ => 0)], [zAr T 0 q_11 49 (fun _ => 0)], [zAr T 0 q_12 7 (fun _ => 0)], [zAr T 0 q_13 28 (fun _ => 0)], [zAr T 0 q_14 49 (fun _ => 0)], [zAr T 0 q_15 7 (fun _ => 0)]] _ _ := G
  refine z_putF C G hnm clX12 0 rfl 41 (by decide) m_fl_RX12_53 rfl rfl rfl rfl (Nat.le_of_ble_eq_true rfl) dX12_init_123 (fun H locs G => ?_)
  have G : zS T A s.heap s [[zO11 mo q_1 q_2 0 0 0 0 0 0 0 0 q_3 0 0 0 q_4 q_5 q_6 0 0 0 0 q_7 q_8 q_9 q_10 q_11 q_12 0 0 0 0 0 0 0 0 0 0 0 0 q_13 q_14 q_15 0], [zAr T 0 q_1 3952 (fun _ => 0)], [zAr T 2 q_2 3 (fun _ => 0)], [zAr T 0 q_3 121 (fun _ => 0)], [zAr T 0 q_4 7 (fun _ => 0)], [zAr T 0 q_5 7 (fun _ => 0)], [zAr T 0 q_6 7 (fun _ => 0)], [zAr T 0 q_7 7 (fun _ => 0)], [zAr T 0 q_8 7 (fun _ => 0)], [zAr T 0 q_9 16384 (fun _ => 0)], [zAr T 0 q_10 512 (fun _ => 0)], [zAr T 0 q_11 49 (fun _ => 0)], [zAr T 0 q_12 7 (fun _ => 0)], [zAr T 0 q_13 28 (fun _ => 0)], [zAr T 0 q_14 49 (fun _ => 0)], [zAr T 0 q_15 7 (fun _ => 0)]] _ _ := G
  refine lv_aload_n hx hb dX12_init_126 rfl (lv_at hl 0 rfl) ?_
  refine z_get C G clX12 0 rfl 0 (by decide) m_fl_RX12_7 rfl dX12_init_127 ?_
  refine lv_bipush (v := 6) hx hb dX12_init_130 (by decide) ?_
  refine lv_iconst (v := (-1)) hx hb dX12_init_132 (by decide) ?_
  refine z_ist C G 1 rfl (vp_in_nI (n := 6) (by decide) (by decide)) dX12_init_133 (fun H locs G => ?_)
  have G : zS T A s.heap s [[zO11 mo q_1 q_2 0 0 0 0 0 0 0 0 q_3 0 0 0 q_4 q_5 q_6 0 0 0 0 q_7 q_8 q_9 q_10 q_11 q_12 0 0 0 0 0 0 0 0 0 0 0 0 q_13 q_14 q_15 0], [zAr T 0 q_1 3952 (upd (fun _ => 0) 6 (-1))], [zAr T 2 q_2 3 (fun _ => 0)], [zAr T 0 q_3 121 (fun _ => 0)], [zAr T 0 q_4 7 (fun _ => 0)], [zAr T 0 q_5 7 (fun _ => 0)], [zAr T 0 q_6 7 (fun _ => 0)], [zAr T 0 q_7 7 (fun _ => 0)], [zAr T 0 q_8 7 (fun _ => 0)], [zAr T 0 q_9 16384 (fun _ => 0)], [zAr T 0 q_10 512 (fun _ => 0)], [zAr T 0 q_11 49 (fun _ => 0)], [zAr T 0 q_12 7 (fun _ => 0)], [zAr T 0 q_13 28 (fun _ => 0)], [zAr T 0 q_14 49 (fun _ => 0)], [zAr T 0 q_15 7 (fun _ => 0)]] _ _ := G
  exact z_back hQz_ (z_vret C hr hlocks G (Nat.le_of_ble_eq_true rfl) (Nat.le_of_ble_eq_true rfl) dX12_init_134 ⟨q_1, q_2, q_3, q_4, q_5, q_6, q_7, q_8, q_9, q_10, q_11, q_12, q_13, q_14, q_15, rfl⟩)
set_option maxHeartbeats 4000000 in
set_option maxRecDepth 100000 in
/-- c_m_end -/
theorem c_m_end (l : Launch) (T : zTy) (mo : Nat) (m_all : Nat) (m_has : Nat) (i_size : Int32) (i_next : Int32) (i_where : Int32) (i_token : Int32) (i_number : Int32) (i_word : Int32) (i_wrong : Int32) (i_farCrossing : Int32) (m_read : Nat) (i_z0 : Int32) (i_crossings : Int32) (i_inns : Int32) (m_posts : Nat) (m_shut : Nat) (m_here : Nat) (i_steps : Int32) (i_done : Int32) (i_at : Int32) (i_gone : Int32) (m_was : Nat) (m_came : Nat) (m_seenAt : Nat) (m_rowWorth : Nat) (m_farBy : Nat) (m_used : Nat) (i_everywhere : Int32) (i_again0 : Int32) (i_d0 : Int32) (i_never : Int32) (i_firstCame : Int32) (i_longRun : Int32) (i_moved : Int32) (i_crowd : Int32) (i_l0 : Int32) (i_fitMany : Int32) (i_fitLeast : Int32) (i_fitMost : Int32) (m_fitPost : Nat) (m_fitEnd : Nat) (m_keptPosts : Nat) (i_x0 : Int32) (f_all : Nat → Int32) (n : Int32) : zMi l T yX12_end cX12_end 2 (some .int) 1 0 0 [.ref mo, .int n] [[zO11 mo m_all m_has i_size i_next i_where i_token i_number i_word i_wrong i_farCrossing m_read i_z0 i_crossings i_inns m_posts m_shut m_here i_steps i_done i_at i_gone m_was m_came m_seenAt m_rowWorth m_farBy m_used i_everywhere i_again0 i_d0 i_never i_firstCame i_longRun i_moved i_crowd i_l0 i_fitMany i_fitLeast i_fitMost m_fitPost m_fitEnd m_keptPosts i_x0], [zAr T 0 m_all 3952 f_all]] (fun (r : Int32) bs => ∃ (g_all : Nat → Int32), bs = [[zO11 mo m_all m_has i_size i_next i_where i_token i_number i_word i_wrong i_farCrossing m_read i_z0 i_crossings i_inns m_posts m_shut m_here i_steps i_done i_at i_gone m_was m_came m_seenAt m_rowWorth m_farBy m_used i_everywhere i_again0 i_d0 i_never i_firstCame i_longRun i_moved i_crowd i_l0 i_fitMany i_fitLeast i_fitMost m_fitPost m_fitEnd m_keptPosts i_x0], [zAr T 0 m_all 3952 g_all]] ∧ ((n.toInt < 0 ∨ (f_all 4).toInt < n.toInt) ∧ r.toInt = -1 ∧ g_all = f_all ∨ (0 ≤ n.toInt ∧ n.toInt ≤ (f_all 4).toInt) ∧ g_all = upd f_all 4 n ∧ r = n)) := by
  refine zMi_of (own := RX12) (by decide) rfl (Nat.le_of_ble_eq_true rfl) ?_
  intro p e s m args below meth c A ls C hr hlocks hnm hAe G hl
  refine zHide (fun Qz_ hQz_ => ?_)
  have hx := C.1
  have hb := C.2.1
  have hl : lv_has ls 2 [(0, .ref mo), (1, .int n)] := hl
  refine lv_iload_n hx hb dX12_end_0 rfl (lv_at hl 1 rfl) ?_
  refine lv_if_lt (tgt := 14) hx hb dX12_end_1 (by decide) (fun c_1 => ?_) (fun c_1 => ?_)
  · have c_1n : n.toInt < (0 : Int) := (fa_lt _ _).mp c_1
    refine lv_iconst (v := (-1)) hx hb dX12_end_14 (by decide) ?_
    exact z_back hQz_ (z_iret C hr hlocks G (Nat.le_of_ble_eq_true rfl) (Nat.le_of_ble_eq_true rfl) dX12_end_15 ⟨f_all, rfl, (Or.inl ⟨by omega, by decide, rfl⟩)⟩)
  · have c_1n : ¬ n.toInt < (0 : Int) := fun q => c_1 ((fa_lt _ _).mpr q)
    refine lv_iload_n hx hb dX12_end_4 rfl (lv_at hl 1 rfl) ?_
    refine lv_aload_n hx hb dX12_end_5 rfl (lv_at hl 0 rfl) ?_
    refine z_get C G clX12 0 rfl 0 (by decide) m_fl_RX12_7 rfl dX12_end_6 ?_
    refine lv_iconst (v := 4) hx hb dX12_end_9 (by decide) ?_
    refine z_ild C G 1 rfl (vp_in_nI (n := 4) (by decide) (by decide)) dX12_end_10 ?_
    refine lv_topi (fun v_2 ev_2 => ?_)
    rw [show ((4 : Int32).toNatClampNeg) = 4 from rfl] at ev_2
    subst ev_2
    refine lv_icmp_le (tgt := 16) hx hb dX12_end_11 (by decide) (fun c_3 => ?_) (fun c_3 => ?_)
    · have c_3n : n.toInt ≤ (f_all 4).toInt := (fa_le _ _).mp c_3
      refine lv_aload_n hx hb dX12_end_16 rfl (lv_at hl 0 rfl) ?_
      refine z_get C G clX12 0 rfl 0 (by decide) m_fl_RX12_7 rfl dX12_end_17 ?_
      refine lv_iconst (v := 4) hx hb dX12_end_20 (by decide) ?_
      refine lv_iload_n hx hb dX12_end_21 rfl (lv_at hl 1 rfl) ?_
      refine z_ist C G 1 rfl (vp_in_nI (n := 4) (by decide) (by decide)) dX12_end_22 (fun H locs G => ?_)
      have G : zS T A s.heap s [[zO11 mo m_all m_has i_size i_next i_where i_token i_number i_word i_wrong i_farCrossing m_read i_z0 i_crossings i_inns m_posts m_shut m_here i_steps i_done i_at i_gone m_was m_came m_seenAt m_rowWorth m_farBy m_used i_everywhere i_again0 i_d0 i_never i_firstCame i_longRun i_moved i_crowd i_l0 i_fitMany i_fitLeast i_fitMost m_fitPost m_fitEnd m_keptPosts i_x0], [zAr T 0 m_all 3952 (upd f_all 4 n)]] _ _ := G
      refine lv_iload_n hx hb dX12_end_23 rfl (lv_at hl 1 rfl) ?_
      exact z_back hQz_ (z_iret C hr hlocks G (Nat.le_of_ble_eq_true rfl) (Nat.le_of_ble_eq_true rfl) dX12_end_24 ⟨(upd f_all 4 n), rfl, (Or.inr ⟨by omega, rfl, rfl⟩)⟩)
    · have c_3n : ¬ n.toInt ≤ (f_all 4).toInt := fun q => c_3 ((fa_le _ _).mpr q)
      refine lv_iconst (v := (-1)) hx hb dX12_end_14 (by decide) ?_
      exact z_back hQz_ (z_iret C hr hlocks G (Nat.le_of_ble_eq_true rfl) (Nat.le_of_ble_eq_true rfl) dX12_end_15 ⟨f_all, rfl, (Or.inl ⟨by omega, by decide, rfl⟩)⟩)

set_option maxHeartbeats 4000000 in
set_option maxRecDepth 100000 in
/-- begin -/
theorem c_x_Course_begin (l : Launch) (T : zTy) (h : Nat) (po : Nat) (la : Nat) (fw : Nat → Int32) (v0 : Int32) (v1 : Int32) (v2 : Int32) (v3 : Int32) (v4 : Int32) (v5 : Int32) (v6 : Int32) (v7 : Int32) (wc : va_W) (lp : Nat) (f1 : Nat → Int32) (f2 : Nat → Int32) (f3 : Nat → Int32) (st : Int32) (wh : Int32) (wp : va_W) (o : Nat) (cr : Int32) (inn : Int32) (k1 : Nat → Int32) (k2 : Nat → Int32) (k3 : Nat → Int32) (k4 : Nat → Int32) (z : va_W) (hc : bCourse T h po la fw v0 v1 v2 v3 v4 v5 v6 v7 wc) (hp : bPosts T po lp f1 f2 f3 st wh wp) (hz : bLand T o cr inn k1 k2 k3 k4 z) (hI : zLI cr k1 k3) : zMv l T yX1_begin cX1_begin 3 4 0 0 [.ref h, .ref o] [wc, wp, z] (fun bs => ∃ (wc2 : va_W) (gw : Nat → Int32) (u6 : Int32) (wp2 : va_W) (g1 : Nat → Int32) (g2 : Nat → Int32) (g3 : Nat → Int32), bs = [wc2, wp2, z] ∧ bCourse T h po o gw 0 0 0 (-1) 0 0 u6 v7 wc2 ∧ bPosts T po o g1 g2 g3 0 0 wp2 ∧ (∀ j, j < 7 → gw j = k4 j) ∧ zP3 g1 g3 ∧ (∀ j, j < 7 → g1 j = k3 j) ∧ (∀ j, j < 7 → g2 j = 0) ∧ (∀ j, j < 7 → g3 j = zWays cr inn k1 (nI j)) ∧ u6 = zCw inn gw 0 cr.toInt.toNat) := by
  refine zMv_of (own := RX1) (by decide) rfl (Nat.le_of_ble_eq_true rfl) ?_
  intro p e s m args below meth c A ls C hr hlocks hnm hAe G hl
  refine zHide (fun Qz_ hQz_ => ?_)
  have hx := C.1
  have hb := C.2.1
  have hl : lv_has ls 3 [(0, .ref h), (1, .ref o)] := hl
  refine lv_aload_n hx hb dX1_begin_0 rfl (lv_at hl 0 rfl) ?_
  refine lv_aload_n hx hb dX1_begin_1 rfl (lv_at hl 1 rfl) ?_
  refine zEx1 hc ?_
  intro a1_1 hbs9
  clear hc
  subst hbs9
  have G : zS T A s.heap s [[zO1 h po a1_1 v0 la v1 v2 v3 v4 v5 v6 v7], [zAr T 0 a1_1 7 fw], wp, z] _ _ := G.re rfl
  refine z_put C G clX1 0 rfl 3 (by decide) m_fl_RX1_25 rfl rfl rfl (Nat.le_of_ble_eq_true rfl) dX1_begin_2 (fun H locs G => ?_)
  have G : zS T A s.heap s [[zO1 h po a1_1 v0 o v1 v2 v3 v4 v5 v6 v7], [zAr T 0 a1_1 7 fw], wp, z] _ _ := G
  refine lv_aload_n hx hb dX1_begin_5 rfl (lv_at hl 0 rfl) ?_
  refine z_get C G clX1 0 rfl 0 (by decide) m_fl_RX1_12 rfl dX1_begin_6 ?_
  refine lv_aload_n hx hb dX1_begin_9 rfl (lv_at hl 1 rfl) ?_
  refine z_Vv (bc := [wp, z]) (br := [[zO1 h po a1_1 v0 o v1 v2 v3 v4 v5 v6 v7], [zAr T 0 a1_1 7 fw]]) (As := [.ref o]) (rest := []) C G (c_Posts_begin l T po lp f1 f2 f3 st wh wp o cr inn k1 k2 k3 k4 z hp hz) (kV_RX1_29 C.2.2.2.2 (Nat.le_of_ble_eq_true rfl) (Nat.le_of_ble_eq_true rfl)) [2, 3] [2, 0] rfl rfl (ci := 6) (qc := (RX6, TX6, 6)) rfl rfl (List.mem_flatten.mpr ⟨_, List.mem_of_getElem? (i := 0) rfl, (bPosts_mem hp).choose_spec⟩) rfl rfl hl.1 dX1_begin_10 (Nat.le_of_ble_eq_true rfl) (Nat.le_of_ble_eq_true rfl) (fun b1 H locs hw G => ?_)
  refine zEx4 hw ?_
  intro w2_2 g1_3 g2_4 g3_5
  refine zCu5 ?_
  intro hbs9 h_6 h_7 h_8 h_9
  clear hw
  subst hbs9
  have G : zS T A s.heap s [[zO1 h po a1_1 v0 o v1 v2 v3 v4 v5 v6 v7], [zAr T 0 a1_1 7 fw], w2_2, z] _ _ := G
  have hQ : zP3 g1_3 g3_5 := z_P3 hI h_7 h_9
  refine lv_iconst (v := 0) hx hb dX1_begin_13 (by decide) ?_
  refine lv_istore_n (lv' := [(2, .int 0), (0, .ref h), (1, .ref o)]) hx hb dX1_begin_14 rfl hl (by decide) (zLvf_h rfl) (fun ls hl => ?_)
  refine zEx4 hz ?_
  intro a1_11 a2_12 a3_13 a4_14 hbs9
  clear hz
  subst hbs9
  have G : zS T A s.heap s [[zO1 h po a1_1 v0 o v1 v2 v3 v4 v5 v6 v7], [zAr T 0 a1_1 7 fw], w2_2, [zO4 o cr inn a1_11 a2_12 a3_13 a4_14], [zAr T 0 a1_11 7 k1], [zAr T 0 a2_12 28 k2], [zAr T 0 a3_13 7 k3], [zAr T 0 a4_14 7 k4]] _ _ := G.re rfl
  have hw_15 : bCourse T h po o fw v0 v1 v2 v3 v4 v5 v6 v7 [zO1 h po a1_1 v0 o v1 v2 v3 v4 v5 v6 v7, zAr T 0 a1_1 7 fw] := ⟨a1_1, rfl⟩
  have G : zS T A s.heap s [[zO1 h po a1_1 v0 o v1 v2 v3 v4 v5 v6 v7, zAr T 0 a1_1 7 fw], w2_2, [zO4 o cr inn a1_11 a2_12 a3_13 a4_14], [zAr T 0 a1_11 7 k1], [zAr T 0 a2_12 28 k2], [zAr T 0 a3_13 7 k3], [zAr T 0 a4_14 7 k4]] _ _ := G.re rfl
  have hw_16 : bLand T o cr inn k1 k2 k3 k4 [zO4 o cr inn a1_11 a2_12 a3_13 a4_14, zAr T 0 a1_11 7 k1, zAr T 0 a2_12 28 k2, zAr T 0 a3_13 7 k3, zAr T 0 a4_14 7 k4] := ⟨a1_11, a2_12, a3_13, a4_14, rfl⟩
  have G : zS T A s.heap s [[zO1 h po a1_1 v0 o v1 v2 v3 v4 v5 v6 v7, zAr T 0 a1_1 7 fw], w2_2, [zO4 o cr inn a1_11 a2_12 a3_13 a4_14, zAr T 0 a1_11 7 k1, zAr T 0 a2_12 28 k2, zAr T 0 a3_13 7 k3, zAr T 0 a4_14 7 k4]] _ _ := G.re rfl
  refine z_lp3 (T := T) 15 (fun (i : Nat) (wc3 : va_W) (x1 : Nat → Int32) => [wc3, w2_2, [zO4 o cr inn a1_11 a2_12 a3_13 a4_14, zAr T 0 a1_11 7 k1, zAr T 0 a2_12 28 k2, zAr T 0 a3_13 7 k3, zAr T 0 a4_14 7 k4]]) (fun (i : Nat) (wc3 : va_W) (x1 : Nat → Int32) => [(2, .int (nI i)), (0, .ref h), (1, .ref o)]) (fun (i : Nat) (wc3 : va_W) (x1 : Nat → Int32) => bCourse T h po o x1 v0 v1 v2 v3 v4 v5 v6 v7 wc3 ∧ i ≤ 7 ∧ (∀ j, j < i → x1 j = k4 j)) (fun (i : Nat) (wc3 : va_W) (x1 : Nat → Int32) => 7 - i) ?_ 0 ([zO1 h po a1_1 v0 o v1 v2 v3 v4 v5 v6 v7, zAr T 0 a1_1 7 fw]) fw (show bCourse T h po o fw v0 v1 v2 v3 v4 v5 v6 v7 ([zO1 h po a1_1 v0 o v1 v2 v3 v4 v5 v6 v7, zAr T 0 a1_1 7 fw]) ∧ 0 ≤ 7 ∧ (∀ j, j < 0 → fw j = k4 j) from ⟨hw_15, by omega, fun j hj => absurd hj (by omega)⟩) G (lv_sub hl [0, 1, 2] rfl)
  intro i wc3 x1 hI9 ih_15 H locs ls G hl
  replace hI9 : bCourse T h po o x1 v0 v1 v2 v3 v4 v5 v6 v7 wc3 ∧ i ≤ 7 ∧ (∀ j, j < i → x1 j = k4 j) := hI9
  refine zAn3 hI9 ?_
  intro hc3 hi hx1
  clear hI9
  replace G : zS T A s.heap s [wc3, w2_2, [zO4 o cr inn a1_11 a2_12 a3_13 a4_14, zAr T 0 a1_11 7 k1, zAr T 0 a2_12 28 k2, zAr T 0 a3_13 7 k3, zAr T 0 a4_14 7 k4]] _ _ := G
  replace hl : lv_has ls 3 [(2, .int (nI i)), (0, .ref h), (1, .ref o)] := hl
  refine lv_iload_n hx hb dX1_begin_15 rfl (lv_at hl 0 rfl) ?_
  refine lv_bipush (v := 7) hx hb dX1_begin_16 (by decide) ?_
  refine lv_icmp_ge (tgt := 39) hx hb dX1_begin_18 (by decide) (fun c_17 => ?_) (fun c_17 => ?_)
  · have c_17n : 7 ≤ i := (nI_leI (a := 7) (b := i) (by omega) (by omega)).mp c_17
    refine lv_aload_n hx hb dX1_begin_39 rfl (lv_at hl 1 rfl) ?_
    refine lv_iconst (v := 0) hx hb dX1_begin_40 (by decide) ?_
    refine zEx1 hc3 ?_
    intro a1_18 hbs9
    clear hc3
    subst hbs9
    have G : zS T A s.heap s [[zO1 h po a1_18 v0 o v1 v2 v3 v4 v5 v6 v7], [zAr T 0 a1_18 7 x1], w2_2, [zO4 o cr inn a1_11 a2_12 a3_13 a4_14, zAr T 0 a1_11 7 k1, zAr T 0 a2_12 28 k2, zAr T 0 a3_13 7 k3, zAr T 0 a4_14 7 k4]] _ _ := G.re rfl
    refine z_put C G clX1 0 rfl 2 (by decide) m_fl_RX1_34 rfl rfl rfl (Nat.le_of_ble_eq_true rfl) dX1_begin_41 (fun H locs G => ?_)
    have G : zS T A s.heap s [[zO1 h po a1_18 0 o v1 v2 v3 v4 v5 v6 v7], [zAr T 0 a1_18 7 x1], w2_2, [zO4 o cr inn a1_11 a2_12 a3_13 a4_14, zAr T 0 a1_11 7 k1, zAr T 0 a2_12 28 k2, zAr T 0 a3_13 7 k3, zAr T 0 a4_14 7 k4]] _ _ := G
    refine lv_aload_n hx hb dX1_begin_44 rfl (lv_at hl 1 rfl) ?_
    refine lv_iconst (v := 0) hx hb dX1_begin_45 (by decide) ?_
    refine z_put C G clX1 0 rfl 4 (by decide) m_fl_RX1_38 rfl rfl rfl (Nat.le_of_ble_eq_true rfl) dX1_begin_46 (fun H locs G => ?_)
    have G : zS T A s.heap s [[zO1 h po a1_18 0 o 0 v2 v3 v4 v5 v6 v7], [zAr T 0 a1_18 7 x1], w2_2, [zO4 o cr inn a1_11 a2_12 a3_13 a4_14, zAr T 0 a1_11 7 k1, zAr T 0 a2_12 28 k2, zAr T 0 a3_13 7 k3, zAr T 0 a4_14 7 k4]] _ _ := G
    refine lv_aload_n hx hb dX1_begin_49 rfl (lv_at hl 1 rfl) ?_
    refine lv_iconst (v := 0) hx hb dX1_begin_50 (by decide) ?_
    refine z_put C G clX1 0 rfl 5 (by decide) m_fl_RX1_41 rfl rfl rfl (Nat.le_of_ble_eq_true rfl) dX1_begin_51 (fun H locs G => ?_)
    have G : zS T A s.heap s [[zO1 h po a1_18 0 o 0 0 v3 v4 v5 v6 v7], [zAr T 0 a1_18 7 x1], w2_2, [zO4 o cr inn a1_11 a2_12 a3_13 a4_14, zAr T 0 a1_11 7 k1, zAr T 0 a2_12 28 k2, zAr T 0 a3_13 7 k3, zAr T 0 a4_14 7 k4]] _ _ := G
    refine lv_aload_n hx hb dX1_begin_54 rfl (lv_at hl 1 rfl) ?_
    refine lv_iconst (v := (-1)) hx hb dX1_begin_55 (by decide) ?_
    refine z_put C G clX1 0 rfl 6 (by decide) m_fl_RX1_44 rfl rfl rfl (Nat.le_of_ble_eq_true rfl) dX1_begin_56 (fun H locs G => ?_)
    have G : zS T A s.heap s [[zO1 h po a1_18 0 o 0 0 (-1) v4 v5 v6 v7], [zAr T 0 a1_18 7 x1], w2_2, [zO4 o cr inn a1_11 a2_12 a3_13 a4_14, zAr T 0 a1_11 7 k1, zAr T 0 a2_12 28 k2, zAr T 0 a3_13 7 k3, zAr T 0 a4_14 7 k4]] _ _ := G
    refine lv_aload_n hx hb dX1_begin_59 rfl (lv_at hl 1 rfl) ?_
    refine lv_iconst (v := 0) hx hb dX1_begin_60 (by decide) ?_
    refine z_put C G clX1 0 rfl 7 (by decide) m_fl_RX1_47 rfl rfl rfl (Nat.le_of_ble_eq_true rfl) dX1_begin_61 (fun H locs G => ?_)
    have G : zS T A s.heap s [[zO1 h po a1_18 0 o 0 0 (-1) 0 v5 v6 v7], [zAr T 0 a1_18 7 x1], w2_2, [zO4 o cr inn a1_11 a2_12 a3_13 a4_14, zAr T 0 a1_11 7 k1, zAr T 0 a2_12 28 k2, zAr T 0 a3_13 7 k3, zAr T 0 a4_14 7 k4]] _ _ := G
    refine lv_aload_n hx hb dX1_begin_64 rfl (lv_at hl 1 rfl) ?_
    refine lv_iconst (v := 0) hx hb dX1_begin_65 (by decide) ?_
    refine z_put C G clX1 0 rfl 8 (by decide) m_fl_RX1_50 rfl rfl rfl (Nat.le_of_ble_eq_true rfl) dX1_begin_66 (fun H locs G => ?_)
    have G : zS T A s.heap s [[zO1 h po a1_18 0 o 0 0 (-1) 0 0 v6 v7], [zAr T 0 a1_18 7 x1], w2_2, [zO4 o cr inn a1_11 a2_12 a3_13 a4_14, zAr T 0 a1_11 7 k1, zAr T 0 a2_12 28 k2, zAr T 0 a3_13 7 k3, zAr T 0 a4_14 7 k4]] _ _ := G
    refine lv_aload_n hx hb dX1_begin_69 rfl (lv_at hl 1 rfl) ?_
    refine lv_iconst (v := 0) hx hb dX1_begin_70 (by decide) ?_
    refine z_put C G clX1 0 rfl 9 (by decide) m_fl_RX1_53 rfl rfl rfl (Nat.le_of_ble_eq_true rfl) dX1_begin_71 (fun H locs G => ?_)
    have G : zS T A s.heap s [[zO1 h po a1_18 0 o 0 0 (-1) 0 0 0 v7], [zAr T 0 a1_18 7 x1], w2_2, [zO4 o cr inn a1_11 a2_12 a3_13 a4_14, zAr T 0 a1_11 7 k1, zAr T 0 a2_12 28 k2, zAr T 0 a3_13 7 k3, zAr T 0 a4_14 7 k4]] _ _ := G
    refine lv_aload_n hx hb dX1_begin_74 rfl (lv_at hl 1 rfl) ?_
    have hw_19 : bCourse T h po o x1 0 0 0 (-1) 0 0 0 v7 [zO1 h po a1_18 0 o 0 0 (-1) 0 0 0 v7, zAr T 0 a1_18 7 x1] := ⟨a1_18, rfl⟩
    have G : zS T A s.heap s [[zO1 h po a1_18 0 o 0 0 (-1) 0 0 0 v7, zAr T 0 a1_18 7 x1], w2_2, [zO4 o cr inn a1_11 a2_12 a3_13 a4_14, zAr T 0 a1_11 7 k1, zAr T 0 a2_12 28 k2, zAr T 0 a3_13 7 k3, zAr T 0 a4_14 7 k4]] _ _ := G.re rfl
    refine z_Vv (bc := [[zO1 h po a1_18 0 o 0 0 (-1) 0 0 0 v7, zAr T 0 a1_18 7 x1], [zO4 o cr inn a1_11 a2_12 a3_13 a4_14, zAr T 0 a1_11 7 k1, zAr T 0 a2_12 28 k2, zAr T 0 a3_13 7 k3, zAr T 0 a4_14 7 k4]]) (br := [w2_2]) (As := []) (rest := []) C G (c_x_lookAtCrowd l T h po o x1 0 0 0 (-1) 0 0 0 v7 ([zO1 h po a1_18 0 o 0 0 (-1) 0 0 0 v7, zAr T 0 a1_18 7 x1]) cr inn k1 k2 k3 k4 ([zO4 o cr inn a1_11 a2_12 a3_13 a4_14, zAr T 0 a1_11 7 k1, zAr T 0 a2_12 28 k2, zAr T 0 a3_13 7 k3, zAr T 0 a4_14 7 k4]) hw_19 hw_16 (by first | with_reducible assumption | with_reducible rfl | omega | assumption | rfl)) (kV_RX1_56 C.2.2.2.2 (Nat.le_of_ble_eq_true rfl) (Nat.le_of_ble_eq_true rfl)) [0, 2] [0, 1] rfl rfl (ci := 1) (qc := (RX1, TX1, 11)) rfl rfl (List.mem_flatten.mpr ⟨_, List.mem_of_getElem? (i := 0) rfl, (bCourse_mem hw_19).choose_spec⟩) rfl rfl hl.1 dX1_begin_75 (Nat.le_of_ble_eq_true rfl) (Nat.le_of_ble_eq_true rfl) (fun b1 H locs hw G => ?_)
    refine zEx2 hw ?_
    intro wc2_20 u6_21
    refine zCu3 ?_
    intro hbs9 h_22 h_23
    clear hw
    subst hbs9
    have G : zS T A s.heap s [w2_2, wc2_20, [zO4 o cr inn a1_11 a2_12 a3_13 a4_14, zAr T 0 a1_11 7 k1, zAr T 0 a2_12 28 k2, zAr T 0 a3_13 7 k3, zAr T 0 a4_14 7 k4]] _ _ := G
    have G := G.sub (bs' := [wc2_20, w2_2, [zO4 o cr inn a1_11 a2_12 a3_13 a4_14, zAr T 0 a1_11 7 k1, zAr T 0 a2_12 28 k2, zAr T 0 a3_13 7 k3, zAr T 0 a4_14 7 k4]]) [1, 0, 2] rfl
    exact z_back hQz_ (z_vret C hr hlocks G (Nat.le_of_ble_eq_true rfl) (Nat.le_of_ble_eq_true rfl) dX1_begin_78 ⟨wc2_20, x1, u6_21, w2_2, g1_3, g2_4, g3_5, rfl, h_22, h_6, (fun j hj => hx1 j (by omega)), hQ, h_7, h_8, h_9, h_23⟩)
  · have c_17n : ¬ 7 ≤ i := fun q => c_17 ((nI_leI (a := 7) (b := i) (by omega) (by omega)).mpr q)
    refine lv_aload_n hx hb dX1_begin_21 rfl (lv_at hl 1 rfl) ?_
    refine zEx1 hc3 ?_
    intro a1_25 hbs9
    clear hc3
    subst hbs9
    have G : zS T A s.heap s [[zO1 h po a1_25 v0 o v1 v2 v3 v4 v5 v6 v7], [zAr T 0 a1_25 7 x1], w2_2, [zO4 o cr inn a1_11 a2_12 a3_13 a4_14, zAr T 0 a1_11 7 k1, zAr T 0 a2_12 28 k2, zAr T 0 a3_13 7 k3, zAr T 0 a4_14 7 k4]] _ _ := G.re rfl
    refine z_get C G clX1 0 rfl 1 (by decide) m_fl_RX1_18 rfl dX1_begin_22 ?_
    refine lv_iload_n hx hb dX1_begin_25 rfl (lv_at hl 0 rfl) ?_
    refine lv_aload_n hx hb dX1_begin_26 rfl (lv_at hl 2 rfl) ?_
    have G : zS T A s.heap s [[zO1 h po a1_25 v0 o v1 v2 v3 v4 v5 v6 v7], [zAr T 0 a1_25 7 x1], w2_2, [zO4 o cr inn a1_11 a2_12 a3_13 a4_14], [zAr T 0 a1_11 7 k1], [zAr T 0 a2_12 28 k2], [zAr T 0 a3_13 7 k3], [zAr T 0 a4_14 7 k4]] _ _ := G.re rfl
    refine z_get C G clX4 3 rfl 5 (by decide) m_fl_RX1_33 rfl dX1_begin_27 ?_
    refine lv_iload_n hx hb dX1_begin_30 rfl (lv_at hl 0 rfl) ?_
    refine z_ild C G 7 rfl (vp_in_nI (by omega) (by decide)) dX1_begin_31 ?_
    refine lv_topi (fun v_26 ev_26 => ?_)
    rw [nI_clamp (by omega)] at ev_26
    subst ev_26
    refine z_ist C G 1 rfl (vp_in_nI (by omega) (by decide)) dX1_begin_32 (fun H locs G => ?_)
    rw [nI_clamp (by omega)] at G
    have G : zS T A s.heap s [[zO1 h po a1_25 v0 o v1 v2 v3 v4 v5 v6 v7], [zAr T 0 a1_25 7 (upd x1 i (k4 i))], w2_2, [zO4 o cr inn a1_11 a2_12 a3_13 a4_14], [zAr T 0 a1_11 7 k1], [zAr T 0 a2_12 28 k2], [zAr T 0 a3_13 7 k3], [zAr T 0 a4_14 7 k4]] _ _ := G
    refine lv_iinc (v := nI (i + 1)) (lv' := [(2, .int (nI (i + 1))), (0, .ref h), (1, .ref o)]) hx hb dX1_begin_33 hl (k := 0) rfl (z_inc i 1) (by decide) (zLvf_h rfl) (fun ls hl => ?_)
    refine lv_goto (tgt := 15) hx hb dX1_begin_36 (by decide) ?_
    have hw_27 : bCourse T h po o (upd x1 i (k4 i)) v0 v1 v2 v3 v4 v5 v6 v7 [zO1 h po a1_25 v0 o v1 v2 v3 v4 v5 v6 v7, zAr T 0 a1_25 7 (upd x1 i (k4 i))] := ⟨a1_25, rfl⟩
    have G : zS T A s.heap s [[zO1 h po a1_25 v0 o v1 v2 v3 v4 v5 v6 v7, zAr T 0 a1_25 7 (upd x1 i (k4 i))], w2_2, [zO4 o cr inn a1_11 a2_12 a3_13 a4_14], [zAr T 0 a1_11 7 k1], [zAr T 0 a2_12 28 k2], [zAr T 0 a3_13 7 k3], [zAr T 0 a4_14 7 k4]] _ _ := G.re rfl
    have hw_28 : bLand T o cr inn k1 k2 k3 k4 [zO4 o cr inn a1_11 a2_12 a3_13 a4_14, zAr T 0 a1_11 7 k1, zAr T 0 a2_12 28 k2, zAr T 0 a3_13 7 k3, zAr T 0 a4_14 7 k4] := ⟨a1_11, a2_12, a3_13, a4_14, rfl⟩
    have G : zS T A s.heap s [[zO1 h po a1_25 v0 o v1 v2 v3 v4 v5 v6 v7, zAr T 0 a1_25 7 (upd x1 i (k4 i))], w2_2, [zO4 o cr inn a1_11 a2_12 a3_13 a4_14, zAr T 0 a1_11 7 k1, zAr T 0 a2_12 28 k2, zAr T 0 a3_13 7 k3, zAr T 0 a4_14 7 k4]] _ _ := G.re rfl
    exact ih_15 (i + 1) ([zO1 h po a1_25 v0 o v1 v2 v3 v4 v5 v6 v7, zAr T 0 a1_25 7 (upd x1 i (k4 i))]) (upd x1 i (k4 i)) (show bCourse T h po o (upd x1 i (k4 i)) v0 v1 v2 v3 v4 v5 v6 v7 ([zO1 h po a1_25 v0 o v1 v2 v3 v4 v5 v6 v7, zAr T 0 a1_25 7 (upd x1 i (k4 i))]) ∧ (i + 1) ≤ 7 ∧ (∀ j, j < (i + 1) → (upd x1 i (k4 i)) j = k4 j) from ⟨hw_27, by omega, z_updE hx1 rfl⟩) (show 7 - (i + 1) < 7 - i from by omega) _ _ ls G (lv_sub hl [0, 1, 2] rfl)
set_option maxHeartbeats 4000000 in
set_option maxRecDepth 100000 in
/-- c_x_goThrough -/
theorem c_x_goThrough (l : Launch) (T : zTy) (h : Nat) (po : Nat) (la : Nat) (fw : Nat → Int32) (v0 : Int32) (v1 : Int32) (v2 : Int32) (v3 : Int32) (v4 : Int32) (v5 : Int32) (v6 : Int32) (v7 : Int32) (wc : va_W) (lp : Nat) (f1 : Nat → Int32) (f2 : Nat → Int32) (f3 : Nat → Int32) (st : Int32) (wh : Int32) (wp : va_W) (o : Nat) (cr : Int32) (inn : Int32) (k1 : Nat → Int32) (k2 : Nat → Int32) (k3 : Nat → Int32) (k4 : Nat → Int32) (z : va_W) (dy : Nat) (dd : Int32) (d1 : Nat → Int32) (d2 : Nat → Int32) (d3 : Nat → Int32) (wd : va_W) (n : Int32) (hc : bCourse T h po la fw v0 v1 v2 v3 v4 v5 v6 v7 wc) (hp : bPosts T po lp f1 f2 f3 st wh wp) (hz : bLand T o cr inn k1 k2 k3 k4 z) (hI : zLI cr k1 k3) (hd : bDay T dy dd d1 d2 d3 wd) (hLq : zLq cr k1 k2) : zMi l T yX1_goThrough cX1_goThrough 5 (some .int) 7 0 0 [.ref h, .ref o, .ref dy, .int n] [wc, wp, z, wd] (fun (r : Int32) bs => ∃ (wc2 : va_W) (gw : Nat → Int32) (u0 : Int32) (u1 : Int32) (u2 : Int32) (u3 : Int32) (u4 : Int32) (u5 : Int32) (u6 : Int32) (u7 : Int32) (wp2 : va_W) (g1 : Nat → Int32) (g2 : Nat → Int32) (g3 : Nat → Int32) (sa : Int32) (wa : Int32), bs = [wc2, wp2, z, wd] ∧ bCourse T h po o gw u0 u1 u2 u3 u4 u5 u6 u7 wc2 ∧ bPosts T po o g1 g2 g3 sa wa wp2 ∧ zP3 g1 g3 ∧ (∃ P0 S0 W0 H0 : Nat → Int32, (zP3 P0 W0 ∧ (∀ j, j < 7 → P0 j = k3 j) ∧ (∀ j, j < 7 → S0 j = 0) ∧ (∀ j, j < 7 → W0 j = zWays cr inn k1 (nI j)) ∧ ∀ j, j < 7 → H0 j = k4 j) ∧ (g1, g2, gw, u0, u1) = (zDayN (fun k D => zDe cr inn W0 k1 k2 (d1 k) (d2 k) (d3 k) D) (min (min n.toInt dd.toInt) 40).toNat 0 (P0, S0, H0, 0, 0)).2 ∧ (u3, u4, u5, u6) = zDayA (fun k D => zDe cr inn W0 k1 k2 (d1 k) (d2 k) (d3 k) D) cr inn W0 k2 d1 d2 (min (min n.toInt dd.toInt) 40).toNat (P0, S0, H0, 0, 0))) := by
  refine zMi_of (own := RX1) (by decide) rfl (Nat.le_of_ble_eq_true rfl) ?_
  intro p e s m args below meth c A ls C hr hlocks hnm hAe G hl
  refine zHide (fun Qz_ hQz_ => ?_)
  have hx := C.1
  have hb := C.2.1
  have hl : lv_has ls 5 [(0, .ref h), (1, .ref o), (2, .ref dy), (3, .int n)] := hl
  refine lv_aload_n hx hb dX1_goThrough_0 rfl (lv_at hl 0 rfl) ?_
  refine lv_aload_n hx hb dX1_goThrough_1 rfl (lv_at hl 1 rfl) ?_
  refine z_Vv (bc := [wc, wp, z]) (br := [wd]) (As := [.ref o]) (rest := []) C G (c_x_Course_begin l T h po la fw v0 v1 v2 v3 v4 v5 v6 v7 wc lp f1 f2 f3 st wh wp o cr inn k1 k2 k3 k4 z hc hp hz (by first | with_reducible assumption | with_reducible rfl | omega | assumption | rfl)) (kV_RX1_59 C.2.2.2.2 (Nat.le_of_ble_eq_true rfl) (Nat.le_of_ble_eq_true rfl)) [0, 1, 2] [0, 0, 0] rfl rfl (ci := 1) (qc := (RX1, TX1, 11)) rfl rfl (List.mem_flatten.mpr ⟨_, List.mem_of_getElem? (i := 0) rfl, (bCourse_mem hc).choose_spec⟩) rfl rfl hl.1 dX1_goThrough_2 (Nat.le_of_ble_eq_true rfl) (Nat.le_of_ble_eq_true rfl) (fun b1 H locs hw G => ?_)
  refine zEx7 hw ?_
  intro wc2_1 gw_2 u6_3 wp2_4 g1_5 g2_6 g3_7
  refine zCu9 ?_
  intro hbs9 h_8 h_9 h_10 h_11 h_12 h_13 h_14 h_15
  clear hw
  subst hbs9
  have G : zS T A s.heap s [wd, wc2_1, wp2_4, z] _ _ := G
  have hQ : zP3 g1_5 g3_7 := h_11
  have hW : ∀ j, j < 7 → g3_7 j = zWays cr inn k1 (nI j) := h_14
  obtain ⟨R9, hR9⟩ : ∃ R9, R9 = zDayN (fun k D => zDe cr inn g3_7 k1 k2 (d1 k) (d2 k) (d3 k) D) (min (min n.toInt dd.toInt) 40).toNat 0 (g1_5, g2_6, gw_2, 0, 0) := ⟨_, rfl⟩
  obtain ⟨X9, hX9⟩ : ∃ X9, X9 = zDayA (fun k D => zDe cr inn g3_7 k1 k2 (d1 k) (d2 k) (d3 k) D) cr inn g3_7 k2 d1 d2 (min (min n.toInt dd.toInt) 40).toNat (g1_5, g2_6, gw_2, 0, 0) := ⟨_, rfl⟩
  have hX0 : X9 = zDayX (fun k D => zDe cr inn g3_7 k1 k2 (d1 k) (d2 k) (d3 k) D) (fun k D E X => zXe cr inn g3_7 k2 (d1 k) (d2 k) (nI k) D E X) ((min (min n.toInt dd.toInt) 40).toNat - 0) 0 (g1_5, g2_6, gw_2, 0, 0) (-1, 0, 0, u6_3) := by rw [hX9, h_15]; rfl
  refine lv_iconst (v := 0) hx hb dX1_goThrough_5 (by decide) ?_
  refine lv_istore (lv' := [(4, .int 0), (0, .ref h), (1, .ref o), (2, .ref dy), (3, .int n)]) hx hb dX1_goThrough_6 hl (by decide) (zLvf_h rfl) (fun ls hl => ?_)
  refine zEx1 h_8 ?_
  intro a1_17 hbs9
  clear h_8
  subst hbs9
  have G : zS T A s.heap s [wd, [zO1 h po a1_17 0 o 0 0 (-1) 0 0 u6_3 v7], [zAr T 0 a1_17 7 gw_2], wp2_4, z] _ _ := G.re rfl
  refine zEx3 h_9 ?_
  intro a1_18 a2_19 a3_20 hbs9
  clear h_9
  subst hbs9
  have G : zS T A s.heap s [wd, [zO1 h po a1_17 0 o 0 0 (-1) 0 0 u6_3 v7], [zAr T 0 a1_17 7 gw_2], [zO6 po o a1_18 a2_19 0 0 a3_20], [zAr T 0 a1_18 7 g1_5], [zAr T 0 a2_19 7 g2_6], [zAr T 0 a3_20 7 g3_7], z] _ _ := G.re rfl
  refine zEx4 hz ?_
  intro a1_21 a2_22 a3_23 a4_24 hbs9
  clear hz
  subst hbs9
  have G : zS T A s.heap s [wd, [zO1 h po a1_17 0 o 0 0 (-1) 0 0 u6_3 v7], [zAr T 0 a1_17 7 gw_2], [zO6 po o a1_18 a2_19 0 0 a3_20], [zAr T 0 a1_18 7 g1_5], [zAr T 0 a2_19 7 g2_6], [zAr T 0 a3_20 7 g3_7], [zO4 o cr inn a1_21 a2_22 a3_23 a4_24], [zAr T 0 a1_21 7 k1], [zAr T 0 a2_22 28 k2], [zAr T 0 a3_23 7 k3], [zAr T 0 a4_24 7 k4]] _ _ := G.re rfl
  refine zEx3 hd ?_
  intro a1_25 a2_26 a3_27 hbs9
  clear hd
  subst hbs9
  have G : zS T A s.heap s [[(dy, .inr (2, [.int dd, .ref a1_25, .ref a2_26, .ref a3_27]))], [zAr T 0 a1_25 40 d1], [zAr T 0 a2_26 40 d2], [zAr T 0 a3_27 40 d3], [zO1 h po a1_17 0 o 0 0 (-1) 0 0 u6_3 v7], [zAr T 0 a1_17 7 gw_2], [zO6 po o a1_18 a2_19 0 0 a3_20], [zAr T 0 a1_18 7 g1_5], [zAr T 0 a2_19 7 g2_6], [zAr T 0 a3_20 7 g3_7], [zO4 o cr inn a1_21 a2_22 a3_23 a4_24], [zAr T 0 a1_21 7 k1], [zAr T 0 a2_22 28 k2], [zAr T 0 a3_23 7 k3], [zAr T 0 a4_24 7 k4]] _ _ := G.re rfl
  have hw_28 : bCourse T h po o gw_2 0 0 0 (-1) 0 0 u6_3 v7 [zO1 h po a1_17 0 o 0 0 (-1) 0 0 u6_3 v7, zAr T 0 a1_17 7 gw_2] := ⟨a1_17, rfl⟩
  have G : zS T A s.heap s [[(dy, .inr (2, [.int dd, .ref a1_25, .ref a2_26, .ref a3_27]))], [zAr T 0 a1_25 40 d1], [zAr T 0 a2_26 40 d2], [zAr T 0 a3_27 40 d3], [zO1 h po a1_17 0 o 0 0 (-1) 0 0 u6_3 v7, zAr T 0 a1_17 7 gw_2], [zO6 po o a1_18 a2_19 0 0 a3_20], [zAr T 0 a1_18 7 g1_5], [zAr T 0 a2_19 7 g2_6], [zAr T 0 a3_20 7 g3_7], [zO4 o cr inn a1_21 a2_22 a3_23 a4_24], [zAr T 0 a1_21 7 k1], [zAr T 0 a2_22 28 k2], [zAr T 0 a3_23 7 k3], [zAr T 0 a4_24 7 k4]] _ _ := G.re rfl
  have hw_29 : bPosts T po o g1_5 g2_6 g3_7 0 0 [zO6 po o a1_18 a2_19 0 0 a3_20, zAr T 0 a1_18 7 g1_5, zAr T 0 a2_19 7 g2_6, zAr T 0 a3_20 7 g3_7] := ⟨a1_18, a2_19, a3_20, rfl⟩
  have G : zS T A s.heap s [[(dy, .inr (2, [.int dd, .ref a1_25, .ref a2_26, .ref a3_27]))], [zAr T 0 a1_25 40 d1], [zAr T 0 a2_26 40 d2], [zAr T 0 a3_27 40 d3], [zO1 h po a1_17 0 o 0 0 (-1) 0 0 u6_3 v7, zAr T 0 a1_17 7 gw_2], [zO6 po o a1_18 a2_19 0 0 a3_20, zAr T 0 a1_18 7 g1_5, zAr T 0 a2_19 7 g2_6, zAr T 0 a3_20 7 g3_7], [zO4 o cr inn a1_21 a2_22 a3_23 a4_24], [zAr T 0 a1_21 7 k1], [zAr T 0 a2_22 28 k2], [zAr T 0 a3_23 7 k3], [zAr T 0 a4_24 7 k4]] _ _ := G.re rfl
  have hw_30 : bLand T o cr inn k1 k2 k3 k4 [zO4 o cr inn a1_21 a2_22 a3_23 a4_24, zAr T 0 a1_21 7 k1, zAr T 0 a2_22 28 k2, zAr T 0 a3_23 7 k3, zAr T 0 a4_24 7 k4] := ⟨a1_21, a2_22, a3_23, a4_24, rfl⟩
  have G : zS T A s.heap s [[(dy, .inr (2, [.int dd, .ref a1_25, .ref a2_26, .ref a3_27]))], [zAr T 0 a1_25 40 d1], [zAr T 0 a2_26 40 d2], [zAr T 0 a3_27 40 d3], [zO1 h po a1_17 0 o 0 0 (-1) 0 0 u6_3 v7, zAr T 0 a1_17 7 gw_2], [zO6 po o a1_18 a2_19 0 0 a3_20, zAr T 0 a1_18 7 g1_5, zAr T 0 a2_19 7 g2_6, zAr T 0 a3_20 7 g3_7], [zO4 o cr inn a1_21 a2_22 a3_23 a4_24, zAr T 0 a1_21 7 k1, zAr T 0 a2_22 28 k2, zAr T 0 a3_23 7 k3, zAr T 0 a4_24 7 k4]] _ _ := G.re rfl
  have hw_31 : bDay T dy dd d1 d2 d3 [(dy, .inr (2, [.int dd, .ref a1_25, .ref a2_26, .ref a3_27])), zAr T 0 a1_25 40 d1, zAr T 0 a2_26 40 d2, zAr T 0 a3_27 40 d3] := ⟨a1_25, a2_26, a3_27, rfl⟩
  have G : zS T A s.heap s [[(dy, .inr (2, [.int dd, .ref a1_25, .ref a2_26, .ref a3_27])), zAr T 0 a1_25 40 d1, zAr T 0 a2_26 40 d2, zAr T 0 a3_27 40 d3], [zO1 h po a1_17 0 o 0 0 (-1) 0 0 u6_3 v7, zAr T 0 a1_17 7 gw_2], [zO6 po o a1_18 a2_19 0 0 a3_20, zAr T 0 a1_18 7 g1_5, zAr T 0 a2_19 7 g2_6, zAr T 0 a3_20 7 g3_7], [zO4 o cr inn a1_21 a2_22 a3_23 a4_24, zAr T 0 a1_21 7 k1, zAr T 0 a2_22 28 k2, zAr T 0 a3_23 7 k3, zAr T 0 a4_24 7 k4]] _ _ := G.re rfl
  refine z_lp16 (T := T) 8 (fun (i : Nat) (wc3 : va_W) (xw : Nat → Int32) (y0 : Int32) (y1 : Int32) (y2 : Int32) (y3 : Int32) (y4 : Int32) (y5 : Int32) (y6 : Int32) (y7 : Int32) (wp3 : va_W) (x1 : Nat → Int32) (x2 : Nat → Int32) (sb : Int32) (wb : Int32) => [[(dy, .inr (2, [.int dd, .ref a1_25, .ref a2_26, .ref a3_27])), zAr T 0 a1_25 40 d1, zAr T 0 a2_26 40 d2, zAr T 0 a3_27 40 d3], wc3, wp3, [zO4 o cr inn a1_21 a2_22 a3_23 a4_24, zAr T 0 a1_21 7 k1, zAr T 0 a2_22 28 k2, zAr T 0 a3_23 7 k3, zAr T 0 a4_24 7 k4]]) (fun (i : Nat) (wc3 : va_W) (xw : Nat → Int32) (y0 : Int32) (y1 : Int32) (y2 : Int32) (y3 : Int32) (y4 : Int32) (y5 : Int32) (y6 : Int32) (y7 : Int32) (wp3 : va_W) (x1 : Nat → Int32) (x2 : Nat → Int32) (sb : Int32) (wb : Int32) => [(4, .int (nI i)), (0, .ref h), (1, .ref o), (2, .ref dy), (3, .int n)]) (fun (i : Nat) (wc3 : va_W) (xw : Nat → Int32) (y0 : Int32) (y1 : Int32) (y2 : Int32) (y3 : Int32) (y4 : Int32) (y5 : Int32) (y6 : Int32) (y7 : Int32) (wp3 : va_W) (x1 : Nat → Int32) (x2 : Nat → Int32) (sb : Int32) (wb : Int32) => bCourse T h po o xw y0 y1 y2 y3 y4 y5 y6 y7 wc3 ∧ bPosts T po o x1 x2 g3_7 sb wb wp3 ∧ i ≤ 40 ∧ zP3 x1 g3_7 ∧ y2 = nI i ∧ R9 = zDayN (fun k D => zDe cr inn g3_7 k1 k2 (d1 k) (d2 k) (d3 k) D) ((min (min n.toInt dd.toInt) 40).toNat - i) i (x1, x2, xw, y0, y1) ∧ X9 = zDayX (fun k D => zDe cr inn g3_7 k1 k2 (d1 k) (d2 k) (d3 k) D) (fun k D E X => zXe cr inn g3_7 k2 (d1 k) (d2 k) (nI k) D E X) ((min (min n.toInt dd.toInt) 40).toNat - i) i (x1, x2, xw, y0, y1) (y3, y4, y5, y6)) (fun (i : Nat) (wc3 : va_W) (xw : Nat → Int32) (y0 : Int32) (y1 : Int32) (y2 : Int32) (y3 : Int32) (y4 : Int32) (y5 : Int32) (y6 : Int32) (y7 : Int32) (wp3 : va_W) (x1 : Nat → Int32) (x2 : Nat → Int32) (sb : Int32) (wb : Int32) => 40 - i) ?_ 0 ([zO1 h po a1_17 0 o 0 0 (-1) 0 0 u6_3 v7, zAr T 0 a1_17 7 gw_2]) gw_2 0 0 0 (-1) 0 0 u6_3 v7 ([zO6 po o a1_18 a2_19 0 0 a3_20, zAr T 0 a1_18 7 g1_5, zAr T 0 a2_19 7 g2_6, zAr T 0 a3_20 7 g3_7]) g1_5 g2_6 0 0 (show bCourse T h po o gw_2 0 0 0 (-1) 0 0 u6_3 v7 ([zO1 h po a1_17 0 o 0 0 (-1) 0 0 u6_3 v7, zAr T 0 a1_17 7 gw_2]) ∧ bPosts T po o g1_5 g2_6 g3_7 0 0 ([zO6 po o a1_18 a2_19 0 0 a3_20, zAr T 0 a1_18 7 g1_5, zAr T 0 a2_19 7 g2_6, zAr T 0 a3_20 7 g3_7]) ∧ 0 ≤ 40 ∧ zP3 g1_5 g3_7 ∧ 0 = nI 0 ∧ R9 = zDayN (fun k D => zDe cr inn g3_7 k1 k2 (d1 k) (d2 k) (d3 k) D) ((min (min n.toInt dd.toInt) 40).toNat - 0) 0 (g1_5, g2_6, gw_2, 0, 0) ∧ X9 = zDayX (fun k D => zDe cr inn g3_7 k1 k2 (d1 k) (d2 k) (d3 k) D) (fun k D E X => zXe cr inn g3_7 k2 (d1 k) (d2 k) (nI k) D E X) ((min (min n.toInt dd.toInt) 40).toNat - 0) 0 (g1_5, g2_6, gw_2, 0, 0) ((-1), 0, 0, u6_3) from ⟨hw_28, hw_29, by omega, hQ, rfl, hR9, hX0⟩) G (lv_sub hl [0, 1, 2, 3, 4] rfl)
  intro i wc3 xw y0 y1 y2 y3 y4 y5 y6 y7 wp3 x1 x2 sb wb hI9 ih_8 H locs ls G hl
  replace hI9 : bCourse T h po o xw y0 y1 y2 y3 y4 y5 y6 y7 wc3 ∧ bPosts T po o x1 x2 g3_7 sb wb wp3 ∧ i ≤ 40 ∧ zP3 x1 g3_7 ∧ y2 = nI i ∧ R9 = zDayN (fun k D => zDe cr inn g3_7 k1 k2 (d1 k) (d2 k) (d3 k) D) ((min (min n.toInt dd.toInt) 40).toNat - i) i (x1, x2, xw, y0, y1) ∧ X9 = zDayX (fun k D => zDe cr inn g3_7 k1 k2 (d1 k) (d2 k) (d3 k) D) (fun k D E X => zXe cr inn g3_7 k2 (d1 k) (d2 k) (nI k) D E X) ((min (min n.toInt dd.toInt) 40).toNat - i) i (x1, x2, xw, y0, y1) (y3, y4, y5, y6) := hI9
  refine zAn7 hI9 ?_
  intro hc3 hp3 hi hQx hy2 hR hX
  clear hI9
  replace G : zS T A s.heap s [[(dy, .inr (2, [.int dd, .ref a1_25, .ref a2_26, .ref a3_27])), zAr T 0 a1_25 40 d1, zAr T 0 a2_26 40 d2, zAr T 0 a3_27 40 d3], wc3, wp3, [zO4 o cr inn a1_21 a2_22 a3_23 a4_24, zAr T 0 a1_21 7 k1, zAr T 0 a2_22 28 k2, zAr T 0 a3_23 7 k3, zAr T 0 a4_24 7 k4]] _ _ := G
  replace hl : lv_has ls 5 [(4, .int (nI i)), (0, .ref h), (1, .ref o), (2, .ref dy), (3, .int n)] := hl
  refine lv_iload hx hb dX1_goThrough_8 (lv_at hl 0 rfl) ?_
  refine lv_iload_n hx hb dX1_goThrough_10 rfl (lv_at hl 4 rfl) ?_
  refine lv_icmp_ge (tgt := 69) hx hb dX1_goThrough_11 (by decide) (fun c_32 => ?_) (fun c_32 => ?_)
  · have c_32n : n.toInt ≤ (i : Int) := by have q := (fa_le _ _).mp c_32; rw [nI_toInt (n := i) (by omega)] at q; exact q
    refine lv_aload_n hx hb dX1_goThrough_69 rfl (lv_at hl 1 rfl) ?_
    refine zEx1 hc3 ?_
    intro a1_33 hbs9
    clear hc3
    subst hbs9
    have G : zS T A s.heap s [[(dy, .inr (2, [.int dd, .ref a1_25, .ref a2_26, .ref a3_27])), zAr T 0 a1_25 40 d1, zAr T 0 a2_26 40 d2, zAr T 0 a3_27 40 d3], [zO1 h po a1_33 y0 o y1 y2 y3 y4 y5 y6 y7], [zAr T 0 a1_33 7 xw], wp3, [zO4 o cr inn a1_21 a2_22 a3_23 a4_24, zAr T 0 a1_21 7 k1, zAr T 0 a2_22 28 k2, zAr T 0 a3_23 7 k3, zAr T 0 a4_24 7 k4]] _ _ := G.re rfl
    refine z_get C G clX1 1 rfl 5 (by decide) m_fl_RX1_41 rfl dX1_goThrough_70 ?_
    have hw_34 : bCourse T h po o xw y0 y1 y2 y3 y4 y5 y6 y7 [zO1 h po a1_33 y0 o y1 y2 y3 y4 y5 y6 y7, zAr T 0 a1_33 7 xw] := ⟨a1_33, rfl⟩
    have G : zS T A s.heap s [[(dy, .inr (2, [.int dd, .ref a1_25, .ref a2_26, .ref a3_27])), zAr T 0 a1_25 40 d1, zAr T 0 a2_26 40 d2, zAr T 0 a3_27 40 d3], [zO1 h po a1_33 y0 o y1 y2 y3 y4 y5 y6 y7, zAr T 0 a1_33 7 xw], wp3, [zO4 o cr inn a1_21 a2_22 a3_23 a4_24, zAr T 0 a1_21 7 k1, zAr T 0 a2_22 28 k2, zAr T 0 a3_23 7 k3, zAr T 0 a4_24 7 k4]] _ _ := G.re rfl
    have G := G.sub (bs' := [[zO1 h po a1_33 y0 o y1 y2 y3 y4 y5 y6 y7, zAr T 0 a1_33 7 xw], wp3, [zO4 o cr inn a1_21 a2_22 a3_23 a4_24, zAr T 0 a1_21 7 k1, zAr T 0 a2_22 28 k2, zAr T 0 a3_23 7 k3, zAr T 0 a4_24 7 k4], [(dy, .inr (2, [.int dd, .ref a1_25, .ref a2_26, .ref a3_27])), zAr T 0 a1_25 40 d1, zAr T 0 a2_26 40 d2, zAr T 0 a3_27 40 d3]]) [1, 2, 3, 0] rfl
    exact z_back hQz_ (z_iret C hr hlocks G (Nat.le_of_ble_eq_true rfl) (Nat.le_of_ble_eq_true rfl) dX1_goThrough_73 ⟨([zO1 h po a1_33 y0 o y1 y2 y3 y4 y5 y6 y7, zAr T 0 a1_33 7 xw]), xw, y0, y1, y2, y3, y4, y5, y6, y7, wp3, x1, x2, g3_7, sb, wb, rfl, hw_34, hp3, hQx, ⟨g1_5, g2_6, g3_7, gw_2, ⟨hQ, h_12, h_13, h_14, h_10⟩, (by rw [← hR9, hR.trans (zDayN_z (by omega))]), (by rw [← hX9, hX.trans (zDayX_z (by omega))])⟩⟩)
  · have c_32n : ¬ n.toInt ≤ (i : Int) := fun q => c_32 ((fa_le _ _).mpr (by rw [nI_toInt (n := i) (by omega)]; exact q))
    refine lv_iload hx hb dX1_goThrough_14 (lv_at hl 0 rfl) ?_
    refine lv_aload_n hx hb dX1_goThrough_16 rfl (lv_at hl 3 rfl) ?_
    have G : zS T A s.heap s [[(dy, .inr (2, [.int dd, .ref a1_25, .ref a2_26, .ref a3_27]))], [zAr T 0 a1_25 40 d1], [zAr T 0 a2_26 40 d2], [zAr T 0 a3_27 40 d3], wc3, wp3, [zO4 o cr inn a1_21 a2_22 a3_23 a4_24, zAr T 0 a1_21 7 k1, zAr T 0 a2_22 28 k2, zAr T 0 a3_23 7 k3, zAr T 0 a4_24 7 k4]] _ _ := G.re rfl
    refine z_get C G clX2 0 rfl 0 (by decide) m_fl_RX1_60 rfl dX1_goThrough_17 ?_
    refine lv_icmp_ge (tgt := 69) hx hb dX1_goThrough_20 (by decide) (fun c_35 => ?_) (fun c_35 => ?_)
    · have c_35n : dd.toInt ≤ (i : Int) := by have q := (fa_le _ _).mp c_35; rw [nI_toInt (n := i) (by omega)] at q; exact q
      refine lv_aload_n hx hb dX1_goThrough_69 rfl (lv_at hl 1 rfl) ?_
      refine zEx1 hc3 ?_
      intro a1_36 hbs9
      clear hc3
      subst hbs9
      have G : zS T A s.heap s [[(dy, .inr (2, [.int dd, .ref a1_25, .ref a2_26, .ref a3_27]))], [zAr T 0 a1_25 40 d1], [zAr T 0 a2_26 40 d2], [zAr T 0 a3_27 40 d3], [zO1 h po a1_36 y0 o y1 y2 y3 y4 y5 y6 y7], [zAr T 0 a1_36 7 xw], wp3, [zO4 o cr inn a1_21 a2_22 a3_23 a4_24, zAr T 0 a1_21 7 k1, zAr T 0 a2_22 28 k2, zAr T 0 a3_23 7 k3, zAr T 0 a4_24 7 k4]] _ _ := G.re rfl
      refine z_get C G clX1 4 rfl 5 (by decide) m_fl_RX1_41 rfl dX1_goThrough_70 ?_
      have hw_37 : bCourse T h po o xw y0 y1 y2 y3 y4 y5 y6 y7 [zO1 h po a1_36 y0 o y1 y2 y3 y4 y5 y6 y7, zAr T 0 a1_36 7 xw] := ⟨a1_36, rfl⟩
      have G : zS T A s.heap s [[(dy, .inr (2, [.int dd, .ref a1_25, .ref a2_26, .ref a3_27]))], [zAr T 0 a1_25 40 d1], [zAr T 0 a2_26 40 d2], [zAr T 0 a3_27 40 d3], [zO1 h po a1_36 y0 o y1 y2 y3 y4 y5 y6 y7, zAr T 0 a1_36 7 xw], wp3, [zO4 o cr inn a1_21 a2_22 a3_23 a4_24, zAr T 0 a1_21 7 k1, zAr T 0 a2_22 28 k2, zAr T 0 a3_23 7 k3, zAr T 0 a4_24 7 k4]] _ _ := G.re rfl
      have hw_38 : bDay T dy dd d1 d2 d3 [(dy, .inr (2, [.int dd, .ref a1_25, .ref a2_26, .ref a3_27])), zAr T 0 a1_25 40 d1, zAr T 0 a2_26 40 d2, zAr T 0 a3_27 40 d3] := ⟨a1_25, a2_26, a3_27, rfl⟩
      have G : zS T A s.heap s [[(dy, .inr (2, [.int dd, .ref a1_25, .ref a2_26, .ref a3_27])), zAr T 0 a1_25 40 d1, zAr T 0 a2_26 40 d2, zAr T 0 a3_27 40 d3], [zO1 h po a1_36 y0 o y1 y2 y3 y4 y5 y6 y7, zAr T 0 a1_36 7 xw], wp3, [zO4 o cr inn a1_21 a2_22 a3_23 a4_24, zAr T 0 a1_21 7 k1, zAr T 0 a2_22 28 k2, zAr T 0 a3_23 7 k3, zAr T 0 a4_24 7 k4]] _ _ := G.re rfl
      have G := G.sub (bs' := [[zO1 h po a1_36 y0 o y1 y2 y3 y4 y5 y6 y7, zAr T 0 a1_36 7 xw], wp3, [zO4 o cr inn a1_21 a2_22 a3_23 a4_24, zAr T 0 a1_21 7 k1, zAr T 0 a2_22 28 k2, zAr T 0 a3_23 7 k3, zAr T 0 a4_24 7 k4], [(dy, .inr (2, [.int dd, .ref a1_25, .ref a2_26, .ref a3_27])), zAr T 0 a1_25 40 d1, zAr T 0 a2_26 40 d2, zAr T 0 a3_27 40 d3]]) [1, 2, 3, 0] rfl
      exact z_back hQz_ (z_iret C hr hlocks G (Nat.le_of_ble_eq_true rfl) (Nat.le_of_ble_eq_true rfl) dX1_goThrough_73 ⟨([zO1 h po a1_36 y0 o y1 y2 y3 y4 y5 y6 y7, zAr T 0 a1_36 7 xw]), xw, y0, y1, y2, y3, y4, y5, y6, y7, wp3, x1, x2, g3_7, sb, wb, rfl, hw_37, hp3, hQx, ⟨g1_5, g2_6, g3_7, gw_2, ⟨hQ, h_12, h_13, h_14, h_10⟩, (by rw [← hR9, hR.trans (zDayN_z (by omega))]), (by rw [← hX9, hX.trans (zDayX_z (by omega))])⟩⟩)
    · have c_35n : ¬ dd.toInt ≤ (i : Int) := fun q => c_35 ((fa_le _ _).mpr (by rw [nI_toInt (n := i) (by omega)]; exact q))
      refine lv_iload hx hb dX1_goThrough_23 (lv_at hl 0 rfl) ?_
      refine lv_bipush (v := 40) hx hb dX1_goThrough_25 (by decide) ?_
      refine lv_icmp_ge (tgt := 69) hx hb dX1_goThrough_27 (by decide) (fun c_39 => ?_) (fun c_39 => ?_)
      · have c_39n : 40 ≤ i := (nI_leI (a := 40) (b := i) (by omega) (by omega)).mp c_39
        refine lv_aload_n hx hb dX1_goThrough_69 rfl (lv_at hl 1 rfl) ?_
        refine zEx1 hc3 ?_
        intro a1_40 hbs9
        clear hc3
        subst hbs9
        have G : zS T A s.heap s [[(dy, .inr (2, [.int dd, .ref a1_25, .ref a2_26, .ref a3_27]))], [zAr T 0 a1_25 40 d1], [zAr T 0 a2_26 40 d2], [zAr T 0 a3_27 40 d3], [zO1 h po a1_40 y0 o y1 y2 y3 y4 y5 y6 y7], [zAr T 0 a1_40 7 xw], wp3, [zO4 o cr inn a1_21 a2_22 a3_23 a4_24, zAr T 0 a1_21 7 k1, zAr T 0 a2_22 28 k2, zAr T 0 a3_23 7 k3, zAr T 0 a4_24 7 k4]] _ _ := G.re rfl
        refine z_get C G clX1 4 rfl 5 (by decide) m_fl_RX1_41 rfl dX1_goThrough_70 ?_
        have hw_41 : bCourse T h po o xw y0 y1 y2 y3 y4 y5 y6 y7 [zO1 h po a1_40 y0 o y1 y2 y3 y4 y5 y6 y7, zAr T 0 a1_40 7 xw] := ⟨a1_40, rfl⟩
        have G : zS T A s.heap s [[(dy, .inr (2, [.int dd, .ref a1_25, .ref a2_26, .ref a3_27]))], [zAr T 0 a1_25 40 d1], [zAr T 0 a2_26 40 d2], [zAr T 0 a3_27 40 d3], [zO1 h po a1_40 y0 o y1 y2 y3 y4 y5 y6 y7, zAr T 0 a1_40 7 xw], wp3, [zO4 o cr inn a1_21 a2_22 a3_23 a4_24, zAr T 0 a1_21 7 k1, zAr T 0 a2_22 28 k2, zAr T 0 a3_23 7 k3, zAr T 0 a4_24 7 k4]] _ _ := G.re rfl
        have hw_42 : bDay T dy dd d1 d2 d3 [(dy, .inr (2, [.int dd, .ref a1_25, .ref a2_26, .ref a3_27])), zAr T 0 a1_25 40 d1, zAr T 0 a2_26 40 d2, zAr T 0 a3_27 40 d3] := ⟨a1_25, a2_26, a3_27, rfl⟩
        have G : zS T A s.heap s [[(dy, .inr (2, [.int dd, .ref a1_25, .ref a2_26, .ref a3_27])), zAr T 0 a1_25 40 d1, zAr T 0 a2_26 40 d2, zAr T 0 a3_27 40 d3], [zO1 h po a1_40 y0 o y1 y2 y3 y4 y5 y6 y7, zAr T 0 a1_40 7 xw], wp3, [zO4 o cr inn a1_21 a2_22 a3_23 a4_24, zAr T 0 a1_21 7 k1, zAr T 0 a2_22 28 k2, zAr T 0 a3_23 7 k3, zAr T 0 a4_24 7 k4]] _ _ := G.re rfl
        have G := G.sub (bs' := [[zO1 h po a1_40 y0 o y1 y2 y3 y4 y5 y6 y7, zAr T 0 a1_40 7 xw], wp3, [zO4 o cr inn a1_21 a2_22 a3_23 a4_24, zAr T 0 a1_21 7 k1, zAr T 0 a2_22 28 k2, zAr T 0 a3_23 7 k3, zAr T 0 a4_24 7 k4], [(dy, .inr (2, [.int dd, .ref a1_25, .ref a2_26, .ref a3_27])), zAr T 0 a1_25 40 d1, zAr T 0 a2_26 40 d2, zAr T 0 a3_27 40 d3]]) [1, 2, 3, 0] rfl
        exact z_back hQz_ (z_iret C hr hlocks G (Nat.le_of_ble_eq_true rfl) (Nat.le_of_ble_eq_true rfl) dX1_goThrough_73 ⟨([zO1 h po a1_40 y0 o y1 y2 y3 y4 y5 y6 y7, zAr T 0 a1_40 7 xw]), xw, y0, y1, y2, y3, y4, y5, y6, y7, wp3, x1, x2, g3_7, sb, wb, rfl, hw_41, hp3, hQx, ⟨g1_5, g2_6, g3_7, gw_2, ⟨hQ, h_12, h_13, h_14, h_10⟩, (by rw [← hR9, hR.trans (zDayN_z (by omega))]), (by rw [← hX9, hX.trans (zDayX_z (by omega))])⟩⟩)
      · have c_39n : ¬ 40 ≤ i := fun q => c_39 ((nI_leI (a := 40) (b := i) (by omega) (by omega)).mpr q)
        refine lv_aload_n hx hb dX1_goThrough_30 rfl (lv_at hl 1 rfl) ?_
        refine lv_aload_n hx hb dX1_goThrough_31 rfl (lv_at hl 3 rfl) ?_
        refine z_get C G clX2 0 rfl 1 (by decide) m_fl_RX1_65 rfl dX1_goThrough_32 ?_
        refine lv_iload hx hb dX1_goThrough_35 (lv_at hl 0 rfl) ?_
        refine z_ild C G 1 rfl (vp_in_nI (by omega) (by decide)) dX1_goThrough_37 ?_
        refine lv_topi (fun v_43 ev_43 => ?_)
        rw [nI_clamp (by omega)] at ev_43
        subst ev_43
        refine lv_aload_n hx hb dX1_goThrough_38 rfl (lv_at hl 3 rfl) ?_
        refine z_get C G clX2 0 rfl 2 (by decide) m_fl_RX1_68 rfl dX1_goThrough_39 ?_
        refine lv_iload hx hb dX1_goThrough_42 (lv_at hl 0 rfl) ?_
        refine z_ild C G 2 rfl (vp_in_nI (by omega) (by decide)) dX1_goThrough_44 ?_
        refine lv_topi (fun v_44 ev_44 => ?_)
        rw [nI_clamp (by omega)] at ev_44
        subst ev_44
        refine lv_aload_n hx hb dX1_goThrough_45 rfl (lv_at hl 3 rfl) ?_
        refine z_get C G clX2 0 rfl 3 (by decide) m_fl_RX1_71 rfl dX1_goThrough_46 ?_
        refine lv_iload hx hb dX1_goThrough_49 (lv_at hl 0 rfl) ?_
        refine z_ild C G 3 rfl (vp_in_nI (by omega) (by decide)) dX1_goThrough_51 ?_
        refine lv_topi (fun v_45 ev_45 => ?_)
        rw [nI_clamp (by omega)] at ev_45
        subst ev_45
        refine z_Vi (bc := [wc3, wp3, [zO4 o cr inn a1_21 a2_22 a3_23 a4_24, zAr T 0 a1_21 7 k1, zAr T 0 a2_22 28 k2, zAr T 0 a3_23 7 k3, zAr T 0 a4_24 7 k4]]) (br := [[(dy, .inr (2, [.int dd, .ref a1_25, .ref a2_26, .ref a3_27]))], [zAr T 0 a1_25 40 d1], [zAr T 0 a2_26 40 d2], [zAr T 0 a3_27 40 d3]]) (As := [.int (d1 i), .int (d2 i), .int (d3 i)]) (rest := []) C G (c_x_does l T h po o xw y0 y1 y2 y3 y4 y5 y6 y7 wc3 x1 x2 g3_7 sb wb wp3 cr inn k1 k2 k3 k4 ([zO4 o cr inn a1_21 a2_22 a3_23 a4_24, zAr T 0 a1_21 7 k1, zAr T 0 a2_22 28 k2, zAr T 0 a3_23 7 k3, zAr T 0 a4_24 7 k4]) (d1 i) (d2 i) (d3 i) hc3 hp3 hw_30 hQx hI hW hLq) (kV_RX1_74 C.2.2.2.2 (Nat.le_of_ble_eq_true rfl) (Nat.le_of_ble_eq_true rfl)) [4, 5, 6] [4, 0, 0] rfl rfl (ci := 1) (qc := (RX1, TX1, 11)) rfl rfl (List.mem_flatten.mpr ⟨_, List.mem_of_getElem? (i := 0) rfl, (bCourse_mem hc3).choose_spec⟩) rfl rfl hl.1 dX1_goThrough_52 (Nat.le_of_ble_eq_true rfl) (Nat.le_of_ble_eq_true rfl) (fun r_68 b1 H locs hw G => ?_)
        refine zEx15 hw ?_
        intro wc2_46 gw_47 u0_48 u1_49 u2_50 u3_51 u4_52 u5_53 u6_54 u7_55 wp2_56 g1_57 g2_58 sa_59 wa_60
        refine zCu8 ?_
        intro hbs9 h_61 h_62 h_63 h_64 h_65 h_66 h_67
        clear hw
        subst hbs9
        have G : zS T A s.heap s [[(dy, .inr (2, [.int dd, .ref a1_25, .ref a2_26, .ref a3_27]))], [zAr T 0 a1_25 40 d1], [zAr T 0 a2_26 40 d2], [zAr T 0 a3_27 40 d3], wc2_46, wp2_56, [zO4 o cr inn a1_21 a2_22 a3_23 a4_24, zAr T 0 a1_21 7 k1, zAr T 0 a2_22 28 k2, zAr T 0 a3_23 7 k3, zAr T 0 a4_24 7 k4]] _ _ := G
        replace h_64 : zHd ((r_68 = 1 ∧ zDe cr inn g3_7 k1 k2 (d1 i) (d2 i) (d3 i) (x1, x2, xw, y0, y1) = some (g1_57, g2_58, gw_47, u0_48, u1_49) ∧ u2_50 = y2 + 1 ∨ r_68 = 0 ∧ zDe cr inn g3_7 k1 k2 (d1 i) (d2 i) (d3 i) (x1, x2, xw, y0, y1) = none ∧ g1_57 = x1 ∧ g2_58 = x2 ∧ gw_47 = xw ∧ u0_48 = y0 ∧ u1_49 = y1 ∧ u2_50 = y2)) := h_64
        replace h_66 : zHd ((r_68 = 1 → (u3_51, u4_52, u5_53, u6_54) = zXe cr inn g3_7 k2 (d1 i) (d2 i) y2 (x1, x2, xw, y0, y1) (g1_57, g2_58, gw_47, u0_48, u1_49) (y3, y4, y5, y6))) := h_66
        replace h_67 : zHd ((r_68 = 0 → u3_51 = y3 ∧ u4_52 = y4 ∧ u5_53 = y5 ∧ u6_54 = y6)) := h_67
        have hQ2 : zP3 g1_57 g3_7 := h_63
        refine lv_if_ne (tgt := 63) hx hb dX1_goThrough_55 (by decide) (fun c_69 => ?_) (fun c_69 => ?_)
        · have c_69n : ¬ r_68.toInt = (0 : Int) := fun q => c_69 ((fa_eq _ _).mpr q)
          have hs := (h_64).resolve_right (fun q8 => by have e8 : r_68.toInt = 0 := (by rw [q8.1]; rfl); omega)
          refine lv_iinc (v := nI (i + 1)) (lv' := [(4, .int (nI (i + 1))), (0, .ref h), (1, .ref o), (2, .ref dy), (3, .int n)]) hx hb dX1_goThrough_63 hl (k := 0) rfl (z_inc i 1) (by decide) (zLvf_h rfl) (fun ls hl => ?_)
          refine lv_goto (tgt := 8) hx hb dX1_goThrough_66 (by decide) ?_
          have hw_70 : bDay T dy dd d1 d2 d3 [(dy, .inr (2, [.int dd, .ref a1_25, .ref a2_26, .ref a3_27])), zAr T 0 a1_25 40 d1, zAr T 0 a2_26 40 d2, zAr T 0 a3_27 40 d3] := ⟨a1_25, a2_26, a3_27, rfl⟩
          have G : zS T A s.heap s [[(dy, .inr (2, [.int dd, .ref a1_25, .ref a2_26, .ref a3_27])), zAr T 0 a1_25 40 d1, zAr T 0 a2_26 40 d2, zAr T 0 a3_27 40 d3], wc2_46, wp2_56, [zO4 o cr inn a1_21 a2_22 a3_23 a4_24, zAr T 0 a1_21 7 k1, zAr T 0 a2_22 28 k2, zAr T 0 a3_23 7 k3, zAr T 0 a4_24 7 k4]] _ _ := G.re rfl
          exact ih_8 (i + 1) wc2_46 gw_47 u0_48 u1_49 u2_50 u3_51 u4_52 u5_53 u6_54 u7_55 wp2_56 g1_57 g2_58 sa_59 wa_60 (show bCourse T h po o gw_47 u0_48 u1_49 u2_50 u3_51 u4_52 u5_53 u6_54 u7_55 wc2_46 ∧ bPosts T po o g1_57 g2_58 g3_7 sa_59 wa_60 wp2_56 ∧ (i + 1) ≤ 40 ∧ zP3 g1_57 g3_7 ∧ u2_50 = nI (i + 1) ∧ R9 = zDayN (fun k D => zDe cr inn g3_7 k1 k2 (d1 k) (d2 k) (d3 k) D) ((min (min n.toInt dd.toInt) 40).toNat - (i + 1)) (i + 1) (g1_57, g2_58, gw_47, u0_48, u1_49) ∧ X9 = zDayX (fun k D => zDe cr inn g3_7 k1 k2 (d1 k) (d2 k) (d3 k) D) (fun k D E X => zXe cr inn g3_7 k2 (d1 k) (d2 k) (nI k) D E X) ((min (min n.toInt dd.toInt) 40).toNat - (i + 1)) (i + 1) (g1_57, g2_58, gw_47, u0_48, u1_49) (u3_51, u4_52, u5_53, u6_54) from ⟨h_61, h_62, by omega, hQ2, hs.2.2.trans ((congrArg (fun q => q + 1) hy2).trans (zInc1 i)), (hR.trans (by rw [show (min (min n.toInt dd.toInt) 40).toNat - i = ((min (min n.toInt dd.toInt) 40).toNat - (i + 1)) + 1 by omega]; exact zDayN_s hs.2.1)), (hX.trans (by rw [show (min (min n.toInt dd.toInt) 40).toNat - i = ((min (min n.toInt dd.toInt) 40).toNat - (i + 1)) + 1 by omega]; exact (zDayX_s hs.2.1).trans (by rw [← hy2, ← h_66 hs.1])))⟩) (show 40 - (i + 1) < 40 - i from by omega) _ _ ls G (lv_sub hl [0, 1, 2, 3, 4] rfl)
        · have c_69n : r_68.toInt = (0 : Int) := (fa_eq _ _).mp c_69
          have hs := (h_64).resolve_left (fun q8 => by have e8 : r_68.toInt = 1 := (by rw [q8.1]; rfl); omega)
          refine lv_aload_n hx hb dX1_goThrough_58 rfl (lv_at hl 1 rfl) ?_
          refine zEx1 h_61 ?_
          intro a1_71 hbs9
          clear h_61
          subst hbs9
          have G : zS T A s.heap s [[(dy, .inr (2, [.int dd, .ref a1_25, .ref a2_26, .ref a3_27]))], [zAr T 0 a1_25 40 d1], [zAr T 0 a2_26 40 d2], [zAr T 0 a3_27 40 d3], [zO1 h po a1_71 u0_48 o u1_49 u2_50 u3_51 u4_52 u5_53 u6_54 u7_55], [zAr T 0 a1_71 7 gw_47], wp2_56, [zO4 o cr inn a1_21 a2_22 a3_23 a4_24, zAr T 0 a1_21 7 k1, zAr T 0 a2_22 28 k2, zAr T 0 a3_23 7 k3, zAr T 0 a4_24 7 k4]] _ _ := G.re rfl
          refine z_get C G clX1 4 rfl 5 (by decide) m_fl_RX1_41 rfl dX1_goThrough_59 ?_
          have hw_72 : bDay T dy dd d1 d2 d3 [(dy, .inr (2, [.int dd, .ref a1_25, .ref a2_26, .ref a3_27])), zAr T 0 a1_25 40 d1, zAr T 0 a2_26 40 d2, zAr T 0 a3_27 40 d3] := ⟨a1_25, a2_26, a3_27, rfl⟩
          have G : zS T A s.heap s [[(dy, .inr (2, [.int dd, .ref a1_25, .ref a2_26, .ref a3_27])), zAr T 0 a1_25 40 d1, zAr T 0 a2_26 40 d2, zAr T 0 a3_27 40 d3], [zO1 h po a1_71 u0_48 o u1_49 u2_50 u3_51 u4_52 u5_53 u6_54 u7_55], [zAr T 0 a1_71 7 gw_47], wp2_56, [zO4 o cr inn a1_21 a2_22 a3_23 a4_24, zAr T 0 a1_21 7 k1, zAr T 0 a2_22 28 k2, zAr T 0 a3_23 7 k3, zAr T 0 a4_24 7 k4]] _ _ := G.re rfl
          have hw_73 : bCourse T h po o gw_47 u0_48 u1_49 u2_50 u3_51 u4_52 u5_53 u6_54 u7_55 [zO1 h po a1_71 u0_48 o u1_49 u2_50 u3_51 u4_52 u5_53 u6_54 u7_55, zAr T 0 a1_71 7 gw_47] := ⟨a1_71, rfl⟩
          have G : zS T A s.heap s [[(dy, .inr (2, [.int dd, .ref a1_25, .ref a2_26, .ref a3_27])), zAr T 0 a1_25 40 d1, zAr T 0 a2_26 40 d2, zAr T 0 a3_27 40 d3], [zO1 h po a1_71 u0_48 o u1_49 u2_50 u3_51 u4_52 u5_53 u6_54 u7_55, zAr T 0 a1_71 7 gw_47], wp2_56, [zO4 o cr inn a1_21 a2_22 a3_23 a4_24, zAr T 0 a1_21 7 k1, zAr T 0 a2_22 28 k2, zAr T 0 a3_23 7 k3, zAr T 0 a4_24 7 k4]] _ _ := G.re rfl
          have G := G.sub (bs' := [[zO1 h po a1_71 u0_48 o u1_49 u2_50 u3_51 u4_52 u5_53 u6_54 u7_55, zAr T 0 a1_71 7 gw_47], wp2_56, [zO4 o cr inn a1_21 a2_22 a3_23 a4_24, zAr T 0 a1_21 7 k1, zAr T 0 a2_22 28 k2, zAr T 0 a3_23 7 k3, zAr T 0 a4_24 7 k4], [(dy, .inr (2, [.int dd, .ref a1_25, .ref a2_26, .ref a3_27])), zAr T 0 a1_25 40 d1, zAr T 0 a2_26 40 d2, zAr T 0 a3_27 40 d3]]) [1, 2, 3, 0] rfl
          exact z_back hQz_ (z_iret C hr hlocks G (Nat.le_of_ble_eq_true rfl) (Nat.le_of_ble_eq_true rfl) dX1_goThrough_62 ⟨([zO1 h po a1_71 u0_48 o u1_49 u2_50 u3_51 u4_52 u5_53 u6_54 u7_55, zAr T 0 a1_71 7 gw_47]), gw_47, u0_48, u1_49, u2_50, u3_51, u4_52, u5_53, u6_54, u7_55, wp2_56, g1_57, g2_58, g3_7, sa_59, wa_60, rfl, hw_73, h_62, hQ2, ⟨g1_5, g2_6, g3_7, gw_2, ⟨hQ, h_12, h_13, h_14, h_10⟩, (by rw [← hR9, hR.trans (zDayN_n hs.2.1)]; rw [hs.2.2.1, hs.2.2.2.1, hs.2.2.2.2.1, hs.2.2.2.2.2.1, hs.2.2.2.2.2.2.1]), (by rw [← hX9, hX.trans (zDayX_n hs.2.1)]; have q7 := h_67 hs.1; rw [q7.1, q7.2.1, q7.2.2.1, q7.2.2.2])⟩⟩)
set_option maxHeartbeats 4000000 in
set_option maxRecDepth 100000 in
/-- c_x_unlikeTold -/
theorem c_x_unlikeTold (l : Launch) (T : zTy) (h : Nat) (po : Nat) (la : Nat) (fw : Nat → Int32) (v0 : Int32) (v1 : Int32) (v2 : Int32) (v3 : Int32) (v4 : Int32) (v5 : Int32) (v6 : Int32) (v7 : Int32) (wc : va_W) (f1 : Nat → Int32) (f2 : Nat → Int32) (f3 : Nat → Int32) (st : Int32) (wh : Int32) (wp : va_W) (cr : Int32) (inn : Int32) (k1 : Nat → Int32) (k2 : Nat → Int32) (k3 : Nat → Int32) (k4 : Nat → Int32) (z : va_W) (hc : bCourse T h po la fw v0 v1 v2 v3 v4 v5 v6 v7 wc) (hp : bPosts T po la f1 f2 f3 st wh wp) (hz : bLand T la cr inn k1 k2 k3 k4 z) (hI : zLI cr k1 k3) : zMi l T yX1_unlikeTold cX1_unlikeTold 3 (some .int) 1 0 0 [.ref h] [wc, wp, z] (fun (r : Int32) bs => bs = [wc, wp, z] ∧ r = zUn f1 k3 cr.toInt.toNat) := by
  refine zMi_of (own := RX1) (by decide) rfl (Nat.le_of_ble_eq_true rfl) ?_
  intro p e s m args below meth c A ls C hr hlocks hnm hAe G hl
  refine zHide (fun Qz_ hQz_ => ?_)
  have hx := C.1
  have hb := C.2.1
  have hl : lv_has ls 3 [(0, .ref h)] := hl
  have hcr := hI.1
  refine lv_iconst (v := 0) hx hb dX1_unlikeTold_0 (by decide) ?_
  refine lv_istore_n (lv' := [(1, .int 0), (0, .ref h)]) hx hb dX1_unlikeTold_1 rfl hl (by decide) (zLvf_h rfl) (fun ls hl => ?_)
  refine lv_iconst (v := 0) hx hb dX1_unlikeTold_2 (by decide) ?_
  refine lv_istore_n (lv' := [(2, .int 0), (1, .int 0), (0, .ref h)]) hx hb dX1_unlikeTold_3 rfl hl (by decide) (zLvf_h rfl) (fun ls hl => ?_)
  refine zEx1 hc ?_
  intro a1_1 hbs9
  clear hc
  subst hbs9
  have G : zS T A s.heap s [[zO1 h po a1_1 v0 la v1 v2 v3 v4 v5 v6 v7], [zAr T 0 a1_1 7 fw], wp, z] _ _ := G.re rfl
  refine zEx3 hp ?_
  intro a1_2 a2_3 a3_4 hbs9
  clear hp
  subst hbs9
  have G : zS T A s.heap s [[zO1 h po a1_1 v0 la v1 v2 v3 v4 v5 v6 v7], [zAr T 0 a1_1 7 fw], [zO6 po la a1_2 a2_3 st wh a3_4], [zAr T 0 a1_2 7 f1], [zAr T 0 a2_3 7 f2], [zAr T 0 a3_4 7 f3], z] _ _ := G.re rfl
  refine zEx4 hz ?_
  intro a1_5 a2_6 a3_7 a4_8 hbs9
  clear hz
  subst hbs9
  have G : zS T A s.heap s [[zO1 h po a1_1 v0 la v1 v2 v3 v4 v5 v6 v7], [zAr T 0 a1_1 7 fw], [zO6 po la a1_2 a2_3 st wh a3_4], [zAr T 0 a1_2 7 f1], [zAr T 0 a2_3 7 f2], [zAr T 0 a3_4 7 f3], [zO4 la cr inn a1_5 a2_6 a3_7 a4_8], [zAr T 0 a1_5 7 k1], [zAr T 0 a2_6 28 k2], [zAr T 0 a3_7 7 k3], [zAr T 0 a4_8 7 k4]] _ _ := G.re rfl
  have hw_9 : bCourse T h po la fw v0 v1 v2 v3 v4 v5 v6 v7 [zO1 h po a1_1 v0 la v1 v2 v3 v4 v5 v6 v7, zAr T 0 a1_1 7 fw] := ⟨a1_1, rfl⟩
  have G : zS T A s.heap s [[zO1 h po a1_1 v0 la v1 v2 v3 v4 v5 v6 v7, zAr T 0 a1_1 7 fw], [zO6 po la a1_2 a2_3 st wh a3_4], [zAr T 0 a1_2 7 f1], [zAr T 0 a2_3 7 f2], [zAr T 0 a3_4 7 f3], [zO4 la cr inn a1_5 a2_6 a3_7 a4_8], [zAr T 0 a1_5 7 k1], [zAr T 0 a2_6 28 k2], [zAr T 0 a3_7 7 k3], [zAr T 0 a4_8 7 k4]] _ _ := G.re rfl
  have hw_10 : bPosts T po la f1 f2 f3 st wh [zO6 po la a1_2 a2_3 st wh a3_4, zAr T 0 a1_2 7 f1, zAr T 0 a2_3 7 f2, zAr T 0 a3_4 7 f3] := ⟨a1_2, a2_3, a3_4, rfl⟩
  have G : zS T A s.heap s [[zO1 h po a1_1 v0 la v1 v2 v3 v4 v5 v6 v7, zAr T 0 a1_1 7 fw], [zO6 po la a1_2 a2_3 st wh a3_4, zAr T 0 a1_2 7 f1, zAr T 0 a2_3 7 f2, zAr T 0 a3_4 7 f3], [zO4 la cr inn a1_5 a2_6 a3_7 a4_8], [zAr T 0 a1_5 7 k1], [zAr T 0 a2_6 28 k2], [zAr T 0 a3_7 7 k3], [zAr T 0 a4_8 7 k4]] _ _ := G.re rfl
  have hw_11 : bLand T la cr inn k1 k2 k3 k4 [zO4 la cr inn a1_5 a2_6 a3_7 a4_8, zAr T 0 a1_5 7 k1, zAr T 0 a2_6 28 k2, zAr T 0 a3_7 7 k3, zAr T 0 a4_8 7 k4] := ⟨a1_5, a2_6, a3_7, a4_8, rfl⟩
  have G : zS T A s.heap s [[zO1 h po a1_1 v0 la v1 v2 v3 v4 v5 v6 v7, zAr T 0 a1_1 7 fw], [zO6 po la a1_2 a2_3 st wh a3_4, zAr T 0 a1_2 7 f1, zAr T 0 a2_3 7 f2, zAr T 0 a3_4 7 f3], [zO4 la cr inn a1_5 a2_6 a3_7 a4_8, zAr T 0 a1_5 7 k1, zAr T 0 a2_6 28 k2, zAr T 0 a3_7 7 k3, zAr T 0 a4_8 7 k4]] _ _ := G.re rfl
  refine z_lp2 (T := T) 4 (fun (i : Nat) (u : Int32) => [[zO1 h po a1_1 v0 la v1 v2 v3 v4 v5 v6 v7, zAr T 0 a1_1 7 fw], [zO6 po la a1_2 a2_3 st wh a3_4, zAr T 0 a1_2 7 f1, zAr T 0 a2_3 7 f2, zAr T 0 a3_4 7 f3], [zO4 la cr inn a1_5 a2_6 a3_7 a4_8, zAr T 0 a1_5 7 k1, zAr T 0 a2_6 28 k2, zAr T 0 a3_7 7 k3, zAr T 0 a4_8 7 k4]]) (fun (i : Nat) (u : Int32) => [(2, .int (nI i)), (1, .int u), (0, .ref h)]) (fun (i : Nat) (u : Int32) => i ≤ cr.toInt.toNat ∧ i ≤ 7 ∧ u = zUn f1 k3 i) (fun (i : Nat) (u : Int32) => 7 - i) ?_ 0 0 (show 0 ≤ cr.toInt.toNat ∧ 0 ≤ 7 ∧ 0 = zUn f1 k3 0 from ⟨by omega, by omega, rfl⟩) G (lv_sub hl [0, 1, 2] rfl)
  intro i u hI9 ih_4 H locs ls G hl
  replace hI9 : i ≤ cr.toInt.toNat ∧ i ≤ 7 ∧ u = zUn f1 k3 i := hI9
  refine zAn3 hI9 ?_
  intro hi hi7 hU
  clear hI9
  replace G : zS T A s.heap s [[zO1 h po a1_1 v0 la v1 v2 v3 v4 v5 v6 v7, zAr T 0 a1_1 7 fw], [zO6 po la a1_2 a2_3 st wh a3_4, zAr T 0 a1_2 7 f1, zAr T 0 a2_3 7 f2, zAr T 0 a3_4 7 f3], [zO4 la cr inn a1_5 a2_6 a3_7 a4_8, zAr T 0 a1_5 7 k1, zAr T 0 a2_6 28 k2, zAr T 0 a3_7 7 k3, zAr T 0 a4_8 7 k4]] _ _ := G
  replace hl : lv_has ls 3 [(2, .int (nI i)), (1, .int u), (0, .ref h)] := hl
  refine lv_iload_n hx hb dX1_unlikeTold_4 rfl (lv_at hl 0 rfl) ?_
  refine lv_aload_n hx hb dX1_unlikeTold_5 rfl (lv_at hl 2 rfl) ?_
  have G : zS T A s.heap s [[zO1 h po a1_1 v0 la v1 v2 v3 v4 v5 v6 v7], [zAr T 0 a1_1 7 fw], [zO6 po la a1_2 a2_3 st wh a3_4, zAr T 0 a1_2 7 f1, zAr T 0 a2_3 7 f2, zAr T 0 a3_4 7 f3], [zO4 la cr inn a1_5 a2_6 a3_7 a4_8, zAr T 0 a1_5 7 k1, zAr T 0 a2_6 28 k2, zAr T 0 a3_7 7 k3, zAr T 0 a4_8 7 k4]] _ _ := G.re rfl
  refine z_get C G clX1 0 rfl 3 (by decide) m_fl_RX1_25 rfl dX1_unlikeTold_6 ?_
  have G : zS T A s.heap s [[zO1 h po a1_1 v0 la v1 v2 v3 v4 v5 v6 v7], [zAr T 0 a1_1 7 fw], [zO6 po la a1_2 a2_3 st wh a3_4, zAr T 0 a1_2 7 f1, zAr T 0 a2_3 7 f2, zAr T 0 a3_4 7 f3], [zO4 la cr inn a1_5 a2_6 a3_7 a4_8], [zAr T 0 a1_5 7 k1], [zAr T 0 a2_6 28 k2], [zAr T 0 a3_7 7 k3], [zAr T 0 a4_8 7 k4]] _ _ := G.re rfl
  refine z_get C G clX4 3 rfl 0 (by decide) m_fl_RX1_88 rfl dX1_unlikeTold_9 ?_
  refine lv_icmp_ge (tgt := 58) hx hb dX1_unlikeTold_12 (by decide) (fun c_12 => ?_) (fun c_12 => ?_)
  · have c_12n : cr.toInt ≤ (i : Int) := by have q := (fa_le _ _).mp c_12; rw [nI_toInt (n := i) (by omega)] at q; exact q
    refine lv_iload_n hx hb dX1_unlikeTold_58 rfl (lv_at hl 1 rfl) ?_
    have hw_13 : bCourse T h po la fw v0 v1 v2 v3 v4 v5 v6 v7 [zO1 h po a1_1 v0 la v1 v2 v3 v4 v5 v6 v7, zAr T 0 a1_1 7 fw] := ⟨a1_1, rfl⟩
    have G : zS T A s.heap s [[zO1 h po a1_1 v0 la v1 v2 v3 v4 v5 v6 v7, zAr T 0 a1_1 7 fw], [zO6 po la a1_2 a2_3 st wh a3_4, zAr T 0 a1_2 7 f1, zAr T 0 a2_3 7 f2, zAr T 0 a3_4 7 f3], [zO4 la cr inn a1_5 a2_6 a3_7 a4_8], [zAr T 0 a1_5 7 k1], [zAr T 0 a2_6 28 k2], [zAr T 0 a3_7 7 k3], [zAr T 0 a4_8 7 k4]] _ _ := G.re rfl
    have hw_14 : bLand T la cr inn k1 k2 k3 k4 [zO4 la cr inn a1_5 a2_6 a3_7 a4_8, zAr T 0 a1_5 7 k1, zAr T 0 a2_6 28 k2, zAr T 0 a3_7 7 k3, zAr T 0 a4_8 7 k4] := ⟨a1_5, a2_6, a3_7, a4_8, rfl⟩
    have G : zS T A s.heap s [[zO1 h po a1_1 v0 la v1 v2 v3 v4 v5 v6 v7, zAr T 0 a1_1 7 fw], [zO6 po la a1_2 a2_3 st wh a3_4, zAr T 0 a1_2 7 f1, zAr T 0 a2_3 7 f2, zAr T 0 a3_4 7 f3], [zO4 la cr inn a1_5 a2_6 a3_7 a4_8, zAr T 0 a1_5 7 k1, zAr T 0 a2_6 28 k2, zAr T 0 a3_7 7 k3, zAr T 0 a4_8 7 k4]] _ _ := G.re rfl
    exact z_back hQz_ (z_iret C hr hlocks G (Nat.le_of_ble_eq_true rfl) (Nat.le_of_ble_eq_true rfl) dX1_unlikeTold_59 ⟨rfl, (by rw [hU, show i = cr.toInt.toNat by omega])⟩)
  · have c_12n : ¬ cr.toInt ≤ (i : Int) := fun q => c_12 ((fa_le _ _).mpr (by rw [nI_toInt (n := i) (by omega)]; exact q))
    refine lv_iload_n hx hb dX1_unlikeTold_15 rfl (lv_at hl 0 rfl) ?_
    refine lv_bipush (v := 7) hx hb dX1_unlikeTold_16 (by decide) ?_
    refine lv_icmp_ge (tgt := 58) hx hb dX1_unlikeTold_18 (by decide) (fun c_15 => ?_) (fun c_15 => ?_)
    · have c_15n : 7 ≤ i := (nI_leI (a := 7) (b := i) (by omega) (by omega)).mp c_15
      refine lv_iload_n hx hb dX1_unlikeTold_58 rfl (lv_at hl 1 rfl) ?_
      have hw_16 : bCourse T h po la fw v0 v1 v2 v3 v4 v5 v6 v7 [zO1 h po a1_1 v0 la v1 v2 v3 v4 v5 v6 v7, zAr T 0 a1_1 7 fw] := ⟨a1_1, rfl⟩
      have G : zS T A s.heap s [[zO1 h po a1_1 v0 la v1 v2 v3 v4 v5 v6 v7, zAr T 0 a1_1 7 fw], [zO6 po la a1_2 a2_3 st wh a3_4, zAr T 0 a1_2 7 f1, zAr T 0 a2_3 7 f2, zAr T 0 a3_4 7 f3], [zO4 la cr inn a1_5 a2_6 a3_7 a4_8], [zAr T 0 a1_5 7 k1], [zAr T 0 a2_6 28 k2], [zAr T 0 a3_7 7 k3], [zAr T 0 a4_8 7 k4]] _ _ := G.re rfl
      have hw_17 : bLand T la cr inn k1 k2 k3 k4 [zO4 la cr inn a1_5 a2_6 a3_7 a4_8, zAr T 0 a1_5 7 k1, zAr T 0 a2_6 28 k2, zAr T 0 a3_7 7 k3, zAr T 0 a4_8 7 k4] := ⟨a1_5, a2_6, a3_7, a4_8, rfl⟩
      have G : zS T A s.heap s [[zO1 h po a1_1 v0 la v1 v2 v3 v4 v5 v6 v7, zAr T 0 a1_1 7 fw], [zO6 po la a1_2 a2_3 st wh a3_4, zAr T 0 a1_2 7 f1, zAr T 0 a2_3 7 f2, zAr T 0 a3_4 7 f3], [zO4 la cr inn a1_5 a2_6 a3_7 a4_8, zAr T 0 a1_5 7 k1, zAr T 0 a2_6 28 k2, zAr T 0 a3_7 7 k3, zAr T 0 a4_8 7 k4]] _ _ := G.re rfl
      exact z_back hQz_ (z_iret C hr hlocks G (Nat.le_of_ble_eq_true rfl) (Nat.le_of_ble_eq_true rfl) dX1_unlikeTold_59 ⟨rfl, (by rw [hU, show i = cr.toInt.toNat by omega])⟩)
    · have c_15n : ¬ 7 ≤ i := fun q => c_15 ((nI_leI (a := 7) (b := i) (by omega) (by omega)).mpr q)
      refine lv_iload_n hx hb dX1_unlikeTold_21 rfl (lv_at hl 1 rfl) ?_
      refine lv_aload_n hx hb dX1_unlikeTold_22 rfl (lv_at hl 2 rfl) ?_
      refine z_get C G clX1 0 rfl 0 (by decide) m_fl_RX1_12 rfl dX1_unlikeTold_23 ?_
      have G : zS T A s.heap s [[zO1 h po a1_1 v0 la v1 v2 v3 v4 v5 v6 v7], [zAr T 0 a1_1 7 fw], [zO6 po la a1_2 a2_3 st wh a3_4], [zAr T 0 a1_2 7 f1], [zAr T 0 a2_3 7 f2], [zAr T 0 a3_4 7 f3], [zO4 la cr inn a1_5 a2_6 a3_7 a4_8], [zAr T 0 a1_5 7 k1], [zAr T 0 a2_6 28 k2], [zAr T 0 a3_7 7 k3], [zAr T 0 a4_8 7 k4]] _ _ := G.re rfl
      refine z_get C G clX6 2 rfl 1 (by decide) m_fl_RX1_154 rfl dX1_unlikeTold_26 ?_
      refine lv_iload_n hx hb dX1_unlikeTold_29 rfl (lv_at hl 0 rfl) ?_
      refine z_ild C G 3 rfl (vp_in_nI (by omega) (by decide)) dX1_unlikeTold_30 ?_
      refine lv_topi (fun v_18 ev_18 => ?_)
      rw [nI_clamp (by omega)] at ev_18
      subst ev_18
      refine lv_aload_n hx hb dX1_unlikeTold_31 rfl (lv_at hl 2 rfl) ?_
      refine z_get C G clX1 0 rfl 3 (by decide) m_fl_RX1_25 rfl dX1_unlikeTold_32 ?_
      refine z_get C G clX4 6 rfl 4 (by decide) m_fl_RX1_163 rfl dX1_unlikeTold_35 ?_
      refine lv_iload_n hx hb dX1_unlikeTold_38 rfl (lv_at hl 0 rfl) ?_
      refine z_ild C G 9 rfl (vp_in_nI (by omega) (by decide)) dX1_unlikeTold_39 ?_
      refine lv_topi (fun v_19 ev_19 => ?_)
      rw [nI_clamp (by omega)] at ev_19
      subst ev_19
      refine lv_icmp_eq (tgt := 49) hx hb dX1_unlikeTold_40 (by decide) (fun c_20 => ?_) (fun c_20 => ?_)
      · have c_20n : (f1 i).toInt = (k3 i).toInt := (fa_eq _ _).mp c_20
        refine lv_iconst (v := 0) hx hb dX1_unlikeTold_49 (by decide) ?_
        refine lv_ior hx hb dX1_unlikeTold_50 ?_
        refine lv_istore_n (lv' := [(1, .int (u ||| 0)), (2, .int (nI i)), (0, .ref h)]) hx hb dX1_unlikeTold_51 rfl hl (by decide) (zLvf_h rfl) (fun ls hl => ?_)
        refine lv_iinc (v := nI (i + 1)) (lv' := [(2, .int (nI (i + 1))), (1, .int (u ||| 0)), (0, .ref h)]) hx hb dX1_unlikeTold_52 hl (k := 1) rfl (z_inc i 1) (by decide) (zLvf_h rfl) (fun ls hl => ?_)
        refine lv_goto (tgt := 4) hx hb dX1_unlikeTold_55 (by decide) ?_
        have hw_21 : bCourse T h po la fw v0 v1 v2 v3 v4 v5 v6 v7 [zO1 h po a1_1 v0 la v1 v2 v3 v4 v5 v6 v7, zAr T 0 a1_1 7 fw] := ⟨a1_1, rfl⟩
        have G : zS T A s.heap s [[zO1 h po a1_1 v0 la v1 v2 v3 v4 v5 v6 v7, zAr T 0 a1_1 7 fw], [zO6 po la a1_2 a2_3 st wh a3_4], [zAr T 0 a1_2 7 f1], [zAr T 0 a2_3 7 f2], [zAr T 0 a3_4 7 f3], [zO4 la cr inn a1_5 a2_6 a3_7 a4_8], [zAr T 0 a1_5 7 k1], [zAr T 0 a2_6 28 k2], [zAr T 0 a3_7 7 k3], [zAr T 0 a4_8 7 k4]] _ _ := G.re rfl
        have hw_22 : bPosts T po la f1 f2 f3 st wh [zO6 po la a1_2 a2_3 st wh a3_4, zAr T 0 a1_2 7 f1, zAr T 0 a2_3 7 f2, zAr T 0 a3_4 7 f3] := ⟨a1_2, a2_3, a3_4, rfl⟩
        have G : zS T A s.heap s [[zO1 h po a1_1 v0 la v1 v2 v3 v4 v5 v6 v7, zAr T 0 a1_1 7 fw], [zO6 po la a1_2 a2_3 st wh a3_4, zAr T 0 a1_2 7 f1, zAr T 0 a2_3 7 f2, zAr T 0 a3_4 7 f3], [zO4 la cr inn a1_5 a2_6 a3_7 a4_8], [zAr T 0 a1_5 7 k1], [zAr T 0 a2_6 28 k2], [zAr T 0 a3_7 7 k3], [zAr T 0 a4_8 7 k4]] _ _ := G.re rfl
        have hw_23 : bLand T la cr inn k1 k2 k3 k4 [zO4 la cr inn a1_5 a2_6 a3_7 a4_8, zAr T 0 a1_5 7 k1, zAr T 0 a2_6 28 k2, zAr T 0 a3_7 7 k3, zAr T 0 a4_8 7 k4] := ⟨a1_5, a2_6, a3_7, a4_8, rfl⟩
        have G : zS T A s.heap s [[zO1 h po a1_1 v0 la v1 v2 v3 v4 v5 v6 v7, zAr T 0 a1_1 7 fw], [zO6 po la a1_2 a2_3 st wh a3_4, zAr T 0 a1_2 7 f1, zAr T 0 a2_3 7 f2, zAr T 0 a3_4 7 f3], [zO4 la cr inn a1_5 a2_6 a3_7 a4_8, zAr T 0 a1_5 7 k1, zAr T 0 a2_6 28 k2, zAr T 0 a3_7 7 k3, zAr T 0 a4_8 7 k4]] _ _ := G.re rfl
        exact ih_4 (i + 1) (u ||| 0) (show (i + 1) ≤ cr.toInt.toNat ∧ (i + 1) ≤ 7 ∧ (u ||| 0) = zUn f1 k3 (i + 1) from ⟨by omega, by omega, (zUn_y hU (by first | with_reducible assumption | assumption))⟩) (show 7 - (i + 1) < 7 - i from by omega) _ _ ls G (lv_sub hl [0, 1, 2] rfl)
      · have c_20n : ¬ (f1 i).toInt = (k3 i).toInt := fun q => c_20 ((fa_eq _ _).mpr q)
        refine lv_iconst (v := 1) hx hb dX1_unlikeTold_43 (by decide) ?_
        refine lv_iload_n hx hb dX1_unlikeTold_44 rfl (lv_at hl 0 rfl) ?_
        refine lv_ishl hx hb dX1_unlikeTold_45 ?_
        refine lv_goto (tgt := 50) hx hb dX1_unlikeTold_46 (by decide) ?_
        refine lv_ior hx hb dX1_unlikeTold_50 ?_
        refine lv_istore_n (lv' := [(1, .int (u ||| (1 <<< ((nI i) &&& 31)))), (2, .int (nI i)), (0, .ref h)]) hx hb dX1_unlikeTold_51 rfl hl (by decide) (zLvf_h rfl) (fun ls hl => ?_)
        refine lv_iinc (v := nI (i + 1)) (lv' := [(2, .int (nI (i + 1))), (1, .int (u ||| (1 <<< ((nI i) &&& 31)))), (0, .ref h)]) hx hb dX1_unlikeTold_52 hl (k := 1) rfl (z_inc i 1) (by decide) (zLvf_h rfl) (fun ls hl => ?_)
        refine lv_goto (tgt := 4) hx hb dX1_unlikeTold_55 (by decide) ?_
        have hw_24 : bCourse T h po la fw v0 v1 v2 v3 v4 v5 v6 v7 [zO1 h po a1_1 v0 la v1 v2 v3 v4 v5 v6 v7, zAr T 0 a1_1 7 fw] := ⟨a1_1, rfl⟩
        have G : zS T A s.heap s [[zO1 h po a1_1 v0 la v1 v2 v3 v4 v5 v6 v7, zAr T 0 a1_1 7 fw], [zO6 po la a1_2 a2_3 st wh a3_4], [zAr T 0 a1_2 7 f1], [zAr T 0 a2_3 7 f2], [zAr T 0 a3_4 7 f3], [zO4 la cr inn a1_5 a2_6 a3_7 a4_8], [zAr T 0 a1_5 7 k1], [zAr T 0 a2_6 28 k2], [zAr T 0 a3_7 7 k3], [zAr T 0 a4_8 7 k4]] _ _ := G.re rfl
        have hw_25 : bPosts T po la f1 f2 f3 st wh [zO6 po la a1_2 a2_3 st wh a3_4, zAr T 0 a1_2 7 f1, zAr T 0 a2_3 7 f2, zAr T 0 a3_4 7 f3] := ⟨a1_2, a2_3, a3_4, rfl⟩
        have G : zS T A s.heap s [[zO1 h po a1_1 v0 la v1 v2 v3 v4 v5 v6 v7, zAr T 0 a1_1 7 fw], [zO6 po la a1_2 a2_3 st wh a3_4, zAr T 0 a1_2 7 f1, zAr T 0 a2_3 7 f2, zAr T 0 a3_4 7 f3], [zO4 la cr inn a1_5 a2_6 a3_7 a4_8], [zAr T 0 a1_5 7 k1], [zAr T 0 a2_6 28 k2], [zAr T 0 a3_7 7 k3], [zAr T 0 a4_8 7 k4]] _ _ := G.re rfl
        have hw_26 : bLand T la cr inn k1 k2 k3 k4 [zO4 la cr inn a1_5 a2_6 a3_7 a4_8, zAr T 0 a1_5 7 k1, zAr T 0 a2_6 28 k2, zAr T 0 a3_7 7 k3, zAr T 0 a4_8 7 k4] := ⟨a1_5, a2_6, a3_7, a4_8, rfl⟩
        have G : zS T A s.heap s [[zO1 h po a1_1 v0 la v1 v2 v3 v4 v5 v6 v7, zAr T 0 a1_1 7 fw], [zO6 po la a1_2 a2_3 st wh a3_4, zAr T 0 a1_2 7 f1, zAr T 0 a2_3 7 f2, zAr T 0 a3_4 7 f3], [zO4 la cr inn a1_5 a2_6 a3_7 a4_8, zAr T 0 a1_5 7 k1, zAr T 0 a2_6 28 k2, zAr T 0 a3_7 7 k3, zAr T 0 a4_8 7 k4]] _ _ := G.re rfl
        exact ih_4 (i + 1) (u ||| (1 <<< ((nI i) &&& 31))) (show (i + 1) ≤ cr.toInt.toNat ∧ (i + 1) ≤ 7 ∧ (u ||| (1 <<< ((nI i) &&& 31))) = zUn f1 k3 (i + 1) from ⟨by omega, by omega, (zUn_n hU (by first | with_reducible assumption | assumption))⟩) (show 7 - (i + 1) < 7 - i from by omega) _ _ ls G (lv_sub hl [0, 1, 2] rfl)
theorem zAft_D {cr w r : Int32} {T f1 : Nat → Int32} {D : zK} {X : zXs} (e : D.1 = f1) : zAft cr T w r D X = zAft cr T w r (f1, D.2) X := by
  rw [← e]
set_option maxHeartbeats 4000000 in
set_option maxRecDepth 100000 in
/-- c_x_toldAfter -/
theorem c_x_toldAfter (l : Launch) (T : zTy) (h : Nat) (po : Nat) (la : Nat) (fw : Nat → Int32) (v0 : Int32) (v1 : Int32) (v2 : Int32) (v3 : Int32) (v4 : Int32) (v5 : Int32) (v6 : Int32) (v7 : Int32) (wc : va_W) (f1 : Nat → Int32) (f2 : Nat → Int32) (f3 : Nat → Int32) (st : Int32) (wh : Int32) (wp : va_W) (cr : Int32) (inn : Int32) (k1 : Nat → Int32) (k2 : Nat → Int32) (k3 : Nat → Int32) (k4 : Nat → Int32) (z : va_W) (x : Int32) (hc : bCourse T h po la fw v0 v1 v2 v3 v4 v5 v6 v7 wc) (hp : bPosts T po la f1 f2 f3 st wh wp) (hz : bLand T la cr inn k1 k2 k3 k4 z) (hI : zLI cr k1 k3) : zMi l T yX1_toldAfter cX1_toldAfter 2 (some .int) 2 0 0 [.ref h, .int x] [wc, wp, z] (fun (r : Int32) bs => bs = [wc, wp, z] ∧ (∀ (D : zK) (X : zXs), D.1 = f1 → (v3, v4, v5, v6) = X → zAft cr k3 x r D X)) := by
  refine zMi_of (own := RX1) (by decide) rfl (Nat.le_of_ble_eq_true rfl) ?_
  intro p e s m args below meth c A ls C hr hlocks hnm hAe G hl
  refine zHide (fun Qz_ hQz_ => ?_)
  have hx := C.1
  have hb := C.2.1
  have hl : lv_has ls 2 [(0, .ref h), (1, .int x)] := hl
  refine lv_iload_n hx hb dX1_toldAfter_0 rfl (lv_at hl 1 rfl) ?_
  by_cases c_1o : x.toInt < 0 ∨ 4 < x.toInt
  · refine lv_tableOut (tgt := 61) hx hb dX1_toldAfter_1 c_1o (by decide) ?_
    refine lv_bipush (v := (-2)) hx hb dX1_toldAfter_61 (by decide) ?_
    exact z_back hQz_ (z_iret C hr hlocks G (Nat.le_of_ble_eq_true rfl) (Nat.le_of_ble_eq_true rfl) dX1_toldAfter_63 ⟨rfl, (fun D X eD eX => by rw [← eX, zAft_D eD]; exact Or.inr (Or.inr (Or.inr (Or.inr (Or.inr ⟨by omega, rfl⟩)))))⟩)
  · have c_1r : x.toInt = 0 ∨ x.toInt = 1 ∨ x.toInt = 2 ∨ x.toInt = 3 ∨ x.toInt = 4 := by omega
    rcases c_1r with c_1 | c_1 | c_1 | c_1 | c_1
    · refine lv_tableIn (tgt := 36) hx hb dX1_toldAfter_1 (by first | (rw [c_1]; decide) | omega) (by first | (rw [c_1]; decide) | omega) (by rw [c_1]; rfl) (by decide) ?_
      refine lv_aload_n hx hb dX1_toldAfter_36 rfl (lv_at hl 0 rfl) ?_
      refine zEx1 hc ?_
      intro a1_2 hbs9
      clear hc
      subst hbs9
      have G : zS T A s.heap s [[zO1 h po a1_2 v0 la v1 v2 v3 v4 v5 v6 v7], [zAr T 0 a1_2 7 fw], wp, z] _ _ := G.re rfl
      refine z_get C G clX1 0 rfl 6 (by decide) m_fl_RX1_44 rfl dX1_toldAfter_37 ?_
      have hw_3 : bCourse T h po la fw v0 v1 v2 v3 v4 v5 v6 v7 [zO1 h po a1_2 v0 la v1 v2 v3 v4 v5 v6 v7, zAr T 0 a1_2 7 fw] := ⟨a1_2, rfl⟩
      have G : zS T A s.heap s [[zO1 h po a1_2 v0 la v1 v2 v3 v4 v5 v6 v7, zAr T 0 a1_2 7 fw], wp, z] _ _ := G.re rfl
      exact z_back hQz_ (z_iret C hr hlocks G (Nat.le_of_ble_eq_true rfl) (Nat.le_of_ble_eq_true rfl) dX1_toldAfter_40 ⟨rfl, (fun D X eD eX => by rw [← eX, zAft_D eD]; exact Or.inl ⟨by omega, rfl⟩)⟩)
    · refine lv_tableIn (tgt := 41) hx hb dX1_toldAfter_1 (by first | (rw [c_1]; decide) | omega) (by first | (rw [c_1]; decide) | omega) (by rw [c_1]; rfl) (by decide) ?_
      refine lv_aload_n hx hb dX1_toldAfter_41 rfl (lv_at hl 0 rfl) ?_
      refine zEx1 hc ?_
      intro a1_4 hbs9
      clear hc
      subst hbs9
      have G : zS T A s.heap s [[zO1 h po a1_4 v0 la v1 v2 v3 v4 v5 v6 v7], [zAr T 0 a1_4 7 fw], wp, z] _ _ := G.re rfl
      refine z_get C G clX1 0 rfl 7 (by decide) m_fl_RX1_47 rfl dX1_toldAfter_42 ?_
      have hw_5 : bCourse T h po la fw v0 v1 v2 v3 v4 v5 v6 v7 [zO1 h po a1_4 v0 la v1 v2 v3 v4 v5 v6 v7, zAr T 0 a1_4 7 fw] := ⟨a1_4, rfl⟩
      have G : zS T A s.heap s [[zO1 h po a1_4 v0 la v1 v2 v3 v4 v5 v6 v7, zAr T 0 a1_4 7 fw], wp, z] _ _ := G.re rfl
      exact z_back hQz_ (z_iret C hr hlocks G (Nat.le_of_ble_eq_true rfl) (Nat.le_of_ble_eq_true rfl) dX1_toldAfter_45 ⟨rfl, (fun D X eD eX => by rw [← eX, zAft_D eD]; exact Or.inr (Or.inl ⟨by omega, rfl⟩))⟩)
    · refine lv_tableIn (tgt := 46) hx hb dX1_toldAfter_1 (by first | (rw [c_1]; decide) | omega) (by first | (rw [c_1]; decide) | omega) (by rw [c_1]; rfl) (by decide) ?_
      refine lv_aload_n hx hb dX1_toldAfter_46 rfl (lv_at hl 0 rfl) ?_
      refine zEx1 hc ?_
      intro a1_6 hbs9
      clear hc
      subst hbs9
      have G : zS T A s.heap s [[zO1 h po a1_6 v0 la v1 v2 v3 v4 v5 v6 v7], [zAr T 0 a1_6 7 fw], wp, z] _ _ := G.re rfl
      refine z_get C G clX1 0 rfl 8 (by decide) m_fl_RX1_50 rfl dX1_toldAfter_47 ?_
      have hw_7 : bCourse T h po la fw v0 v1 v2 v3 v4 v5 v6 v7 [zO1 h po a1_6 v0 la v1 v2 v3 v4 v5 v6 v7, zAr T 0 a1_6 7 fw] := ⟨a1_6, rfl⟩
      have G : zS T A s.heap s [[zO1 h po a1_6 v0 la v1 v2 v3 v4 v5 v6 v7, zAr T 0 a1_6 7 fw], wp, z] _ _ := G.re rfl
      exact z_back hQz_ (z_iret C hr hlocks G (Nat.le_of_ble_eq_true rfl) (Nat.le_of_ble_eq_true rfl) dX1_toldAfter_50 ⟨rfl, (fun D X eD eX => by rw [← eX, zAft_D eD]; exact Or.inr (Or.inr (Or.inl ⟨by omega, rfl⟩)))⟩)
    · refine lv_tableIn (tgt := 51) hx hb dX1_toldAfter_1 (by first | (rw [c_1]; decide) | omega) (by first | (rw [c_1]; decide) | omega) (by rw [c_1]; rfl) (by decide) ?_
      refine lv_aload_n hx hb dX1_toldAfter_51 rfl (lv_at hl 0 rfl) ?_
      refine zEx1 hc ?_
      intro a1_8 hbs9
      clear hc
      subst hbs9
      have G : zS T A s.heap s [[zO1 h po a1_8 v0 la v1 v2 v3 v4 v5 v6 v7], [zAr T 0 a1_8 7 fw], wp, z] _ _ := G.re rfl
      refine z_get C G clX1 0 rfl 9 (by decide) m_fl_RX1_53 rfl dX1_toldAfter_52 ?_
      have hw_9 : bCourse T h po la fw v0 v1 v2 v3 v4 v5 v6 v7 [zO1 h po a1_8 v0 la v1 v2 v3 v4 v5 v6 v7, zAr T 0 a1_8 7 fw] := ⟨a1_8, rfl⟩
      have G : zS T A s.heap s [[zO1 h po a1_8 v0 la v1 v2 v3 v4 v5 v6 v7, zAr T 0 a1_8 7 fw], wp, z] _ _ := G.re rfl
      exact z_back hQz_ (z_iret C hr hlocks G (Nat.le_of_ble_eq_true rfl) (Nat.le_of_ble_eq_true rfl) dX1_toldAfter_55 ⟨rfl, (fun D X eD eX => by rw [← eX, zAft_D eD]; exact Or.inr (Or.inr (Or.inr (Or.inl ⟨by omega, rfl⟩))))⟩)
    · refine lv_tableIn (tgt := 56) hx hb dX1_toldAfter_1 (by first | (rw [c_1]; decide) | omega) (by first | (rw [c_1]; decide) | omega) (by rw [c_1]; rfl) (by decide) ?_
      refine lv_aload_n hx hb dX1_toldAfter_56 rfl (lv_at hl 0 rfl) ?_
      refine z_Vi (bc := [wc, wp, z]) (br := []) (As := []) (rest := []) C G (c_x_unlikeTold l T h po la fw v0 v1 v2 v3 v4 v5 v6 v7 wc f1 f2 f3 st wh wp cr inn k1 k2 k3 k4 z hc hp hz (by first | with_reducible assumption | with_reducible rfl | omega | assumption | rfl)) (kV_RX1_159 C.2.2.2.2 (Nat.le_of_ble_eq_true rfl) (Nat.le_of_ble_eq_true rfl)) [0, 1, 2] [0, 0, 0] rfl rfl (ci := 1) (qc := (RX1, TX1, 11)) rfl rfl (List.mem_flatten.mpr ⟨_, List.mem_of_getElem? (i := 0) rfl, (bCourse_mem hc).choose_spec⟩) rfl rfl hl.1 dX1_toldAfter_57 (Nat.le_of_ble_eq_true rfl) (Nat.le_of_ble_eq_true rfl) (fun r_11 b1 H locs hw G => ?_)
      refine zAn2 hw ?_
      intro hbs9 h_10
      clear hw
      subst hbs9
      have G : zS T A s.heap s [wc, wp, z] _ _ := G
      subst h_10
      exact z_back hQz_ (z_iret C hr hlocks G (Nat.le_of_ble_eq_true rfl) (Nat.le_of_ble_eq_true rfl) dX1_toldAfter_60 ⟨rfl, (fun D X eD eX => by rw [← eX, zAft_D eD]; exact Or.inr (Or.inr (Or.inr (Or.inr (Or.inl ⟨by omega, rfl⟩)))))⟩)
set_option maxHeartbeats 4000000 in
set_option maxRecDepth 100000 in
/-- c_f_after -/
theorem c_f_after (l : Launch) (T : zTy) (xo : Nat) (t : Nat) (im : Nat) (mk : Nat) (rd : Nat) (po : Nat) (co : Nat) (tr : Nat) (wa : Nat) (wb_ : Nat) (fi : Nat) (cd : Nat) (l0 : Nat) (l1 : Nat) (d0 : Nat) (d1 : Nat) (g0 : Nat) (g1 : Nat) (ln : Int32) (fl : Int32) (pl : Int32) (ft : Nat → Int32) (fk : Nat → Int32) (wt : va_W) (cr0_ : Int32) (inn0_ : Int32) (k10_ : Nat → Int32) (k20_ : Nat → Int32) (k30_ : Nat → Int32) (k40_ : Nat → Int32) (z0_ : va_W) (cr1_ : Int32) (inn1_ : Int32) (k11_ : Nat → Int32) (k21_ : Nat → Int32) (k31_ : Nat → Int32) (k41_ : Nat → Int32) (z1_ : va_W) (dd0_ : Int32) (p10_ : Nat → Int32) (p20_ : Nat → Int32) (p30_ : Nat → Int32) (wd0_ : va_W) (dd1_ : Int32) (p11_ : Nat → Int32) (p21_ : Nat → Int32) (p31_ : Nat → Int32) (wd1_ : va_W) (cpo : Nat) (cla : Nat) (cfw : Nat → Int32) (v0 : Int32) (v1 : Int32) (v2 : Int32) (v3 : Int32) (v4 : Int32) (v5 : Int32) (v6 : Int32) (v7 : Int32) (wc : va_W) (cpl : Nat) (cf1 : Nat → Int32) (cf2 : Nat → Int32) (cf3 : Nat → Int32) (cst : Int32) (cwh : Int32) (wcp : va_W) (i1 : Int32) (i2 : Int32) (w_ : Int32) (ht : bTold T t l0 l1 d0 d1 g0 g1 ln fl pl ft fk wt) (hK : zKT fk) (hz0_ : bLand T l0 cr0_ inn0_ k10_ k20_ k30_ k40_ z0_) (hI0_ : zLI cr0_ k10_ k30_) (hz1_ : bLand T l1 cr1_ inn1_ k11_ k21_ k31_ k41_ z1_) (hI1_ : zLI cr1_ k11_ k31_) (hd0_ : bDay T d0 dd0_ p10_ p20_ p30_ wd0_) (hd1_ : bDay T d1 dd1_ p11_ p21_ p31_ wd1_) (hc : bCourse T co cpo cla cfw v0 v1 v2 v3 v4 v5 v6 v7 wc) (hcp : bPosts T cpo cpl cf1 cf2 cf3 cst cwh wcp) (hLq0 : zLq cr0_ k10_ k20_) (hLq1 : zLq cr1_ k11_ k21_) : zMi l T yX11_after cX11_after 6 (some .int) 8 0 0 [.ref xo, .int i1, .int i2, .int w_] [[zO10 xo t im mk rd po co tr wa wb_ fi cd], wt, z0_, z1_, wd0_, wd1_, wc, wcp] (fun (r : Int32) bs => ∃ (cla_2 : Nat) (cfw_2 : Nat → Int32) (v0_2 : Int32) (v1_2 : Int32) (v2_2 : Int32) (v3_2 : Int32) (v4_2 : Int32) (v5_2 : Int32) (v6_2 : Int32) (v7_2 : Int32) (wc_2 : va_W) (cpl_2 : Nat) (cf1_2 : Nat → Int32) (cf2_2 : Nat → Int32) (cf3_2 : Nat → Int32) (cst_2 : Int32) (cwh_2 : Int32) (wcp_2 : va_W), bs = [[zO10 xo t im mk rd po co tr wa wb_ fi cd], wt, z0_, z1_, wd0_, wd1_, wc_2, wcp_2] ∧ bCourse T co cpo cla_2 cfw_2 v0_2 v1_2 v2_2 v3_2 v4_2 v5_2 v6_2 v7_2 wc_2 ∧ bPosts T cpo cpl_2 cf1_2 cf2_2 cf3_2 cst_2 cwh_2 wcp_2 ∧ (((i1.toInt < 0 ∨ (fk 0).toInt ≤ i1.toInt ∨ 2 ≤ i1.toInt) ∨ (i2.toInt < 0 ∨ (fk 1).toInt ≤ i2.toInt ∨ 2 ≤ i2.toInt)) ∧ r = -2 ∨ (i1.toInt = 0 ∧ 0 < (fk 0).toInt) ∧ (i2.toInt = 0 ∧ 0 < (fk 1).toInt) ∧ kAfter cr0_ inn0_ k10_ k20_ k30_ k40_ dd0_ p10_ p20_ p30_ w_ r ∨ (i1.toInt = 0 ∧ 0 < (fk 0).toInt) ∧ (i2.toInt = 1 ∧ 1 < (fk 1).toInt) ∧ kAfter cr0_ inn0_ k10_ k20_ k30_ k40_ dd1_ p11_ p21_ p31_ w_ r ∨ (i1.toInt = 1 ∧ 1 < (fk 0).toInt) ∧ (i2.toInt = 0 ∧ 0 < (fk 1).toInt) ∧ kAfter cr1_ inn1_ k11_ k21_ k31_ k41_ dd0_ p10_ p20_ p30_ w_ r ∨ (i1.toInt = 1 ∧ 1 < (fk 0).toInt) ∧ (i2.toInt = 1 ∧ 1 < (fk 1).toInt) ∧ kAfter cr1_ inn1_ k11_ k21_ k31_ k41_ dd1_ p11_ p21_ p31_ w_ r)) := by
  refine zMi_of (own := RX11) (by decide) rfl (Nat.le_of_ble_eq_true rfl) ?_
  intro p e s m args below meth c A ls C hr hlocks hnm hAe G hl
  refine zHide (fun Qz_ hQz_ => ?_)
  have hx := C.1
  have hb := C.2.1
  have hl : lv_has ls 6 [(0, .ref xo), (1, .int i1), (2, .int i2), (3, .int w_)] := hl
  refine lv_aload_n hx hb dX11_after_0 rfl (lv_at hl 0 rfl) ?_
  refine z_get C G clX11 0 rfl 0 (by decide) m_fl_RX11_10 rfl dX11_after_1 ?_
  refine lv_iload_n hx hb dX11_after_4 rfl (lv_at hl 1 rfl) ?_
  refine z_Vq (bc := [wt]) (br := [[zO10 xo t im mk rd po co tr wa wb_ fi cd], z0_, z1_, wd0_, wd1_, wc, wcp]) (As := [.int i1]) (rest := []) C G (c_landAt l T t l0 l1 d0 d1 g0 g1 ln fl pl ft fk wt i1 ht) (kV_RX11_121 C.2.2.2.2 (Nat.le_of_ble_eq_true rfl) (Nat.le_of_ble_eq_true rfl)) [1] [1] rfl rfl (ci := 8) (qc := (RX9, TX9, 8)) rfl rfl (List.mem_flatten.mpr ⟨_, List.mem_of_getElem? (i := 0) rfl, (bTold_mem ht).choose_spec⟩) rfl rfl hl.1 dX11_after_5 (Nat.le_of_ble_eq_true rfl) (Nat.le_of_ble_eq_true rfl) (fun r_2 b1 H locs hw G => ?_)
  refine zAn2 hw ?_
  intro hbs9 hc_1
  clear hw
  subst hbs9
  have G : zS T A s.heap s [[zO10 xo t im mk rd po co tr wa wb_ fi cd], z0_, z1_, wd0_, wd1_, wc, wcp, wt] _ _ := G
  rcases hc_1 with ⟨rfl, h_3⟩ | ⟨rfl, h_4, h_5⟩ | ⟨rfl, h_6, h_7⟩
  · have h_3 : (i1.toInt < 0 ∨ (fk 0).toInt ≤ i1.toInt ∨ 2 ≤ i1.toInt) := h_3
    refine lv_astoreN (lv' := [(4, .null), (0, .ref xo), (1, .int i1), (2, .int i2), (3, .int w_)]) hx hb dX11_after_8 hl (by decide) (zLvf_h rfl) (fun ls hl => ?_)
    refine lv_aload_n hx hb dX11_after_10 rfl (lv_at hl 1 rfl) ?_
    refine z_get C G clX11 0 rfl 0 (by decide) m_fl_RX11_10 rfl dX11_after_11 ?_
    refine lv_iload_n hx hb dX11_after_14 rfl (lv_at hl 3 rfl) ?_
    refine z_Vq (bc := [wt]) (br := [[zO10 xo t im mk rd po co tr wa wb_ fi cd], z0_, z1_, wd0_, wd1_, wc, wcp]) (As := [.int i2]) (rest := []) C G (c_dayAt l T t l0 l1 d0 d1 g0 g1 ln fl pl ft fk wt i2 ht) (kV_RX11_130 C.2.2.2.2 (Nat.le_of_ble_eq_true rfl) (Nat.le_of_ble_eq_true rfl)) [7] [7] rfl rfl (ci := 8) (qc := (RX9, TX9, 8)) rfl rfl (List.mem_flatten.mpr ⟨_, List.mem_of_getElem? (i := 0) rfl, (bTold_mem ht).choose_spec⟩) rfl rfl hl.1 dX11_after_15 (Nat.le_of_ble_eq_true rfl) (Nat.le_of_ble_eq_true rfl) (fun r_9 b1 H locs hw G => ?_)
    refine zAn2 hw ?_
    intro hbs9 hc_8
    clear hw
    subst hbs9
    have G : zS T A s.heap s [[zO10 xo t im mk rd po co tr wa wb_ fi cd], z0_, z1_, wd0_, wd1_, wc, wcp, wt] _ _ := G
    rcases hc_8 with ⟨rfl, h_10⟩ | ⟨rfl, h_11, h_12⟩ | ⟨rfl, h_13, h_14⟩
    · have h_10 : (i2.toInt < 0 ∨ (fk 1).toInt ≤ i2.toInt ∨ 2 ≤ i2.toInt) := h_10
      refine lv_astoreN (lv' := [(5, .null), (4, .null), (0, .ref xo), (1, .int i1), (2, .int i2), (3, .int w_)]) hx hb dX11_after_18 hl (by decide) (zLvf_h rfl) (fun ls hl => ?_)
      refine lv_aloadN hx hb dX11_after_20 (lv_at hl 1 rfl) ?_
      refine lv_ifnullN (tgt := 30) hx hb dX11_after_22 (by decide) ?_
      refine lv_bipush (v := (-2)) hx hb dX11_after_30 (by decide) ?_
      have G := G.sub (bs' := [[zO10 xo t im mk rd po co tr wa wb_ fi cd], wt, z0_, z1_, wd0_, wd1_, wc, wcp]) [0, 7, 1, 2, 3, 4, 5, 6] rfl
      exact z_back hQz_ (z_iret C hr hlocks G (Nat.le_of_ble_eq_true rfl) (Nat.le_of_ble_eq_true rfl) dX11_after_32 ⟨cla, cfw, v0, v1, v2, v3, v4, v5, v6, v7, wc, cpl, cf1, cf2, cf3, cst, cwh, wcp, rfl, hc, hcp, (Or.inl ⟨Or.inl (by first | with_reducible assumption | assumption), rfl⟩)⟩)
    · have h_11 : i2.toInt = 0 := h_11
      have h_12 : 0 < (fk 1).toInt := h_12
      refine lv_astore (lv' := [(5, .ref d0), (4, .null), (0, .ref xo), (1, .int i1), (2, .int i2), (3, .int w_)]) hx hb dX11_after_18 hl (by decide) (zLvf_h rfl) (fun ls hl => ?_)
      refine lv_aloadN hx hb dX11_after_20 (lv_at hl 1 rfl) ?_
      refine lv_ifnullN (tgt := 30) hx hb dX11_after_22 (by decide) ?_
      refine lv_bipush (v := (-2)) hx hb dX11_after_30 (by decide) ?_
      have G := G.sub (bs' := [[zO10 xo t im mk rd po co tr wa wb_ fi cd], wt, z0_, z1_, wd0_, wd1_, wc, wcp]) [0, 7, 1, 2, 3, 4, 5, 6] rfl
      exact z_back hQz_ (z_iret C hr hlocks G (Nat.le_of_ble_eq_true rfl) (Nat.le_of_ble_eq_true rfl) dX11_after_32 ⟨cla, cfw, v0, v1, v2, v3, v4, v5, v6, v7, wc, cpl, cf1, cf2, cf3, cst, cwh, wcp, rfl, hc, hcp, (Or.inl ⟨Or.inl (by first | with_reducible assumption | assumption), rfl⟩)⟩)
    · have h_13 : i2.toInt = 1 := h_13
      have h_14 : 1 < (fk 1).toInt := h_14
      refine lv_astore (lv' := [(5, .ref d1), (4, .null), (0, .ref xo), (1, .int i1), (2, .int i2), (3, .int w_)]) hx hb dX11_after_18 hl (by decide) (zLvf_h rfl) (fun ls hl => ?_)
      refine lv_aloadN hx hb dX11_after_20 (lv_at hl 1 rfl) ?_
      refine lv_ifnullN (tgt := 30) hx hb dX11_after_22 (by decide) ?_
      refine lv_bipush (v := (-2)) hx hb dX11_after_30 (by decide) ?_
      have G := G.sub (bs' := [[zO10 xo t im mk rd po co tr wa wb_ fi cd], wt, z0_, z1_, wd0_, wd1_, wc, wcp]) [0, 7, 1, 2, 3, 4, 5, 6] rfl
      exact z_back hQz_ (z_iret C hr hlocks G (Nat.le_of_ble_eq_true rfl) (Nat.le_of_ble_eq_true rfl) dX11_after_32 ⟨cla, cfw, v0, v1, v2, v3, v4, v5, v6, v7, wc, cpl, cf1, cf2, cf3, cst, cwh, wcp, rfl, hc, hcp, (Or.inl ⟨Or.inl (by first | with_reducible assumption | assumption), rfl⟩)⟩)
  · have h_4 : i1.toInt = 0 := h_4
    have h_5 : 0 < (fk 0).toInt := h_5
    refine lv_astore (lv' := [(4, .ref l0), (0, .ref xo), (1, .int i1), (2, .int i2), (3, .int w_)]) hx hb dX11_after_8 hl (by decide) (zLvf_h rfl) (fun ls hl => ?_)
    refine lv_aload_n hx hb dX11_after_10 rfl (lv_at hl 1 rfl) ?_
    refine z_get C G clX11 0 rfl 0 (by decide) m_fl_RX11_10 rfl dX11_after_11 ?_
    refine lv_iload_n hx hb dX11_after_14 rfl (lv_at hl 3 rfl) ?_
    refine z_Vq (bc := [wt]) (br := [[zO10 xo t im mk rd po co tr wa wb_ fi cd], z0_, z1_, wd0_, wd1_, wc, wcp]) (As := [.int i2]) (rest := []) C G (c_dayAt l T t l0 l1 d0 d1 g0 g1 ln fl pl ft fk wt i2 ht) (kV_RX11_130 C.2.2.2.2 (Nat.le_of_ble_eq_true rfl) (Nat.le_of_ble_eq_true rfl)) [7] [7] rfl rfl (ci := 8) (qc := (RX9, TX9, 8)) rfl rfl (List.mem_flatten.mpr ⟨_, List.mem_of_getElem? (i := 0) rfl, (bTold_mem ht).choose_spec⟩) rfl rfl hl.1 dX11_after_15 (Nat.le_of_ble_eq_true rfl) (Nat.le_of_ble_eq_true rfl) (fun r_16 b1 H locs hw G => ?_)
    refine zAn2 hw ?_
    intro hbs9 hc_15
    clear hw
    subst hbs9
    have G : zS T A s.heap s [[zO10 xo t im mk rd po co tr wa wb_ fi cd], z0_, z1_, wd0_, wd1_, wc, wcp, wt] _ _ := G
    rcases hc_15 with ⟨rfl, h_17⟩ | ⟨rfl, h_18, h_19⟩ | ⟨rfl, h_20, h_21⟩
    · have h_17 : (i2.toInt < 0 ∨ (fk 1).toInt ≤ i2.toInt ∨ 2 ≤ i2.toInt) := h_17
      refine lv_astoreN (lv' := [(5, .null), (4, .ref l0), (0, .ref xo), (1, .int i1), (2, .int i2), (3, .int w_)]) hx hb dX11_after_18 hl (by decide) (zLvf_h rfl) (fun ls hl => ?_)
      refine lv_aload hx hb dX11_after_20 (lv_at hl 1 rfl) ?_
      refine lv_ifnull hx hb dX11_after_22 ?_
      refine lv_aloadN hx hb dX11_after_25 (lv_at hl 0 rfl) ?_
      refine lv_ifnonnullN hx hb dX11_after_27 ?_
      refine lv_bipush (v := (-2)) hx hb dX11_after_30 (by decide) ?_
      have G := G.sub (bs' := [[zO10 xo t im mk rd po co tr wa wb_ fi cd], wt, z0_, z1_, wd0_, wd1_, wc, wcp]) [0, 7, 1, 2, 3, 4, 5, 6] rfl
      exact z_back hQz_ (z_iret C hr hlocks G (Nat.le_of_ble_eq_true rfl) (Nat.le_of_ble_eq_true rfl) dX11_after_32 ⟨cla, cfw, v0, v1, v2, v3, v4, v5, v6, v7, wc, cpl, cf1, cf2, cf3, cst, cwh, wcp, rfl, hc, hcp, (Or.inl ⟨Or.inr (by first | with_reducible assumption | assumption), rfl⟩)⟩)
    · have h_18 : i2.toInt = 0 := h_18
      have h_19 : 0 < (fk 1).toInt := h_19
      refine lv_astore (lv' := [(5, .ref d0), (4, .ref l0), (0, .ref xo), (1, .int i1), (2, .int i2), (3, .int w_)]) hx hb dX11_after_18 hl (by decide) (zLvf_h rfl) (fun ls hl => ?_)
      refine lv_aload hx hb dX11_after_20 (lv_at hl 1 rfl) ?_
      refine lv_ifnull hx hb dX11_after_22 ?_
      refine lv_aload hx hb dX11_after_25 (lv_at hl 0 rfl) ?_
      refine lv_ifnonnull (tgt := 33) hx hb dX11_after_27 (by decide) ?_
      refine lv_aload_n hx hb dX11_after_33 rfl (lv_at hl 2 rfl) ?_
      refine z_get C G clX11 0 rfl 5 (by decide) m_fl_RX11_41 rfl dX11_after_34 ?_
      refine lv_aload hx hb dX11_after_37 (lv_at hl 1 rfl) ?_
      refine lv_aload hx hb dX11_after_39 (lv_at hl 0 rfl) ?_
      refine lv_bipush (v := 40) hx hb dX11_after_41 (by decide) ?_
      refine z_Vi (bc := [wc, wcp, z0_, wd0_]) (br := [[zO10 xo t im mk rd po co tr wa wb_ fi cd], z1_, wd1_, wt]) (As := [.ref l0, .ref d0, .int 40]) (rest := []) C G (c_x_goThrough l T co cpo cla cfw v0 v1 v2 v3 v4 v5 v6 v7 wc cpl cf1 cf2 cf3 cst cwh wcp l0 cr0_ inn0_ k10_ k20_ k30_ k40_ z0_ d0 dd0_ p10_ p20_ p30_ wd0_ 40 hc hcp hz0_ (by first | with_reducible assumption | with_reducible rfl | omega | assumption | rfl) hd0_ hLq0) (kV_RX11_145 C.2.2.2.2 (Nat.le_of_ble_eq_true rfl) (Nat.le_of_ble_eq_true rfl)) [5, 6, 1, 3] [1, 1, 1, 0] rfl rfl (ci := 1) (qc := (RX1, TX1, 11)) rfl rfl (List.mem_flatten.mpr ⟨_, List.mem_of_getElem? (i := 0) rfl, (bCourse_mem hc).choose_spec⟩) rfl rfl hl.1 dX11_after_43 (Nat.le_of_ble_eq_true rfl) (Nat.le_of_ble_eq_true rfl) (fun r_42 b1 H locs hw G => ?_)
      refine zEx16 hw ?_
      intro wc2_22 gw_23 u0_24 u1_25 u2_26 u3_27 u4_28 u5_29 u6_30 u7_31 wp2_32 g1_33 g2_34 g3_35 sa_36 wa_37
      refine zCu5 ?_
      intro hbs9 h_38 h_39 h_40 h_41
      clear hw
      subst hbs9
      have G : zS T A s.heap s [[zO10 xo t im mk rd po co tr wa wb_ fi cd], z1_, wd1_, wt, wc2_22, wp2_32, z0_, wd0_] _ _ := G
      obtain ⟨P0_, S0_, W0_, H0_, hst, hdd, hxx9⟩ := h_41
      refine lv_pop hx hb dX11_after_46 rfl ?_
      refine lv_aload_n hx hb dX11_after_47 rfl (lv_at hl 2 rfl) ?_
      refine z_get C G clX11 0 rfl 5 (by decide) m_fl_RX11_41 rfl dX11_after_48 ?_
      refine lv_iload_n hx hb dX11_after_51 rfl (lv_at hl 5 rfl) ?_
      refine z_Vi (bc := [wc2_22, wp2_32, z0_]) (br := [[zO10 xo t im mk rd po co tr wa wb_ fi cd], z1_, wd1_, wt, wd0_]) (As := [.int w_]) (rest := []) C G (c_x_toldAfter l T co cpo l0 gw_23 u0_24 u1_25 u2_26 u3_27 u4_28 u5_29 u6_30 u7_31 wc2_22 g1_33 g2_34 g3_35 sa_36 wa_37 wp2_32 cr0_ inn0_ k10_ k20_ k30_ k40_ z0_ w_ h_38 h_39 hz0_ (by first | with_reducible assumption | with_reducible rfl | omega | assumption | rfl)) (kV_RX11_153 C.2.2.2.2 (Nat.le_of_ble_eq_true rfl) (Nat.le_of_ble_eq_true rfl)) [4, 5, 6] [4, 0, 0] rfl rfl (ci := 1) (qc := (RX1, TX1, 11)) rfl rfl (List.mem_flatten.mpr ⟨_, List.mem_of_getElem? (i := 0) rfl, (bCourse_mem h_38).choose_spec⟩) rfl rfl hl.1 dX11_after_52 (Nat.le_of_ble_eq_true rfl) (Nat.le_of_ble_eq_true rfl) (fun r_44 b1 H locs hw G => ?_)
      refine zAn2 hw ?_
      intro hbs9 h_43
      clear hw
      subst hbs9
      have G : zS T A s.heap s [[zO10 xo t im mk rd po co tr wa wb_ fi cd], z1_, wd1_, wt, wd0_, wc2_22, wp2_32, z0_] _ _ := G
      have G := G.sub (bs' := [[zO10 xo t im mk rd po co tr wa wb_ fi cd], wt, z0_, z1_, wd0_, wd1_, wc2_22, wp2_32]) [0, 3, 7, 1, 4, 2, 5, 6] rfl
      exact z_back hQz_ (z_iret C hr hlocks G (Nat.le_of_ble_eq_true rfl) (Nat.le_of_ble_eq_true rfl) dX11_after_55 ⟨l0, gw_23, u0_24, u1_25, u2_26, u3_27, u4_28, u5_29, u6_30, u7_31, wc2_22, l0, g1_33, g2_34, g3_35, sa_36, wa_37, wp2_32, rfl, h_38, h_39, (Or.inr (Or.inl ⟨⟨by first | with_reducible assumption | assumption, by first | with_reducible assumption | assumption⟩, ⟨by first | with_reducible assumption | assumption, by first | with_reducible assumption | assumption⟩, ⟨P0_, S0_, W0_, H0_, hst, h_43 _ _ (congrArg (fun q => q.1) hdd).symm hxx9⟩⟩))⟩)
    · have h_20 : i2.toInt = 1 := h_20
      have h_21 : 1 < (fk 1).toInt := h_21
      refine lv_astore (lv' := [(5, .ref d1), (4, .ref l0), (0, .ref xo), (1, .int i1), (2, .int i2), (3, .int w_)]) hx hb dX11_after_18 hl (by decide) (zLvf_h rfl) (fun ls hl => ?_)
      refine lv_aload hx hb dX11_after_20 (lv_at hl 1 rfl) ?_
      refine lv_ifnull hx hb dX11_after_22 ?_
      refine lv_aload hx hb dX11_after_25 (lv_at hl 0 rfl) ?_
      refine lv_ifnonnull (tgt := 33) hx hb dX11_after_27 (by decide) ?_
      refine lv_aload_n hx hb dX11_after_33 rfl (lv_at hl 2 rfl) ?_
      refine z_get C G clX11 0 rfl 5 (by decide) m_fl_RX11_41 rfl dX11_after_34 ?_
      refine lv_aload hx hb dX11_after_37 (lv_at hl 1 rfl) ?_
      refine lv_aload hx hb dX11_after_39 (lv_at hl 0 rfl) ?_
      refine lv_bipush (v := 40) hx hb dX11_after_41 (by decide) ?_
      refine z_Vi (bc := [wc, wcp, z0_, wd1_]) (br := [[zO10 xo t im mk rd po co tr wa wb_ fi cd], z1_, wd0_, wt]) (As := [.ref l0, .ref d1, .int 40]) (rest := []) C G (c_x_goThrough l T co cpo cla cfw v0 v1 v2 v3 v4 v5 v6 v7 wc cpl cf1 cf2 cf3 cst cwh wcp l0 cr0_ inn0_ k10_ k20_ k30_ k40_ z0_ d1 dd1_ p11_ p21_ p31_ wd1_ 40 hc hcp hz0_ (by first | with_reducible assumption | with_reducible rfl | omega | assumption | rfl) hd1_ hLq0) (kV_RX11_145 C.2.2.2.2 (Nat.le_of_ble_eq_true rfl) (Nat.le_of_ble_eq_true rfl)) [5, 6, 1, 4] [1, 2, 0, 0] rfl rfl (ci := 1) (qc := (RX1, TX1, 11)) rfl rfl (List.mem_flatten.mpr ⟨_, List.mem_of_getElem? (i := 0) rfl, (bCourse_mem hc).choose_spec⟩) rfl rfl hl.1 dX11_after_43 (Nat.le_of_ble_eq_true rfl) (Nat.le_of_ble_eq_true rfl) (fun r_65 b1 H locs hw G => ?_)
      refine zEx16 hw ?_
      intro wc2_45 gw_46 u0_47 u1_48 u2_49 u3_50 u4_51 u5_52 u6_53 u7_54 wp2_55 g1_56 g2_57 g3_58 sa_59 wa_60
      refine zCu5 ?_
      intro hbs9 h_61 h_62 h_63 h_64
      clear hw
      subst hbs9
      have G : zS T A s.heap s [[zO10 xo t im mk rd po co tr wa wb_ fi cd], z1_, wd0_, wt, wc2_45, wp2_55, z0_, wd1_] _ _ := G
      obtain ⟨P0_, S0_, W0_, H0_, hst, hdd, hxx9⟩ := h_64
      refine lv_pop hx hb dX11_after_46 rfl ?_
      refine lv_aload_n hx hb dX11_after_47 rfl (lv_at hl 2 rfl) ?_
      refine z_get C G clX11 0 rfl 5 (by decide) m_fl_RX11_41 rfl dX11_after_48 ?_
      refine lv_iload_n hx hb dX11_after_51 rfl (lv_at hl 5 rfl) ?_
      refine z_Vi (bc := [wc2_45, wp2_55, z0_]) (br := [[zO10 xo t im mk rd po co tr wa wb_ fi cd], z1_, wd0_, wt, wd1_]) (As := [.int w_]) (rest := []) C G (c_x_toldAfter l T co cpo l0 gw_46 u0_47 u1_48 u2_49 u3_50 u4_51 u5_52 u6_53 u7_54 wc2_45 g1_56 g2_57 g3_58 sa_59 wa_60 wp2_55 cr0_ inn0_ k10_ k20_ k30_ k40_ z0_ w_ h_61 h_62 hz0_ (by first | with_reducible assumption | with_reducible rfl | omega | assumption | rfl)) (kV_RX11_153 C.2.2.2.2 (Nat.le_of_ble_eq_true rfl) (Nat.le_of_ble_eq_true rfl)) [4, 5, 6] [4, 0, 0] rfl rfl (ci := 1) (qc := (RX1, TX1, 11)) rfl rfl (List.mem_flatten.mpr ⟨_, List.mem_of_getElem? (i := 0) rfl, (bCourse_mem h_61).choose_spec⟩) rfl rfl hl.1 dX11_after_52 (Nat.le_of_ble_eq_true rfl) (Nat.le_of_ble_eq_true rfl) (fun r_67 b1 H locs hw G => ?_)
      refine zAn2 hw ?_
      intro hbs9 h_66
      clear hw
      subst hbs9
      have G : zS T A s.heap s [[zO10 xo t im mk rd po co tr wa wb_ fi cd], z1_, wd0_, wt, wd1_, wc2_45, wp2_55, z0_] _ _ := G
      have G := G.sub (bs' := [[zO10 xo t im mk rd po co tr wa wb_ fi cd], wt, z0_, z1_, wd0_, wd1_, wc2_45, wp2_55]) [0, 3, 7, 1, 2, 4, 5, 6] rfl
      exact z_back hQz_ (z_iret C hr hlocks G (Nat.le_of_ble_eq_true rfl) (Nat.le_of_ble_eq_true rfl) dX11_after_55 ⟨l0, gw_46, u0_47, u1_48, u2_49, u3_50, u4_51, u5_52, u6_53, u7_54, wc2_45, l0, g1_56, g2_57, g3_58, sa_59, wa_60, wp2_55, rfl, h_61, h_62, (Or.inr (Or.inr (Or.inl ⟨⟨by first | with_reducible assumption | assumption, by first | with_reducible assumption | assumption⟩, ⟨by first | with_reducible assumption | assumption, by first | with_reducible assumption | assumption⟩, ⟨P0_, S0_, W0_, H0_, hst, h_66 _ _ (congrArg (fun q => q.1) hdd).symm hxx9⟩⟩)))⟩)
  · have h_6 : i1.toInt = 1 := h_6
    have h_7 : 1 < (fk 0).toInt := h_7
    refine lv_astore (lv' := [(4, .ref l1), (0, .ref xo), (1, .int i1), (2, .int i2), (3, .int w_)]) hx hb dX11_after_8 hl (by decide) (zLvf_h rfl) (fun ls hl => ?_)
    refine lv_aload_n hx hb dX11_after_10 rfl (lv_at hl 1 rfl) ?_
    refine z_get C G clX11 0 rfl 0 (by decide) m_fl_RX11_10 rfl dX11_after_11 ?_
    refine lv_iload_n hx hb dX11_after_14 rfl (lv_at hl 3 rfl) ?_
    refine z_Vq (bc := [wt]) (br := [[zO10 xo t im mk rd po co tr wa wb_ fi cd], z0_, z1_, wd0_, wd1_, wc, wcp]) (As := [.int i2]) (rest := []) C G (c_dayAt l T t l0 l1 d0 d1 g0 g1 ln fl pl ft fk wt i2 ht) (kV_RX11_130 C.2.2.2.2 (Nat.le_of_ble_eq_true rfl) (Nat.le_of_ble_eq_true rfl)) [7] [7] rfl rfl (ci := 8) (qc := (RX9, TX9, 8)) rfl rfl (List.mem_flatten.mpr ⟨_, List.mem_of_getElem? (i := 0) rfl, (bTold_mem ht).choose_spec⟩) rfl rfl hl.1 dX11_after_15 (Nat.le_of_ble_eq_true rfl) (Nat.le_of_ble_eq_true rfl) (fun r_69 b1 H locs hw G => ?_)
    refine zAn2 hw ?_
    intro hbs9 hc_68
    clear hw
    subst hbs9
    have G : zS T A s.heap s [[zO10 xo t im mk rd po co tr wa wb_ fi cd], z0_, z1_, wd0_, wd1_, wc, wcp, wt] _ _ := G
    rcases hc_68 with ⟨rfl, h_70⟩ | ⟨rfl, h_71, h_72⟩ | ⟨rfl, h_73, h_74⟩
    · have h_70 : (i2.toInt < 0 ∨ (fk 1).toInt ≤ i2.toInt ∨ 2 ≤ i2.toInt) := h_70
      refine lv_astoreN (lv' := [(5, .null), (4, .ref l1), (0, .ref xo), (1, .int i1), (2, .int i2), (3, .int w_)]) hx hb dX11_after_18 hl (by decide) (zLvf_h rfl) (fun ls hl => ?_)
      refine lv_aload hx hb dX11_after_20 (lv_at hl 1 rfl) ?_
      refine lv_ifnull hx hb dX11_after_22 ?_
      refine lv_aloadN hx hb dX11_after_25 (lv_at hl 0 rfl) ?_
      refine lv_ifnonnullN hx hb dX11_after_27 ?_
      refine lv_bipush (v := (-2)) hx hb dX11_after_30 (by decide) ?_
      have G := G.sub (bs' := [[zO10 xo t im mk rd po co tr wa wb_ fi cd], wt, z0_, z1_, wd0_, wd1_, wc, wcp]) [0, 7, 1, 2, 3, 4, 5, 6] rfl
      exact z_back hQz_ (z_iret C hr hlocks G (Nat.le_of_ble_eq_true rfl) (Nat.le_of_ble_eq_true rfl) dX11_after_32 ⟨cla, cfw, v0, v1, v2, v3, v4, v5, v6, v7, wc, cpl, cf1, cf2, cf3, cst, cwh, wcp, rfl, hc, hcp, (Or.inl ⟨Or.inr (by first | with_reducible assumption | assumption), rfl⟩)⟩)
    · have h_71 : i2.toInt = 0 := h_71
      have h_72 : 0 < (fk 1).toInt := h_72
      refine lv_astore (lv' := [(5, .ref d0), (4, .ref l1), (0, .ref xo), (1, .int i1), (2, .int i2), (3, .int w_)]) hx hb dX11_after_18 hl (by decide) (zLvf_h rfl) (fun ls hl => ?_)
      refine lv_aload hx hb dX11_after_20 (lv_at hl 1 rfl) ?_
      refine lv_ifnull hx hb dX11_after_22 ?_
      refine lv_aload hx hb dX11_after_25 (lv_at hl 0 rfl) ?_
      refine lv_ifnonnull (tgt := 33) hx hb dX11_after_27 (by decide) ?_
      refine lv_aload_n hx hb dX11_after_33 rfl (lv_at hl 2 rfl) ?_
      refine z_get C G clX11 0 rfl 5 (by decide) m_fl_RX11_41 rfl dX11_after_34 ?_
      refine lv_aload hx hb dX11_after_37 (lv_at hl 1 rfl) ?_
      refine lv_aload hx hb dX11_after_39 (lv_at hl 0 rfl) ?_
      refine lv_bipush (v := 40) hx hb dX11_after_41 (by decide) ?_
      refine z_Vi (bc := [wc, wcp, z1_, wd0_]) (br := [[zO10 xo t im mk rd po co tr wa wb_ fi cd], z0_, wd1_, wt]) (As := [.ref l1, .ref d0, .int 40]) (rest := []) C G (c_x_goThrough l T co cpo cla cfw v0 v1 v2 v3 v4 v5 v6 v7 wc cpl cf1 cf2 cf3 cst cwh wcp l1 cr1_ inn1_ k11_ k21_ k31_ k41_ z1_ d0 dd0_ p10_ p20_ p30_ wd0_ 40 hc hcp hz1_ (by first | with_reducible assumption | with_reducible rfl | omega | assumption | rfl) hd0_ hLq1) (kV_RX11_145 C.2.2.2.2 (Nat.le_of_ble_eq_true rfl) (Nat.le_of_ble_eq_true rfl)) [5, 6, 2, 3] [2, 0, 1, 0] rfl rfl (ci := 1) (qc := (RX1, TX1, 11)) rfl rfl (List.mem_flatten.mpr ⟨_, List.mem_of_getElem? (i := 0) rfl, (bCourse_mem hc).choose_spec⟩) rfl rfl hl.1 dX11_after_43 (Nat.le_of_ble_eq_true rfl) (Nat.le_of_ble_eq_true rfl) (fun r_95 b1 H locs hw G => ?_)
      refine zEx16 hw ?_
      intro wc2_75 gw_76 u0_77 u1_78 u2_79 u3_80 u4_81 u5_82 u6_83 u7_84 wp2_85 g1_86 g2_87 g3_88 sa_89 wa_90
      refine zCu5 ?_
      intro hbs9 h_91 h_92 h_93 h_94
      clear hw
      subst hbs9
      have G : zS T A s.heap s [[zO10 xo t im mk rd po co tr wa wb_ fi cd], z0_, wd1_, wt, wc2_75, wp2_85, z1_, wd0_] _ _ := G
      obtain ⟨P0_, S0_, W0_, H0_, hst, hdd, hxx9⟩ := h_94
      refine lv_pop hx hb dX11_after_46 rfl ?_
      refine lv_aload_n hx hb dX11_after_47 rfl (lv_at hl 2 rfl) ?_
      refine z_get C G clX11 0 rfl 5 (by decide) m_fl_RX11_41 rfl dX11_after_48 ?_
      refine lv_iload_n hx hb dX11_after_51 rfl (lv_at hl 5 rfl) ?_
      refine z_Vi (bc := [wc2_75, wp2_85, z1_]) (br := [[zO10 xo t im mk rd po co tr wa wb_ fi cd], z0_, wd1_, wt, wd0_]) (As := [.int w_]) (rest := []) C G (c_x_toldAfter l T co cpo l1 gw_76 u0_77 u1_78 u2_79 u3_80 u4_81 u5_82 u6_83 u7_84 wc2_75 g1_86 g2_87 g3_88 sa_89 wa_90 wp2_85 cr1_ inn1_ k11_ k21_ k31_ k41_ z1_ w_ h_91 h_92 hz1_ (by first | with_reducible assumption | with_reducible rfl | omega | assumption | rfl)) (kV_RX11_153 C.2.2.2.2 (Nat.le_of_ble_eq_true rfl) (Nat.le_of_ble_eq_true rfl)) [4, 5, 6] [4, 0, 0] rfl rfl (ci := 1) (qc := (RX1, TX1, 11)) rfl rfl (List.mem_flatten.mpr ⟨_, List.mem_of_getElem? (i := 0) rfl, (bCourse_mem h_91).choose_spec⟩) rfl rfl hl.1 dX11_after_52 (Nat.le_of_ble_eq_true rfl) (Nat.le_of_ble_eq_true rfl) (fun r_97 b1 H locs hw G => ?_)
      refine zAn2 hw ?_
      intro hbs9 h_96
      clear hw
      subst hbs9
      have G : zS T A s.heap s [[zO10 xo t im mk rd po co tr wa wb_ fi cd], z0_, wd1_, wt, wd0_, wc2_75, wp2_85, z1_] _ _ := G
      have G := G.sub (bs' := [[zO10 xo t im mk rd po co tr wa wb_ fi cd], wt, z0_, z1_, wd0_, wd1_, wc2_75, wp2_85]) [0, 3, 1, 7, 4, 2, 5, 6] rfl
      exact z_back hQz_ (z_iret C hr hlocks G (Nat.le_of_ble_eq_true rfl) (Nat.le_of_ble_eq_true rfl) dX11_after_55 ⟨l1, gw_76, u0_77, u1_78, u2_79, u3_80, u4_81, u5_82, u6_83, u7_84, wc2_75, l1, g1_86, g2_87, g3_88, sa_89, wa_90, wp2_85, rfl, h_91, h_92, (Or.inr (Or.inr (Or.inr (Or.inl ⟨⟨by first | with_reducible assumption | assumption, by first | with_reducible assumption | assumption⟩, ⟨by first | with_reducible assumption | assumption, by first | with_reducible assumption | assumption⟩, ⟨P0_, S0_, W0_, H0_, hst, h_96 _ _ (congrArg (fun q => q.1) hdd).symm hxx9⟩⟩))))⟩)
    · have h_73 : i2.toInt = 1 := h_73
      have h_74 : 1 < (fk 1).toInt := h_74
      refine lv_astore (lv' := [(5, .ref d1), (4, .ref l1), (0, .ref xo), (1, .int i1), (2, .int i2), (3, .int w_)]) hx hb dX11_after_18 hl (by decide) (zLvf_h rfl) (fun ls hl => ?_)
      refine lv_aload hx hb dX11_after_20 (lv_at hl 1 rfl) ?_
      refine lv_ifnull hx hb dX11_after_22 ?_
      refine lv_aload hx hb dX11_after_25 (lv_at hl 0 rfl) ?_
      refine lv_ifnonnull (tgt := 33) hx hb dX11_after_27 (by decide) ?_
      refine lv_aload_n hx hb dX11_after_33 rfl (lv_at hl 2 rfl) ?_
      refine z_get C G clX11 0 rfl 5 (by decide) m_fl_RX11_41 rfl dX11_after_34 ?_
      refine lv_aload hx hb dX11_after_37 (lv_at hl 1 rfl) ?_
      refine lv_aload hx hb dX11_after_39 (lv_at hl 0 rfl) ?_
      refine lv_bipush (v := 40) hx hb dX11_after_41 (by decide) ?_
      refine z_Vi (bc := [wc, wcp, z1_, wd1_]) (br := [[zO10 xo t im mk rd po co tr wa wb_ fi cd], z0_, wd0_, wt]) (As := [.ref l1, .ref d1, .int 40]) (rest := []) C G (c_x_goThrough l T co cpo cla cfw v0 v1 v2 v3 v4 v5 v6 v7 wc cpl cf1 cf2 cf3 cst cwh wcp l1 cr1_ inn1_ k11_ k21_ k31_ k41_ z1_ d1 dd1_ p11_ p21_ p31_ wd1_ 40 hc hcp hz1_ (by first | with_reducible assumption | with_reducible rfl | omega | assumption | rfl) hd1_ hLq1) (kV_RX11_145 C.2.2.2.2 (Nat.le_of_ble_eq_true rfl) (Nat.le_of_ble_eq_true rfl)) [5, 6, 2, 4] [2, 1, 0, 0] rfl rfl (ci := 1) (qc := (RX1, TX1, 11)) rfl rfl (List.mem_flatten.mpr ⟨_, List.mem_of_getElem? (i := 0) rfl, (bCourse_mem hc).choose_spec⟩) rfl rfl hl.1 dX11_after_43 (Nat.le_of_ble_eq_true rfl) (Nat.le_of_ble_eq_true rfl) (fun r_118 b1 H locs hw G => ?_)
      refine zEx16 hw ?_
      intro wc2_98 gw_99 u0_100 u1_101 u2_102 u3_103 u4_104 u5_105 u6_106 u7_107 wp2_108 g1_109 g2_110 g3_111 sa_112 wa_113
      refine zCu5 ?_
      intro hbs9 h_114 h_115 h_116 h_117
      clear hw
      subst hbs9
      have G : zS T A s.heap s [[zO10 xo t im mk rd po co tr wa wb_ fi cd], z0_, wd0_, wt, wc2_98, wp2_108, z1_, wd1_] _ _ := G
      obtain ⟨P0_, S0_, W0_, H0_, hst, hdd, hxx9⟩ := h_117
      refine lv_pop hx hb dX11_after_46 rfl ?_
      refine lv_aload_n hx hb dX11_after_47 rfl (lv_at hl 2 rfl) ?_
      refine z_get C G clX11 0 rfl 5 (by decide) m_fl_RX11_41 rfl dX11_after_48 ?_
      refine lv_iload_n hx hb dX11_after_51 rfl (lv_at hl 5 rfl) ?_
      refine z_Vi (bc := [wc2_98, wp2_108, z1_]) (br := [[zO10 xo t im mk rd po co tr wa wb_ fi cd], z0_, wd0_, wt, wd1_]) (As := [.int w_]) (rest := []) C G (c_x_toldAfter l T co cpo l1 gw_99 u0_100 u1_101 u2_102 u3_103 u4_104 u5_105 u6_106 u7_107 wc2_98 g1_109 g2_110 g3_111 sa_112 wa_113 wp2_108 cr1_ inn1_ k11_ k21_ k31_ k41_ z1_ w_ h_114 h_115 hz1_ (by first | with_reducible assumption | with_reducible rfl | omega | assumption | rfl)) (kV_RX11_153 C.2.2.2.2 (Nat.le_of_ble_eq_true rfl) (Nat.le_of_ble_eq_true rfl)) [4, 5, 6] [4, 0, 0] rfl rfl (ci := 1) (qc := (RX1, TX1, 11)) rfl rfl (List.mem_flatten.mpr ⟨_, List.mem_of_getElem? (i := 0) rfl, (bCourse_mem h_114).choose_spec⟩) rfl rfl hl.1 dX11_after_52 (Nat.le_of_ble_eq_true rfl) (Nat.le_of_ble_eq_true rfl) (fun r_120 b1 H locs hw G => ?_)
      refine zAn2 hw ?_
      intro hbs9 h_119
      clear hw
      subst hbs9
      have G : zS T A s.heap s [[zO10 xo t im mk rd po co tr wa wb_ fi cd], z0_, wd0_, wt, wd1_, wc2_98, wp2_108, z1_] _ _ := G
      have G := G.sub (bs' := [[zO10 xo t im mk rd po co tr wa wb_ fi cd], wt, z0_, z1_, wd0_, wd1_, wc2_98, wp2_108]) [0, 3, 1, 7, 2, 4, 5, 6] rfl
      exact z_back hQz_ (z_iret C hr hlocks G (Nat.le_of_ble_eq_true rfl) (Nat.le_of_ble_eq_true rfl) dX11_after_55 ⟨l1, gw_99, u0_100, u1_101, u2_102, u3_103, u4_104, u5_105, u6_106, u7_107, wc2_98, l1, g1_109, g2_110, g3_111, sa_112, wa_113, wp2_108, rfl, h_114, h_115, (Or.inr (Or.inr (Or.inr (Or.inr (⟨⟨by first | with_reducible assumption | assumption, by first | with_reducible assumption | assumption⟩, ⟨by first | with_reducible assumption | assumption, by first | with_reducible assumption | assumption⟩, ⟨P0_, S0_, W0_, H0_, hst, h_119 _ _ (congrArg (fun q => q.1) hdd).symm hxx9⟩⟩)))))⟩)
set_option maxHeartbeats 4000000 in
set_option maxRecDepth 100000 in
/-- c_x_goesFrom -/
theorem c_x_goesFrom (l : Launch) (T : zTy) (mo : Nat) (m_all : Nat) (m_has : Nat) (i_size : Int32) (i_next : Int32) (i_where : Int32) (i_token : Int32) (i_number : Int32) (i_word : Int32) (i_wrong : Int32) (i_farCrossing : Int32) (m_read : Nat) (i_z0 : Int32) (i_crossings : Int32) (i_inns : Int32) (m_posts : Nat) (m_shut : Nat) (m_here : Nat) (i_steps : Int32) (i_done : Int32) (i_at : Int32) (i_gone : Int32) (m_was : Nat) (m_came : Nat) (m_seenAt : Nat) (m_rowWorth : Nat) (m_farBy : Nat) (m_used : Nat) (i_everywhere : Int32) (i_again0 : Int32) (i_d0 : Int32) (i_never : Int32) (i_firstCame : Int32) (i_longRun : Int32) (i_moved : Int32) (i_crowd : Int32) (i_l0 : Int32) (i_fitMany : Int32) (i_fitLeast : Int32) (i_fitMost : Int32) (m_fitPost : Nat) (m_fitEnd : Nat) (m_keptPosts : Nat) (i_x0 : Int32) (f_here : Nat → Int32) (c_ : Int32) (hc0 : 0 ≤ c_.toInt) (hc6 : c_.toInt ≤ 6) (ha0 : 0 ≤ i_at.toInt) (ha6 : i_at.toInt ≤ 6) : zMv l T yX12_goesFrom cX12_goesFrom 2 2 0 0 [.ref mo, .int c_] [[zO11 mo m_all m_has i_size i_next i_where i_token i_number i_word i_wrong i_farCrossing m_read i_z0 i_crossings i_inns m_posts m_shut m_here i_steps i_done i_at i_gone m_was m_came m_seenAt m_rowWorth m_farBy m_used i_everywhere i_again0 i_d0 i_never i_firstCame i_longRun i_moved i_crowd i_l0 i_fitMany i_fitLeast i_fitMost m_fitPost m_fitEnd m_keptPosts i_x0], [zAr T 0 m_here 7 f_here]] (fun bs => ∃ (j_steps : Int32) (j_moved : Int32) (j_firstCame : Int32) (g_here : Nat → Int32), bs = [[zO11 mo m_all m_has i_size i_next i_where i_token i_number i_word i_wrong i_farCrossing m_read i_z0 i_crossings i_inns m_posts m_shut m_here j_steps i_done i_at i_gone m_was m_came m_seenAt m_rowWorth m_farBy m_used i_everywhere i_again0 i_d0 i_never j_firstCame i_longRun j_moved i_crowd i_l0 i_fitMany i_fitLeast i_fitMost m_fitPost m_fitEnd m_keptPosts i_x0], [zAr T 0 m_here 7 g_here]] ∧ g_here = zMvH f_here c_ i_at ∧ j_steps = i_steps + i_gone ∧ j_moved = (if i_at = c_ then i_moved else i_moved + 1) ∧ j_firstCame = (if i_firstCame.toInt = -1 ∧ 0 < i_gone.toInt ∧ zBit i_inns i_at = 1 then i_done else i_firstCame)) := by
  refine zMv_of (own := RX12) (by decide) rfl (Nat.le_of_ble_eq_true rfl) ?_
  intro p e s m args below meth c A ls C hr hlocks hnm hAe G hl
  refine zHide (fun Qz_ hQz_ => ?_)
  have hx := C.1
  have hb := C.2.1
  have hl : lv_has ls 2 [(0, .ref mo), (1, .int c_)] := hl
  refine lv_aload_n hx hb dX12_goesFrom_0 rfl (lv_at hl 0 rfl) ?_
  refine z_get C G clX12 0 rfl 16 (by decide) m_fl_RX12_26 rfl dX12_goesFrom_1 ?_
  refine lv_iload_n hx hb dX12_goesFrom_4 rfl (lv_at hl 1 rfl) ?_
  refine lv_dup2_11 hx hb dX12_goesFrom_5 rfl rfl ?_
  refine z_ild C G 1 rfl (vp_in_iff.mpr ⟨by omega, by omega⟩) dX12_goesFrom_6 ?_
  refine lv_topi (fun v_1 ev_1 => ?_)
  subst ev_1
  refine lv_iconst (v := 1) hx hb dX12_goesFrom_7 (by decide) ?_
  refine lv_isub hx hb dX12_goesFrom_8 ?_
  refine z_ist C G 1 rfl (vp_in_iff.mpr ⟨by omega, by omega⟩) dX12_goesFrom_9 (fun H locs G => ?_)
  have G : zS T A s.heap s [[zO11 mo m_all m_has i_size i_next i_where i_token i_number i_word i_wrong i_farCrossing m_read i_z0 i_crossings i_inns m_posts m_shut m_here i_steps i_done i_at i_gone m_was m_came m_seenAt m_rowWorth m_farBy m_used i_everywhere i_again0 i_d0 i_never i_firstCame i_longRun i_moved i_crowd i_l0 i_fitMany i_fitLeast i_fitMost m_fitPost m_fitEnd m_keptPosts i_x0], [zAr T 0 m_here 7 (upd f_here c_.toNatClampNeg ((f_here c_.toNatClampNeg) - 1))]] _ _ := G
  refine lv_aload_n hx hb dX12_goesFrom_10 rfl (lv_at hl 0 rfl) ?_
  refine z_get C G clX12 0 rfl 16 (by decide) m_fl_RX12_26 rfl dX12_goesFrom_11 ?_
  refine lv_aload_n hx hb dX12_goesFrom_14 rfl (lv_at hl 0 rfl) ?_
  refine z_get C G clX12 0 rfl 19 (by decide) m_fl_RX12_202 rfl dX12_goesFrom_15 ?_
  refine lv_dup2_11 hx hb dX12_goesFrom_18 rfl rfl ?_
  refine z_ild C G 1 rfl (vp_in_iff.mpr ⟨by omega, by omega⟩) dX12_goesFrom_19 ?_
  refine lv_topi (fun v_2 ev_2 => ?_)
  subst ev_2
  refine lv_iconst (v := 1) hx hb dX12_goesFrom_20 (by decide) ?_
  refine lv_iadd hx hb dX12_goesFrom_21 ?_
  refine z_ist C G 1 rfl (vp_in_iff.mpr ⟨by omega, by omega⟩) dX12_goesFrom_22 (fun H locs G => ?_)
  have G : zS T A s.heap s [[zO11 mo m_all m_has i_size i_next i_where i_token i_number i_word i_wrong i_farCrossing m_read i_z0 i_crossings i_inns m_posts m_shut m_here i_steps i_done i_at i_gone m_was m_came m_seenAt m_rowWorth m_farBy m_used i_everywhere i_again0 i_d0 i_never i_firstCame i_longRun i_moved i_crowd i_l0 i_fitMany i_fitLeast i_fitMost m_fitPost m_fitEnd m_keptPosts i_x0], [zAr T 0 m_here 7 (upd (upd f_here c_.toNatClampNeg ((f_here c_.toNatClampNeg) - 1)) i_at.toNatClampNeg (((upd f_here c_.toNatClampNeg ((f_here c_.toNatClampNeg) - 1)) i_at.toNatClampNeg) + 1))]] _ _ := G
  refine lv_aload_n hx hb dX12_goesFrom_23 rfl (lv_at hl 0 rfl) ?_
  refine lv_dup hx hb dX12_goesFrom_24 rfl ?_
  refine z_get C G clX12 0 rfl 17 (by decide) m_fl_RX12_196 rfl dX12_goesFrom_25 ?_
  refine lv_aload_n hx hb dX12_goesFrom_28 rfl (lv_at hl 0 rfl) ?_
  refine z_get C G clX12 0 rfl 20 (by decide) m_fl_RX12_208 rfl dX12_goesFrom_29 ?_
  refine lv_iadd hx hb dX12_goesFrom_32 ?_
  refine z_put C G clX12 0 rfl 17 (by decide) m_fl_RX12_196 rfl rfl rfl (Nat.le_of_ble_eq_true rfl) dX12_goesFrom_33 (fun H locs G => ?_)
  have G : zS T A s.heap s [[zO11 mo m_all m_has i_size i_next i_where i_token i_number i_word i_wrong i_farCrossing m_read i_z0 i_crossings i_inns m_posts m_shut m_here (i_steps + i_gone) i_done i_at i_gone m_was m_came m_seenAt m_rowWorth m_farBy m_used i_everywhere i_again0 i_d0 i_never i_firstCame i_longRun i_moved i_crowd i_l0 i_fitMany i_fitLeast i_fitMost m_fitPost m_fitEnd m_keptPosts i_x0], [zAr T 0 m_here 7 (upd (upd f_here c_.toNatClampNeg ((f_here c_.toNatClampNeg) - 1)) i_at.toNatClampNeg (((upd f_here c_.toNatClampNeg ((f_here c_.toNatClampNeg) - 1)) i_at.toNatClampNeg) + 1))]] _ _ := G
  refine lv_aload_n hx hb dX12_goesFrom_36 rfl (lv_at hl 0 rfl) ?_
  refine lv_dup hx hb dX12_goesFrom_37 rfl ?_
  refine z_get C G clX12 0 rfl 33 (by decide) m_fl_RX12_311 rfl dX12_goesFrom_38 ?_
  refine lv_aload_n hx hb dX12_goesFrom_41 rfl (lv_at hl 0 rfl) ?_
  refine z_get C G clX12 0 rfl 19 (by decide) m_fl_RX12_202 rfl dX12_goesFrom_42 ?_
  refine lv_iload_n hx hb dX12_goesFrom_45 rfl (lv_at hl 1 rfl) ?_
  refine lv_icmp_ne (tgt := 53) hx hb dX12_goesFrom_46 (by decide) (fun c_3 => ?_) (fun c_3 => ?_)
  · have c_3n : ¬ i_at.toInt = c_.toInt := fun q => c_3 ((fa_eq _ _).mpr q)
    refine lv_iconst (v := 1) hx hb dX12_goesFrom_53 (by decide) ?_
    refine lv_iadd hx hb dX12_goesFrom_54 ?_
    refine z_put C G clX12 0 rfl 33 (by decide) m_fl_RX12_311 rfl rfl rfl (Nat.le_of_ble_eq_true rfl) dX12_goesFrom_55 (fun H locs G => ?_)
    have G : zS T A s.heap s [[zO11 mo m_all m_has i_size i_next i_where i_token i_number i_word i_wrong i_farCrossing m_read i_z0 i_crossings i_inns m_posts m_shut m_here (i_steps + i_gone) i_done i_at i_gone m_was m_came m_seenAt m_rowWorth m_farBy m_used i_everywhere i_again0 i_d0 i_never i_firstCame i_longRun (i_moved + 1) i_crowd i_l0 i_fitMany i_fitLeast i_fitMost m_fitPost m_fitEnd m_keptPosts i_x0], [zAr T 0 m_here 7 (upd (upd f_here c_.toNatClampNeg ((f_here c_.toNatClampNeg) - 1)) i_at.toNatClampNeg (((upd f_here c_.toNatClampNeg ((f_here c_.toNatClampNeg) - 1)) i_at.toNatClampNeg) + 1))]] _ _ := G
    refine lv_aload_n hx hb dX12_goesFrom_58 rfl (lv_at hl 0 rfl) ?_
    refine z_get C G clX12 0 rfl 31 (by decide) m_fl_RX12_314 rfl dX12_goesFrom_59 ?_
    refine lv_iconst (v := (-1)) hx hb dX12_goesFrom_62 (by decide) ?_
    refine lv_icmp_ne (tgt := 92) hx hb dX12_goesFrom_63 (by decide) (fun c_4 => ?_) (fun c_4 => ?_)
    · have c_4n : ¬ i_firstCame.toInt = (-1 : Int) := fun q => c_4 ((fa_eq _ _).mpr q)
      exact z_back hQz_ (z_vret C hr hlocks G (Nat.le_of_ble_eq_true rfl) (Nat.le_of_ble_eq_true rfl) dX12_goesFrom_92 ⟨(i_steps + i_gone), (i_moved + 1), i_firstCame, (upd (upd f_here c_.toNatClampNeg ((f_here c_.toNatClampNeg) - 1)) i_at.toNatClampNeg (((upd f_here c_.toNatClampNeg ((f_here c_.toNatClampNeg) - 1)) i_at.toNatClampNeg) + 1)), rfl, rfl, rfl, (by show _ = (if i_at = c_ then i_moved else i_moved + 1); rw [if_neg (by first | with_reducible assumption | assumption)]), (if_neg (fun q8 => by omega)).symm⟩)
    · have c_4n : i_firstCame.toInt = (-1 : Int) := (fa_eq _ _).mp c_4
      refine lv_aload_n hx hb dX12_goesFrom_66 rfl (lv_at hl 0 rfl) ?_
      refine z_get C G clX12 0 rfl 20 (by decide) m_fl_RX12_208 rfl dX12_goesFrom_67 ?_
      refine lv_if_le (tgt := 92) hx hb dX12_goesFrom_70 (by decide) (fun c_5 => ?_) (fun c_5 => ?_)
      · have c_5n : i_gone.toInt ≤ (0 : Int) := (fa_le _ _).mp c_5
        exact z_back hQz_ (z_vret C hr hlocks G (Nat.le_of_ble_eq_true rfl) (Nat.le_of_ble_eq_true rfl) dX12_goesFrom_92 ⟨(i_steps + i_gone), (i_moved + 1), i_firstCame, (upd (upd f_here c_.toNatClampNeg ((f_here c_.toNatClampNeg) - 1)) i_at.toNatClampNeg (((upd f_here c_.toNatClampNeg ((f_here c_.toNatClampNeg) - 1)) i_at.toNatClampNeg) + 1)), rfl, rfl, rfl, (by show _ = (if i_at = c_ then i_moved else i_moved + 1); rw [if_neg (by first | with_reducible assumption | assumption)]), (if_neg (fun q8 => by omega)).symm⟩)
      · have c_5n : ¬ i_gone.toInt ≤ (0 : Int) := fun q => c_5 ((fa_le _ _).mpr q)
        refine lv_aload_n hx hb dX12_goesFrom_73 rfl (lv_at hl 0 rfl) ?_
        refine lv_aload_n hx hb dX12_goesFrom_74 rfl (lv_at hl 0 rfl) ?_
        refine z_get C G clX12 0 rfl 19 (by decide) m_fl_RX12_202 rfl dX12_goesFrom_75 ?_
        refine z_Vi (bc := [[zO11 mo m_all m_has i_size i_next i_where i_token i_number i_word i_wrong i_farCrossing m_read i_z0 i_crossings i_inns m_posts m_shut m_here (i_steps + i_gone) i_done i_at i_gone m_was m_came m_seenAt m_rowWorth m_farBy m_used i_everywhere i_again0 i_d0 i_never i_firstCame i_longRun (i_moved + 1) i_crowd i_l0 i_fitMany i_fitLeast i_fitMost m_fitPost m_fitEnd m_keptPosts i_x0]]) (br := [[zAr T 0 m_here 7 (upd (upd f_here c_.toNatClampNeg ((f_here c_.toNatClampNeg) - 1)) i_at.toNatClampNeg (((upd f_here c_.toNatClampNeg ((f_here c_.toNatClampNeg) - 1)) i_at.toNatClampNeg) + 1))]]) (As := [.int i_at]) (rest := []) C G (c_m_isInn l T mo m_all m_has i_size i_next i_where i_token i_number i_word i_wrong i_farCrossing m_read i_z0 i_crossings i_inns m_posts m_shut m_here (i_steps + i_gone) i_done i_at i_gone m_was m_came m_seenAt m_rowWorth m_farBy m_used i_everywhere i_again0 i_d0 i_never i_firstCame i_longRun (i_moved + 1) i_crowd i_l0 i_fitMany i_fitLeast i_fitMost m_fitPost m_fitEnd m_keptPosts i_x0 i_at) (kV_RX12_178 C.2.2.2.2 (Nat.le_of_ble_eq_true rfl) (Nat.le_of_ble_eq_true rfl)) [0] [0] rfl rfl (ci := 11) (qc := (RX12, TX12, 43)) rfl rfl (List.mem_flatten.mpr ⟨_, List.mem_of_getElem? (i := 0) rfl, List.mem_cons_self⟩) rfl rfl hl.1 dX12_goesFrom_78 (Nat.le_of_ble_eq_true rfl) (Nat.le_of_ble_eq_true rfl) (fun r_7 b1 H locs hw G => ?_)
        refine zAn2 hw ?_
        intro hbs9 hc_6
        clear hw
        subst hbs9
        have G : zS T A s.heap s [[zAr T 0 m_here 7 (upd (upd f_here c_.toNatClampNeg ((f_here c_.toNatClampNeg) - 1)) i_at.toNatClampNeg (((upd f_here c_.toNatClampNeg ((f_here c_.toNatClampNeg) - 1)) i_at.toNatClampNeg) + 1))], [zO11 mo m_all m_has i_size i_next i_where i_token i_number i_word i_wrong i_farCrossing m_read i_z0 i_crossings i_inns m_posts m_shut m_here (i_steps + i_gone) i_done i_at i_gone m_was m_came m_seenAt m_rowWorth m_farBy m_used i_everywhere i_again0 i_d0 i_never i_firstCame i_longRun (i_moved + 1) i_crowd i_l0 i_fitMany i_fitLeast i_fitMost m_fitPost m_fitEnd m_keptPosts i_x0]] _ _ := G
        rcases hc_6 with ⟨rfl, h_8⟩ | ⟨rfl, h_9⟩
        · have h_8 : zInn i_inns i_at := h_8
          refine lv_if_eq (tgt := 92) hx hb dX12_goesFrom_81 (by decide) (fun q => absurd q (by decide)) (fun _ => ?_)
          refine lv_aload_n hx hb dX12_goesFrom_84 rfl (lv_at hl 0 rfl) ?_
          refine lv_aload_n hx hb dX12_goesFrom_85 rfl (lv_at hl 0 rfl) ?_
          refine z_get C G clX12 1 rfl 18 (by decide) m_fl_RX12_199 rfl dX12_goesFrom_86 ?_
          refine z_put C G clX12 1 rfl 31 (by decide) m_fl_RX12_314 rfl rfl rfl (Nat.le_of_ble_eq_true rfl) dX12_goesFrom_89 (fun H locs G => ?_)
          have G : zS T A s.heap s [[zAr T 0 m_here 7 (upd (upd f_here c_.toNatClampNeg ((f_here c_.toNatClampNeg) - 1)) i_at.toNatClampNeg (((upd f_here c_.toNatClampNeg ((f_here c_.toNatClampNeg) - 1)) i_at.toNatClampNeg) + 1))], [zO11 mo m_all m_has i_size i_next i_where i_token i_number i_word i_wrong i_farCrossing m_read i_z0 i_crossings i_inns m_posts m_shut m_here (i_steps + i_gone) i_done i_at i_gone m_was m_came m_seenAt m_rowWorth m_farBy m_used i_everywhere i_again0 i_d0 i_never i_done i_longRun (i_moved + 1) i_crowd i_l0 i_fitMany i_fitLeast i_fitMost m_fitPost m_fitEnd m_keptPosts i_x0]] _ _ := G
          have G := G.sub (bs' := [[zO11 mo m_all m_has i_size i_next i_where i_token i_number i_word i_wrong i_farCrossing m_read i_z0 i_crossings i_inns m_posts m_shut m_here (i_steps + i_gone) i_done i_at i_gone m_was m_came m_seenAt m_rowWorth m_farBy m_used i_everywhere i_again0 i_d0 i_never i_done i_longRun (i_moved + 1) i_crowd i_l0 i_fitMany i_fitLeast i_fitMost m_fitPost m_fitEnd m_keptPosts i_x0], [zAr T 0 m_here 7 (upd (upd f_here c_.toNatClampNeg ((f_here c_.toNatClampNeg) - 1)) i_at.toNatClampNeg (((upd f_here c_.toNatClampNeg ((f_here c_.toNatClampNeg) - 1)) i_at.toNatClampNeg) + 1))]]) [1, 0] rfl
          exact z_back hQz_ (z_vret C hr hlocks G (Nat.le_of_ble_eq_true rfl) (Nat.le_of_ble_eq_true rfl) dX12_goesFrom_92 ⟨(i_steps + i_gone), (i_moved + 1), i_done, (upd (upd f_here c_.toNatClampNeg ((f_here c_.toNatClampNeg) - 1)) i_at.toNatClampNeg (((upd f_here c_.toNatClampNeg ((f_here c_.toNatClampNeg) - 1)) i_at.toNatClampNeg) + 1)), rfl, rfl, rfl, (by show _ = (if i_at = c_ then i_moved else i_moved + 1); rw [if_neg (by first | with_reducible assumption | assumption)]), (if_pos ⟨by omega, by omega, by first | with_reducible assumption | assumption⟩).symm⟩)
        · have h_9 : ¬ zInn i_inns i_at := h_9
          refine lv_if_eq (tgt := 92) hx hb dX12_goesFrom_81 (by decide) (fun _ => ?_) (fun q => absurd (by decide) q)
          have G := G.sub (bs' := [[zO11 mo m_all m_has i_size i_next i_where i_token i_number i_word i_wrong i_farCrossing m_read i_z0 i_crossings i_inns m_posts m_shut m_here (i_steps + i_gone) i_done i_at i_gone m_was m_came m_seenAt m_rowWorth m_farBy m_used i_everywhere i_again0 i_d0 i_never i_firstCame i_longRun (i_moved + 1) i_crowd i_l0 i_fitMany i_fitLeast i_fitMost m_fitPost m_fitEnd m_keptPosts i_x0], [zAr T 0 m_here 7 (upd (upd f_here c_.toNatClampNeg ((f_here c_.toNatClampNeg) - 1)) i_at.toNatClampNeg (((upd f_here c_.toNatClampNeg ((f_here c_.toNatClampNeg) - 1)) i_at.toNatClampNeg) + 1))]]) [1, 0] rfl
          exact z_back hQz_ (z_vret C hr hlocks G (Nat.le_of_ble_eq_true rfl) (Nat.le_of_ble_eq_true rfl) dX12_goesFrom_92 ⟨(i_steps + i_gone), (i_moved + 1), i_firstCame, (upd (upd f_here c_.toNatClampNeg ((f_here c_.toNatClampNeg) - 1)) i_at.toNatClampNeg (((upd f_here c_.toNatClampNeg ((f_here c_.toNatClampNeg) - 1)) i_at.toNatClampNeg) + 1)), rfl, rfl, rfl, (by show _ = (if i_at = c_ then i_moved else i_moved + 1); rw [if_neg (by first | with_reducible assumption | assumption)]), (if_neg (fun q8 => absurd q8.2.2 (by first | with_reducible assumption | assumption))).symm⟩)
  · have c_3n : i_at.toInt = c_.toInt := (fa_eq _ _).mp c_3
    refine lv_iconst (v := 0) hx hb dX12_goesFrom_49 (by decide) ?_
    refine lv_goto (tgt := 54) hx hb dX12_goesFrom_50 (by decide) ?_
    refine lv_iadd hx hb dX12_goesFrom_54 ?_
    refine z_put C G clX12 0 rfl 33 (by decide) m_fl_RX12_311 rfl rfl rfl (Nat.le_of_ble_eq_true rfl) dX12_goesFrom_55 (fun H locs G => ?_)
    have G : zS T A s.heap s [[zO11 mo m_all m_has i_size i_next i_where i_token i_number i_word i_wrong i_farCrossing m_read i_z0 i_crossings i_inns m_posts m_shut m_here (i_steps + i_gone) i_done i_at i_gone m_was m_came m_seenAt m_rowWorth m_farBy m_used i_everywhere i_again0 i_d0 i_never i_firstCame i_longRun (i_moved + 0) i_crowd i_l0 i_fitMany i_fitLeast i_fitMost m_fitPost m_fitEnd m_keptPosts i_x0], [zAr T 0 m_here 7 (upd (upd f_here c_.toNatClampNeg ((f_here c_.toNatClampNeg) - 1)) i_at.toNatClampNeg (((upd f_here c_.toNatClampNeg ((f_here c_.toNatClampNeg) - 1)) i_at.toNatClampNeg) + 1))]] _ _ := G
    refine lv_aload_n hx hb dX12_goesFrom_58 rfl (lv_at hl 0 rfl) ?_
    refine z_get C G clX12 0 rfl 31 (by decide) m_fl_RX12_314 rfl dX12_goesFrom_59 ?_
    refine lv_iconst (v := (-1)) hx hb dX12_goesFrom_62 (by decide) ?_
    refine lv_icmp_ne (tgt := 92) hx hb dX12_goesFrom_63 (by decide) (fun c_10 => ?_) (fun c_10 => ?_)
    · have c_10n : ¬ i_firstCame.toInt = (-1 : Int) := fun q => c_10 ((fa_eq _ _).mpr q)
      exact z_back hQz_ (z_vret C hr hlocks G (Nat.le_of_ble_eq_true rfl) (Nat.le_of_ble_eq_true rfl) dX12_goesFrom_92 ⟨(i_steps + i_gone), (i_moved + 0), i_firstCame, (upd (upd f_here c_.toNatClampNeg ((f_here c_.toNatClampNeg) - 1)) i_at.toNatClampNeg (((upd f_here c_.toNatClampNeg ((f_here c_.toNatClampNeg) - 1)) i_at.toNatClampNeg) + 1)), rfl, rfl, rfl, (by show _ = (if i_at = c_ then i_moved else i_moved + 1); rw [if_pos (by first | with_reducible assumption | assumption)]; exact Int32.add_zero _), (if_neg (fun q8 => by omega)).symm⟩)
    · have c_10n : i_firstCame.toInt = (-1 : Int) := (fa_eq _ _).mp c_10
      refine lv_aload_n hx hb dX12_goesFrom_66 rfl (lv_at hl 0 rfl) ?_
      refine z_get C G clX12 0 rfl 20 (by decide) m_fl_RX12_208 rfl dX12_goesFrom_67 ?_
      refine lv_if_le (tgt := 92) hx hb dX12_goesFrom_70 (by decide) (fun c_11 => ?_) (fun c_11 => ?_)
      · have c_11n : i_gone.toInt ≤ (0 : Int) := (fa_le _ _).mp c_11
        exact z_back hQz_ (z_vret C hr hlocks G (Nat.le_of_ble_eq_true rfl) (Nat.le_of_ble_eq_true rfl) dX12_goesFrom_92 ⟨(i_steps + i_gone), (i_moved + 0), i_firstCame, (upd (upd f_here c_.toNatClampNeg ((f_here c_.toNatClampNeg) - 1)) i_at.toNatClampNeg (((upd f_here c_.toNatClampNeg ((f_here c_.toNatClampNeg) - 1)) i_at.toNatClampNeg) + 1)), rfl, rfl, rfl, (by show _ = (if i_at = c_ then i_moved else i_moved + 1); rw [if_pos (by first | with_reducible assumption | assumption)]; exact Int32.add_zero _), (if_neg (fun q8 => by omega)).symm⟩)
      · have c_11n : ¬ i_gone.toInt ≤ (0 : Int) := fun q => c_11 ((fa_le _ _).mpr q)
        refine lv_aload_n hx hb dX12_goesFrom_73 rfl (lv_at hl 0 rfl) ?_
        refine lv_aload_n hx hb dX12_goesFrom_74 rfl (lv_at hl 0 rfl) ?_
        refine z_get C G clX12 0 rfl 19 (by decide) m_fl_RX12_202 rfl dX12_goesFrom_75 ?_
        refine z_Vi (bc := [[zO11 mo m_all m_has i_size i_next i_where i_token i_number i_word i_wrong i_farCrossing m_read i_z0 i_crossings i_inns m_posts m_shut m_here (i_steps + i_gone) i_done i_at i_gone m_was m_came m_seenAt m_rowWorth m_farBy m_used i_everywhere i_again0 i_d0 i_never i_firstCame i_longRun (i_moved + 0) i_crowd i_l0 i_fitMany i_fitLeast i_fitMost m_fitPost m_fitEnd m_keptPosts i_x0]]) (br := [[zAr T 0 m_here 7 (upd (upd f_here c_.toNatClampNeg ((f_here c_.toNatClampNeg) - 1)) i_at.toNatClampNeg (((upd f_here c_.toNatClampNeg ((f_here c_.toNatClampNeg) - 1)) i_at.toNatClampNeg) + 1))]]) (As := [.int i_at]) (rest := []) C G (c_m_isInn l T mo m_all m_has i_size i_next i_where i_token i_number i_word i_wrong i_farCrossing m_read i_z0 i_crossings i_inns m_posts m_shut m_here (i_steps + i_gone) i_done i_at i_gone m_was m_came m_seenAt m_rowWorth m_farBy m_used i_everywhere i_again0 i_d0 i_never i_firstCame i_longRun (i_moved + 0) i_crowd i_l0 i_fitMany i_fitLeast i_fitMost m_fitPost m_fitEnd m_keptPosts i_x0 i_at) (kV_RX12_178 C.2.2.2.2 (Nat.le_of_ble_eq_true rfl) (Nat.le_of_ble_eq_true rfl)) [0] [0] rfl rfl (ci := 11) (qc := (RX12, TX12, 43)) rfl rfl (List.mem_flatten.mpr ⟨_, List.mem_of_getElem? (i := 0) rfl, List.mem_cons_self⟩) rfl rfl hl.1 dX12_goesFrom_78 (Nat.le_of_ble_eq_true rfl) (Nat.le_of_ble_eq_true rfl) (fun r_13 b1 H locs hw G => ?_)
        refine zAn2 hw ?_
        intro hbs9 hc_12
        clear hw
        subst hbs9
        have G : zS T A s.heap s [[zAr T 0 m_here 7 (upd (upd f_here c_.toNatClampNeg ((f_here c_.toNatClampNeg) - 1)) i_at.toNatClampNeg (((upd f_here c_.toNatClampNeg ((f_here c_.toNatClampNeg) - 1)) i_at.toNatClampNeg) + 1))], [zO11 mo m_all m_has i_size i_next i_where i_token i_number i_word i_wrong i_farCrossing m_read i_z0 i_crossings i_inns m_posts m_shut m_here (i_steps + i_gone) i_done i_at i_gone m_was m_came m_seenAt m_rowWorth m_farBy m_used i_everywhere i_again0 i_d0 i_never i_firstCame i_longRun (i_moved + 0) i_crowd i_l0 i_fitMany i_fitLeast i_fitMost m_fitPost m_fitEnd m_keptPosts i_x0]] _ _ := G
        rcases hc_12 with ⟨rfl, h_14⟩ | ⟨rfl, h_15⟩
        · have h_14 : zInn i_inns i_at := h_14
          refine lv_if_eq (tgt := 92) hx hb dX12_goesFrom_81 (by decide) (fun q => absurd q (by decide)) (fun _ => ?_)
          refine lv_aload_n hx hb dX12_goesFrom_84 rfl (lv_at hl 0 rfl) ?_
          refine lv_aload_n hx hb dX12_goesFrom_85 rfl (lv_at hl 0 rfl) ?_
          refine z_get C G clX12 1 rfl 18 (by decide) m_fl_RX12_199 rfl dX12_goesFrom_86 ?_
          refine z_put C G clX12 1 rfl 31 (by decide) m_fl_RX12_314 rfl rfl rfl (Nat.le_of_ble_eq_true rfl) dX12_goesFrom_89 (fun H locs G => ?_)
          have G : zS T A s.heap s [[zAr T 0 m_here 7 (upd (upd f_here c_.toNatClampNeg ((f_here c_.toNatClampNeg) - 1)) i_at.toNatClampNeg (((upd f_here c_.toNatClampNeg ((f_here c_.toNatClampNeg) - 1)) i_at.toNatClampNeg) + 1))], [zO11 mo m_all m_has i_size i_next i_where i_token i_number i_word i_wrong i_farCrossing m_read i_z0 i_crossings i_inns m_posts m_shut m_here (i_steps + i_gone) i_done i_at i_gone m_was m_came m_seenAt m_rowWorth m_farBy m_used i_everywhere i_again0 i_d0 i_never i_done i_longRun (i_moved + 0) i_crowd i_l0 i_fitMany i_fitLeast i_fitMost m_fitPost m_fitEnd m_keptPosts i_x0]] _ _ := G
          have G := G.sub (bs' := [[zO11 mo m_all m_has i_size i_next i_where i_token i_number i_word i_wrong i_farCrossing m_read i_z0 i_crossings i_inns m_posts m_shut m_here (i_steps + i_gone) i_done i_at i_gone m_was m_came m_seenAt m_rowWorth m_farBy m_used i_everywhere i_again0 i_d0 i_never i_done i_longRun (i_moved + 0) i_crowd i_l0 i_fitMany i_fitLeast i_fitMost m_fitPost m_fitEnd m_keptPosts i_x0], [zAr T 0 m_here 7 (upd (upd f_here c_.toNatClampNeg ((f_here c_.toNatClampNeg) - 1)) i_at.toNatClampNeg (((upd f_here c_.toNatClampNeg ((f_here c_.toNatClampNeg) - 1)) i_at.toNatClampNeg) + 1))]]) [1, 0] rfl
          exact z_back hQz_ (z_vret C hr hlocks G (Nat.le_of_ble_eq_true rfl) (Nat.le_of_ble_eq_true rfl) dX12_goesFrom_92 ⟨(i_steps + i_gone), (i_moved + 0), i_done, (upd (upd f_here c_.toNatClampNeg ((f_here c_.toNatClampNeg) - 1)) i_at.toNatClampNeg (((upd f_here c_.toNatClampNeg ((f_here c_.toNatClampNeg) - 1)) i_at.toNatClampNeg) + 1)), rfl, rfl, rfl, (by show _ = (if i_at = c_ then i_moved else i_moved + 1); rw [if_pos (by first | with_reducible assumption | assumption)]; exact Int32.add_zero _), (if_pos ⟨by omega, by omega, by first | with_reducible assumption | assumption⟩).symm⟩)
        · have h_15 : ¬ zInn i_inns i_at := h_15
          refine lv_if_eq (tgt := 92) hx hb dX12_goesFrom_81 (by decide) (fun _ => ?_) (fun q => absurd (by decide) q)
          have G := G.sub (bs' := [[zO11 mo m_all m_has i_size i_next i_where i_token i_number i_word i_wrong i_farCrossing m_read i_z0 i_crossings i_inns m_posts m_shut m_here (i_steps + i_gone) i_done i_at i_gone m_was m_came m_seenAt m_rowWorth m_farBy m_used i_everywhere i_again0 i_d0 i_never i_firstCame i_longRun (i_moved + 0) i_crowd i_l0 i_fitMany i_fitLeast i_fitMost m_fitPost m_fitEnd m_keptPosts i_x0], [zAr T 0 m_here 7 (upd (upd f_here c_.toNatClampNeg ((f_here c_.toNatClampNeg) - 1)) i_at.toNatClampNeg (((upd f_here c_.toNatClampNeg ((f_here c_.toNatClampNeg) - 1)) i_at.toNatClampNeg) + 1))]]) [1, 0] rfl
          exact z_back hQz_ (z_vret C hr hlocks G (Nat.le_of_ble_eq_true rfl) (Nat.le_of_ble_eq_true rfl) dX12_goesFrom_92 ⟨(i_steps + i_gone), (i_moved + 0), i_firstCame, (upd (upd f_here c_.toNatClampNeg ((f_here c_.toNatClampNeg) - 1)) i_at.toNatClampNeg (((upd f_here c_.toNatClampNeg ((f_here c_.toNatClampNeg) - 1)) i_at.toNatClampNeg) + 1)), rfl, rfl, rfl, (by show _ = (if i_at = c_ then i_moved else i_moved + 1); rw [if_pos (by first | with_reducible assumption | assumption)]; exact Int32.add_zero _), (if_neg (fun q8 => absurd q8.2.2 (by first | with_reducible assumption | assumption))).symm⟩)
theorem zRunN_st {f2 f3 lf : Nat → Int32} : ∀ (n : Nat) (f : Nat → Int32) (x : Int32) (k : Nat), (zRunN f2 f3 lf n f x k).2.2 = k → (zRunN f2 f3 lf n f x k).2.1 = x
  | 0, f, x, k, _ => rfl
  | n + 1, f, x, k, h => by
    unfold zRunN at h ⊢
    by_cases q : zStep f f2 f3 lf x = -1
    · rw [if_pos q]
    · rw [if_neg q] at h
      have t := zRunN_n (f2 := f2) (f3 := f3) (lf := lf) n (zPost f f2 f3 x) (zStep f f2 f3 lf x) (k + 1)
      omega
theorem zRunN_in {f2 f3 lf f : Nat → Int32} {x : Int32} {k : Nat} (h : zStep f f2 f3 lf x = -1) : ∀ n : Nat, (zRunN f2 f3 lf n f x k).2.2 = k
  | 0 => rfl
  | n + 1 => by
    unfold zRunN
    rw [if_pos h]
theorem zXf_r {inn fc k x t g : Int32} (h : g.toInt = 0 → x = t) (h2 : zBit inn x = 1 → g.toInt = 0) (hg : 0 ≤ g.toInt) : (if fc.toInt = -1 ∧ 0 < g.toInt ∧ zBit inn t = 1 then k else fc) = zXf inn fc k x t := by
  unfold zXf
  by_cases q : fc.toInt = -1 ∧ 0 < g.toInt ∧ zBit inn t = 1
  · rw [if_pos q, if_pos ⟨q.1, q.2.2, fun z => by have := h2 z; omega⟩]
  · rw [if_neg q]
    by_cases p : fc.toInt = -1 ∧ zBit inn t = 1 ∧ ¬ zBit inn x = 1
    · exfalso
      refine q ⟨p.1, ?_, p.2.1⟩
      by_cases z : g.toInt = 0
      · exact absurd (by rw [h z]; exact p.2.1) p.2.2
      · omega
    · rw [if_neg p]
theorem zXm_r {mv x t : Int32} : (if t = x then mv else mv + 1) = zXm mv x t := by
  unfold zXm
  by_cases q : x = t
  · rw [if_pos q, if_pos q.symm]
  · rw [if_neg q, if_neg (fun z => q z.symm)]
set_option maxHeartbeats 4000000 in
set_option maxRecDepth 100000 in
/-- c_x_goes -/
theorem c_x_goes (l : Launch) (T : zTy) (mo : Nat) (m_all : Nat) (m_has : Nat) (i_size : Int32) (i_next : Int32) (i_where : Int32) (i_token : Int32) (i_number : Int32) (i_word : Int32) (i_wrong : Int32) (i_farCrossing : Int32) (m_read : Nat) (i_z0 : Int32) (i_crossings : Int32) (i_inns : Int32) (m_posts : Nat) (m_shut : Nat) (m_here : Nat) (i_steps : Int32) (i_done : Int32) (i_at : Int32) (i_gone : Int32) (m_was : Nat) (m_came : Nat) (m_seenAt : Nat) (m_rowWorth : Nat) (m_farBy : Nat) (m_used : Nat) (i_everywhere : Int32) (i_again0 : Int32) (i_d0 : Int32) (i_never : Int32) (i_firstCame : Int32) (i_longRun : Int32) (i_moved : Int32) (i_crowd : Int32) (i_l0 : Int32) (i_fitMany : Int32) (i_fitLeast : Int32) (i_fitMost : Int32) (m_fitPost : Nat) (m_fitEnd : Nat) (m_keptPosts : Nat) (i_x0 : Int32) (f_all : Nat → Int32) (f_posts : Nat → Int32) (f_shut : Nat → Int32) (f_here : Nat → Int32) (f_was : Nat → Int32) (c_ : Int32) (hL : zML f_all i_z0 i_crossings) (hP : zMP f_posts) (hV : zMV (zRo f_all i_z0) f_posts) (hc0 : 0 ≤ c_.toInt) (hc6 : c_.toInt ≤ 6) (hcx : c_.toInt < i_crossings.toInt) (hH : zHB 100000 f_here) : zMi l T yX12_goes cX12_goes 2 (some .boolean) 4 0 0 [.ref mo, .int c_] [[zO11 mo m_all m_has i_size i_next i_where i_token i_number i_word i_wrong i_farCrossing m_read i_z0 i_crossings i_inns m_posts m_shut m_here i_steps i_done i_at i_gone m_was m_came m_seenAt m_rowWorth m_farBy m_used i_everywhere i_again0 i_d0 i_never i_firstCame i_longRun i_moved i_crowd i_l0 i_fitMany i_fitLeast i_fitMost m_fitPost m_fitEnd m_keptPosts i_x0], [zAr T 0 m_all 3952 f_all], [zAr T 0 m_posts 7 f_posts], [zAr T 0 m_shut 7 f_shut], [zAr T 0 m_here 7 f_here], [zAr T 0 m_was 7 f_was]] (fun (r : Int32) bs => ∃ (j_at : Int32) (j_gone : Int32) (j_steps : Int32) (j_moved : Int32) (j_firstCame : Int32) (g_posts : Nat → Int32) (g_here : Nat → Int32) (g_was : Nat → Int32), bs = [[zO11 mo m_all m_has i_size i_next i_where i_token i_number i_word i_wrong i_farCrossing m_read i_z0 i_crossings i_inns m_posts m_shut m_here j_steps i_done j_at j_gone m_was m_came m_seenAt m_rowWorth m_farBy m_used i_everywhere i_again0 i_d0 i_never j_firstCame i_longRun j_moved i_crowd i_l0 i_fitMany i_fitLeast i_fitMost m_fitPost m_fitEnd m_keptPosts i_x0], [zAr T 0 m_all 3952 f_all], [zAr T 0 m_posts 7 g_posts], [zAr T 0 m_shut 7 f_shut], [zAr T 0 m_here 7 g_here], [zAr T 0 m_was 7 g_was]] ∧ (r = 1 ∧ zGoF i_crossings (zWo f_all i_z0 i_inns) (zLo f_all i_z0) c_ (f_posts, f_shut, f_here, i_steps, i_never) = some (g_posts, f_shut, g_here, j_steps, i_never) ∨ r = 0 ∧ zGoF i_crossings (zWo f_all i_z0 i_inns) (zLo f_all i_z0) c_ (f_posts, f_shut, f_here, i_steps, i_never) = none ∧ g_posts = f_posts ∧ g_here = f_here ∧ j_steps = i_steps) ∧ zMV (zRo f_all i_z0) g_posts ∧ zMP g_posts ∧ (∀ m : Int, m ≤ 100000 → zHB m f_here → zHB (m + 1) g_here) ∧ (r = 1 → j_moved = zXm i_moved c_ (zStep f_posts f_shut (zWo f_all i_z0 i_inns) (zLo f_all i_z0) c_) ∧ j_firstCame = zXf i_inns i_firstCame i_done c_ (zStep f_posts f_shut (zWo f_all i_z0 i_inns) (zLo f_all i_z0) c_)) ∧ (r = 0 → j_moved = i_moved ∧ j_firstCame = i_firstCame)) := by
  refine zMi_of (own := RX12) (by decide) rfl (Nat.le_of_ble_eq_true rfl) ?_
  intro p e s m args below meth c A ls C hr hlocks hnm hAe G hl
  refine zHide (fun Qz_ hQz_ => ?_)
  have hx := C.1
  have hb := C.2.1
  have hl : lv_has ls 2 [(0, .ref mo), (1, .int c_)] := hl
  have hz := hL.1
  have hcr := hL.cr
  have hPl := zP3_m (n := i_inns) hL hP
  have hLb2 := zLo_m (n := i_inns) hL
  have hHc := hH c_.toNatClampNeg (by have q9 := z_clI (x := c_) (by omega); omega)
  have hS1 : zBit i_inns c_ = 1 → zStep f_posts f_shut (zWo f_all i_z0 i_inns) (zLo f_all i_z0) c_ = -1 := fun q8 => zStep_inn q8 hc0 (by omega)
  refine lv_aload_n hx hb dX12_goes_0 rfl (lv_at hl 0 rfl) ?_
  refine lv_iload_n hx hb dX12_goes_1 rfl (lv_at hl 1 rfl) ?_
  refine z_Vi (bc := [[zO11 mo m_all m_has i_size i_next i_where i_token i_number i_word i_wrong i_farCrossing m_read i_z0 i_crossings i_inns m_posts m_shut m_here i_steps i_done i_at i_gone m_was m_came m_seenAt m_rowWorth m_farBy m_used i_everywhere i_again0 i_d0 i_never i_firstCame i_longRun i_moved i_crowd i_l0 i_fitMany i_fitLeast i_fitMost m_fitPost m_fitEnd m_keptPosts i_x0]]) (br := [[zAr T 0 m_all 3952 f_all], [zAr T 0 m_posts 7 f_posts], [zAr T 0 m_shut 7 f_shut], [zAr T 0 m_here 7 f_here], [zAr T 0 m_was 7 f_was]]) (As := [.int c_]) (rest := []) C G (c_m_isInn l T mo m_all m_has i_size i_next i_where i_token i_number i_word i_wrong i_farCrossing m_read i_z0 i_crossings i_inns m_posts m_shut m_here i_steps i_done i_at i_gone m_was m_came m_seenAt m_rowWorth m_farBy m_used i_everywhere i_again0 i_d0 i_never i_firstCame i_longRun i_moved i_crowd i_l0 i_fitMany i_fitLeast i_fitMost m_fitPost m_fitEnd m_keptPosts i_x0 c_) (kV_RX12_178 C.2.2.2.2 (Nat.le_of_ble_eq_true rfl) (Nat.le_of_ble_eq_true rfl)) [0] [0] rfl rfl (ci := 11) (qc := (RX12, TX12, 43)) rfl rfl (List.mem_flatten.mpr ⟨_, List.mem_of_getElem? (i := 0) rfl, List.mem_cons_self⟩) rfl rfl hl.1 dX12_goes_2 (Nat.le_of_ble_eq_true rfl) (Nat.le_of_ble_eq_true rfl) (fun r_2 b1 H locs hw G => ?_)
  refine zAn2 hw ?_
  intro hbs9 hc_1
  clear hw
  subst hbs9
  have G : zS T A s.heap s [[zAr T 0 m_all 3952 f_all], [zAr T 0 m_posts 7 f_posts], [zAr T 0 m_shut 7 f_shut], [zAr T 0 m_here 7 f_here], [zAr T 0 m_was 7 f_was], [zO11 mo m_all m_has i_size i_next i_where i_token i_number i_word i_wrong i_farCrossing m_read i_z0 i_crossings i_inns m_posts m_shut m_here i_steps i_done i_at i_gone m_was m_came m_seenAt m_rowWorth m_farBy m_used i_everywhere i_again0 i_d0 i_never i_firstCame i_longRun i_moved i_crowd i_l0 i_fitMany i_fitLeast i_fitMost m_fitPost m_fitEnd m_keptPosts i_x0]] _ _ := G
  rcases hc_1 with ⟨rfl, h_3⟩ | ⟨rfl, h_4⟩
  · have h_3 : zInn i_inns c_ := h_3
    refine lv_if_ne (tgt := 17) hx hb dX12_goes_5 (by decide) (fun _ => ?_) (fun q => absurd q (by decide))
    refine lv_iconst (v := 0) hx hb dX12_goes_17 (by decide) ?_
    have G := G.sub (bs' := [[zO11 mo m_all m_has i_size i_next i_where i_token i_number i_word i_wrong i_farCrossing m_read i_z0 i_crossings i_inns m_posts m_shut m_here i_steps i_done i_at i_gone m_was m_came m_seenAt m_rowWorth m_farBy m_used i_everywhere i_again0 i_d0 i_never i_firstCame i_longRun i_moved i_crowd i_l0 i_fitMany i_fitLeast i_fitMost m_fitPost m_fitEnd m_keptPosts i_x0], [zAr T 0 m_all 3952 f_all], [zAr T 0 m_posts 7 f_posts], [zAr T 0 m_shut 7 f_shut], [zAr T 0 m_here 7 f_here], [zAr T 0 m_was 7 f_was]]) [5, 0, 1, 2, 3, 4] rfl
    exact z_back hQz_ (z_zret C hr hlocks G (Nat.le_of_ble_eq_true rfl) (Nat.le_of_ble_eq_true rfl) dX12_goes_18 rfl ⟨i_at, i_gone, i_steps, i_moved, i_firstCame, f_posts, f_here, f_was, rfl, (Or.inr ⟨rfl, by unfold zGoF; rw [if_neg (fun q8 => by first | (have q7 := q8.1.2; have q7 : 1 ≤ (f_here c_.toNatClampNeg).toInt := q7; omega) | exact q8.2 (hS1 (by first | with_reducible assumption | assumption)))], rfl, rfl, rfl⟩), hV, hP, (fun m hm hx => zHB_m hx (by omega)), (fun q8 => absurd q8 (by decide)), (fun _ => ⟨rfl, rfl⟩)⟩)
  · have h_4 : ¬ zInn i_inns c_ := h_4
    refine lv_if_ne (tgt := 17) hx hb dX12_goes_5 (by decide) (fun q => absurd (by decide) q) (fun _ => ?_)
    refine lv_aload_n hx hb dX12_goes_8 rfl (lv_at hl 0 rfl) ?_
    refine z_get C G clX12 5 rfl 16 (by decide) m_fl_RX12_26 rfl dX12_goes_9 ?_
    refine lv_iload_n hx hb dX12_goes_12 rfl (lv_at hl 1 rfl) ?_
    refine z_ild C G 3 rfl (vp_in_iff.mpr ⟨by omega, by omega⟩) dX12_goes_13 ?_
    refine lv_topi (fun v_5 ev_5 => ?_)
    subst ev_5
    refine lv_if_ne (tgt := 19) hx hb dX12_goes_14 (by decide) (fun c_6 => ?_) (fun c_6 => ?_)
    · have c_6n : ¬ (f_here c_.toNatClampNeg).toInt = (0 : Int) := fun q => c_6 ((fa_eq _ _).mpr q)
      refine lv_aload_n hx hb dX12_goes_19 rfl (lv_at hl 0 rfl) ?_
      refine lv_iload_n hx hb dX12_goes_20 rfl (lv_at hl 1 rfl) ?_
      refine z_Vv (bc := [[zO11 mo m_all m_has i_size i_next i_where i_token i_number i_word i_wrong i_farCrossing m_read i_z0 i_crossings i_inns m_posts m_shut m_here i_steps i_done i_at i_gone m_was m_came m_seenAt m_rowWorth m_farBy m_used i_everywhere i_again0 i_d0 i_never i_firstCame i_longRun i_moved i_crowd i_l0 i_fitMany i_fitLeast i_fitMost m_fitPost m_fitEnd m_keptPosts i_x0], [zAr T 0 m_was 7 f_was]]) (br := [[zAr T 0 m_all 3952 f_all], [zAr T 0 m_posts 7 f_posts], [zAr T 0 m_shut 7 f_shut], [zAr T 0 m_here 7 f_here]]) (As := [.int c_]) (rest := []) C G (c_fm_puts l T mo m_all m_has i_size i_next i_where i_token i_number i_word i_wrong i_farCrossing m_read i_z0 i_crossings i_inns m_posts m_shut m_here i_steps i_done i_at i_gone m_was m_came m_seenAt m_rowWorth m_farBy m_used i_everywhere i_again0 i_d0 i_never i_firstCame i_longRun i_moved i_crowd i_l0 i_fitMany i_fitLeast i_fitMost m_fitPost m_fitEnd m_keptPosts i_x0 f_was c_) (kV_RX12_211 C.2.2.2.2 (Nat.le_of_ble_eq_true rfl) (Nat.le_of_ble_eq_true rfl)) [5, 4] [4, 0] rfl rfl (ci := 11) (qc := (RX12, TX12, 43)) rfl rfl (List.mem_flatten.mpr ⟨_, List.mem_of_getElem? (i := 0) rfl, List.mem_cons_self⟩) rfl rfl hl.1 dX12_goes_21 (Nat.le_of_ble_eq_true rfl) (Nat.le_of_ble_eq_true rfl) (fun b1 H locs hw G => ?_)
      refine zEx1 hw ?_
      intro g_was_7
      refine zCu2 ?_
      intro hbs9 h_8
      clear hw
      subst hbs9
      have G : zS T A s.heap s [[zAr T 0 m_all 3952 f_all], [zAr T 0 m_posts 7 f_posts], [zAr T 0 m_shut 7 f_shut], [zAr T 0 m_here 7 f_here], [zO11 mo m_all m_has i_size i_next i_where i_token i_number i_word i_wrong i_farCrossing m_read i_z0 i_crossings i_inns m_posts m_shut m_here i_steps i_done c_ 0 m_was m_came m_seenAt m_rowWorth m_farBy m_used i_everywhere i_again0 i_d0 i_never i_firstCame i_longRun i_moved i_crowd i_l0 i_fitMany i_fitLeast i_fitMost m_fitPost m_fitEnd m_keptPosts i_x0], [zAr T 0 m_was 7 g_was_7]] _ _ := G
      refine lv_aload_n hx hb dX12_goes_24 rfl (lv_at hl 0 rfl) ?_
      refine z_Vi (bc := [[zO11 mo m_all m_has i_size i_next i_where i_token i_number i_word i_wrong i_farCrossing m_read i_z0 i_crossings i_inns m_posts m_shut m_here i_steps i_done c_ 0 m_was m_came m_seenAt m_rowWorth m_farBy m_used i_everywhere i_again0 i_d0 i_never i_firstCame i_longRun i_moved i_crowd i_l0 i_fitMany i_fitLeast i_fitMost m_fitPost m_fitEnd m_keptPosts i_x0], [zAr T 0 m_all 3952 f_all], [zAr T 0 m_posts 7 f_posts], [zAr T 0 m_shut 7 f_shut], [zAr T 0 m_was 7 g_was_7]]) (br := [[zAr T 0 m_here 7 f_here]]) (As := []) (rest := []) C G (c_fm_stepsOn l T mo m_all m_has i_size i_next i_where i_token i_number i_word i_wrong i_farCrossing m_read i_z0 i_crossings i_inns m_posts m_shut m_here i_steps i_done c_ 0 m_was m_came m_seenAt m_rowWorth m_farBy m_used i_everywhere i_again0 i_d0 i_never i_firstCame i_longRun i_moved i_crowd i_l0 i_fitMany i_fitLeast i_fitMost m_fitPost m_fitEnd m_keptPosts i_x0 f_all f_posts f_shut g_was_7 (by first | with_reducible assumption | with_reducible rfl | omega | assumption | rfl) (by first | with_reducible assumption | with_reducible rfl | omega | assumption | rfl) (by first | with_reducible assumption | with_reducible rfl | omega | assumption | rfl) (by decide) (by decide) (by first | with_reducible assumption | with_reducible rfl | omega | assumption | rfl) (by first | with_reducible assumption | with_reducible rfl | omega | assumption | rfl)) (kV_RX12_214 C.2.2.2.2 (Nat.le_of_ble_eq_true rfl) (Nat.le_of_ble_eq_true rfl)) [4, 0, 1, 2, 5] [0, 0, 0, 1, 0] rfl rfl (ci := 11) (qc := (RX12, TX12, 43)) rfl rfl (List.mem_flatten.mpr ⟨_, List.mem_of_getElem? (i := 0) rfl, List.mem_cons_self⟩) rfl rfl hl.1 dX12_goes_25 (Nat.le_of_ble_eq_true rfl) (Nat.le_of_ble_eq_true rfl) (fun r_20 b1 H locs hw G => ?_)
      refine zEx4 hw ?_
      intro j_at_10 j_gone_11 g_posts_12 g_was_13
      refine zCu7 ?_
      intro hbs9 h_14 h_15 h_16 h_17 h_18 hc_19
      clear hw
      subst hbs9
      have G : zS T A s.heap s [[zAr T 0 m_here 7 f_here], [zO11 mo m_all m_has i_size i_next i_where i_token i_number i_word i_wrong i_farCrossing m_read i_z0 i_crossings i_inns m_posts m_shut m_here i_steps i_done j_at_10 j_gone_11 m_was m_came m_seenAt m_rowWorth m_farBy m_used i_everywhere i_again0 i_d0 i_never i_firstCame i_longRun i_moved i_crowd i_l0 i_fitMany i_fitLeast i_fitMost m_fitPost m_fitEnd m_keptPosts i_x0], [zAr T 0 m_all 3952 f_all], [zAr T 0 m_posts 7 g_posts_12], [zAr T 0 m_shut 7 f_shut], [zAr T 0 m_was 7 g_was_13]] _ _ := G
      rcases hc_19 with ⟨rfl, h_21, h_22, h_23, h_24⟩ | ⟨rfl, h_25, h_26, h_27, h_28⟩
      · have h_21 : ¬ zStep f_posts f_shut (zWo f_all i_z0 i_inns) (zLo f_all i_z0) c_ = -1 := h_21
        have h_22 : j_at_10 = zStep f_posts f_shut (zWo f_all i_z0 i_inns) (zLo f_all i_z0) c_ := h_22
        have h_23 : j_gone_11.toInt = (0 : Int) + 1 := h_23
        have h_24 : g_was_13 = upd g_was_7 j_at_10.toNatClampNeg (g_was_7 j_at_10.toNatClampNeg + 1) := h_24
        refine lv_if_ne (tgt := 33) hx hb dX12_goes_28 (by decide) (fun _ => ?_) (fun q => absurd q (by decide))
        refine lv_aload_n hx hb dX12_goes_33 rfl (lv_at hl 0 rfl) ?_
        refine lv_iload_n hx hb dX12_goes_34 rfl (lv_at hl 1 rfl) ?_
        refine z_Vv (bc := [[zO11 mo m_all m_has i_size i_next i_where i_token i_number i_word i_wrong i_farCrossing m_read i_z0 i_crossings i_inns m_posts m_shut m_here i_steps i_done j_at_10 j_gone_11 m_was m_came m_seenAt m_rowWorth m_farBy m_used i_everywhere i_again0 i_d0 i_never i_firstCame i_longRun i_moved i_crowd i_l0 i_fitMany i_fitLeast i_fitMost m_fitPost m_fitEnd m_keptPosts i_x0], [zAr T 0 m_here 7 f_here]]) (br := [[zAr T 0 m_all 3952 f_all], [zAr T 0 m_posts 7 g_posts_12], [zAr T 0 m_shut 7 f_shut], [zAr T 0 m_was 7 g_was_13]]) (As := [.int c_]) (rest := []) C G (c_x_goesFrom l T mo m_all m_has i_size i_next i_where i_token i_number i_word i_wrong i_farCrossing m_read i_z0 i_crossings i_inns m_posts m_shut m_here i_steps i_done j_at_10 j_gone_11 m_was m_came m_seenAt m_rowWorth m_farBy m_used i_everywhere i_again0 i_d0 i_never i_firstCame i_longRun i_moved i_crowd i_l0 i_fitMany i_fitLeast i_fitMost m_fitPost m_fitEnd m_keptPosts i_x0 f_here c_ (by first | with_reducible assumption | with_reducible rfl | omega | assumption | rfl) (by first | with_reducible assumption | with_reducible rfl | omega | assumption | rfl) (by first | with_reducible assumption | with_reducible rfl | omega | assumption | rfl) (by first | with_reducible assumption | with_reducible rfl | omega | assumption | rfl)) (kV_RX12_317 C.2.2.2.2 (Nat.le_of_ble_eq_true rfl) (Nat.le_of_ble_eq_true rfl)) [1, 0] [0, 0] rfl rfl (ci := 11) (qc := (RX12, TX12, 43)) rfl rfl (List.mem_flatten.mpr ⟨_, List.mem_of_getElem? (i := 0) rfl, List.mem_cons_self⟩) rfl rfl hl.1 dX12_goes_35 (Nat.le_of_ble_eq_true rfl) (Nat.le_of_ble_eq_true rfl) (fun b1 H locs hw G => ?_)
        refine zEx4 hw ?_
        intro j_steps_29 j_moved_30 j_firstCame_31 g_here_32
        refine zCu5 ?_
        intro hbs9 h_33 h_34 h_35 h_36
        clear hw
        subst hbs9
        have G : zS T A s.heap s [[zAr T 0 m_all 3952 f_all], [zAr T 0 m_posts 7 g_posts_12], [zAr T 0 m_shut 7 f_shut], [zAr T 0 m_was 7 g_was_13], [zO11 mo m_all m_has i_size i_next i_where i_token i_number i_word i_wrong i_farCrossing m_read i_z0 i_crossings i_inns m_posts m_shut m_here j_steps_29 i_done j_at_10 j_gone_11 m_was m_came m_seenAt m_rowWorth m_farBy m_used i_everywhere i_again0 i_d0 i_never j_firstCame_31 i_longRun j_moved_30 i_crowd i_l0 i_fitMany i_fitLeast i_fitMost m_fitPost m_fitEnd m_keptPosts i_x0], [zAr T 0 m_here 7 g_here_32]] _ _ := G
        refine lv_iconst (v := 1) hx hb dX12_goes_38 (by decide) ?_
        have G := G.sub (bs' := [[zO11 mo m_all m_has i_size i_next i_where i_token i_number i_word i_wrong i_farCrossing m_read i_z0 i_crossings i_inns m_posts m_shut m_here j_steps_29 i_done j_at_10 j_gone_11 m_was m_came m_seenAt m_rowWorth m_farBy m_used i_everywhere i_again0 i_d0 i_never j_firstCame_31 i_longRun j_moved_30 i_crowd i_l0 i_fitMany i_fitLeast i_fitMost m_fitPost m_fitEnd m_keptPosts i_x0], [zAr T 0 m_all 3952 f_all], [zAr T 0 m_posts 7 g_posts_12], [zAr T 0 m_shut 7 f_shut], [zAr T 0 m_here 7 g_here_32], [zAr T 0 m_was 7 g_was_13]]) [4, 0, 1, 2, 5, 3] rfl
        exact z_back hQz_ (z_zret C hr hlocks G (Nat.le_of_ble_eq_true rfl) (Nat.le_of_ble_eq_true rfl) dX12_goes_39 rfl ⟨j_at_10, j_gone_11, j_steps_29, j_moved_30, j_firstCame_31, g_posts_12, g_here_32, g_was_13, rfl, (Or.inl ⟨rfl, zGoF_i ⟨⟨by omega, by omega, by omega⟩, by omega⟩ h_21 h_18 h_22 h_33 (by rw [h_34, (show j_gone_11 = 1 from Int32.toInt_inj.mp (by have q9 : (0 : Int32).toInt = 0 := rfl; have q8 := h_23; show _ = (1 : Int); omega))])⟩), h_17, h_14, (fun m hm hx => by rw [h_33]; exact zMvH_b hm hx ⟨by omega, by omega⟩ ⟨by omega, by omega⟩ (by omega)), (fun _ => ⟨by rw [h_35, ← h_22]; exact zXm_r, by rw [h_36, ← h_22]; exact zXf_r (fun q8 => by exfalso; have q7 := h_23; have q6 : (0 : Int32).toInt = 0 := rfl; omega) (fun q8 => absurd q8 (by first | with_reducible assumption | assumption)) (by have q7 := h_23; have q6 : (0 : Int32).toInt = 0 := rfl; omega)⟩), (fun q8 => absurd q8 (by decide))⟩)
      · have h_25 : zStep f_posts f_shut (zWo f_all i_z0 i_inns) (zLo f_all i_z0) c_ = -1 := h_25
        have h_26 : j_at_10 = c_ := h_26
        have h_27 : j_gone_11 = 0 := h_27
        have h_28 : g_was_13 = g_was_7 := h_28
        refine lv_if_ne (tgt := 33) hx hb dX12_goes_28 (by decide) (fun q => absurd (by decide) q) (fun _ => ?_)
        refine lv_iconst (v := 0) hx hb dX12_goes_31 (by decide) ?_
        have G := G.sub (bs' := [[zO11 mo m_all m_has i_size i_next i_where i_token i_number i_word i_wrong i_farCrossing m_read i_z0 i_crossings i_inns m_posts m_shut m_here i_steps i_done j_at_10 j_gone_11 m_was m_came m_seenAt m_rowWorth m_farBy m_used i_everywhere i_again0 i_d0 i_never i_firstCame i_longRun i_moved i_crowd i_l0 i_fitMany i_fitLeast i_fitMost m_fitPost m_fitEnd m_keptPosts i_x0], [zAr T 0 m_all 3952 f_all], [zAr T 0 m_posts 7 g_posts_12], [zAr T 0 m_shut 7 f_shut], [zAr T 0 m_here 7 f_here], [zAr T 0 m_was 7 g_was_13]]) [1, 2, 3, 4, 0, 5] rfl
        exact z_back hQz_ (z_zret C hr hlocks G (Nat.le_of_ble_eq_true rfl) (Nat.le_of_ble_eq_true rfl) dX12_goes_32 rfl ⟨j_at_10, j_gone_11, i_steps, i_moved, i_firstCame, g_posts_12, f_here, g_was_13, rfl, (Or.inr ⟨rfl, by unfold zGoF; rw [if_neg (fun q8 => q8.2 h_25)], by rw [h_18]; exact zPost_no h_25 hPl hLb2, rfl, rfl⟩), h_17, h_14, (fun m hm hx => zHB_m hx (by omega)), (fun q8 => absurd q8 (by decide)), (fun _ => ⟨rfl, rfl⟩)⟩)
    · have c_6n : (f_here c_.toNatClampNeg).toInt = (0 : Int) := (fa_eq _ _).mp c_6
      refine lv_iconst (v := 0) hx hb dX12_goes_17 (by decide) ?_
      have G := G.sub (bs' := [[zO11 mo m_all m_has i_size i_next i_where i_token i_number i_word i_wrong i_farCrossing m_read i_z0 i_crossings i_inns m_posts m_shut m_here i_steps i_done i_at i_gone m_was m_came m_seenAt m_rowWorth m_farBy m_used i_everywhere i_again0 i_d0 i_never i_firstCame i_longRun i_moved i_crowd i_l0 i_fitMany i_fitLeast i_fitMost m_fitPost m_fitEnd m_keptPosts i_x0], [zAr T 0 m_all 3952 f_all], [zAr T 0 m_posts 7 f_posts], [zAr T 0 m_shut 7 f_shut], [zAr T 0 m_here 7 f_here], [zAr T 0 m_was 7 f_was]]) [5, 0, 1, 2, 3, 4] rfl
      exact z_back hQz_ (z_zret C hr hlocks G (Nat.le_of_ble_eq_true rfl) (Nat.le_of_ble_eq_true rfl) dX12_goes_18 rfl ⟨i_at, i_gone, i_steps, i_moved, i_firstCame, f_posts, f_here, f_was, rfl, (Or.inr ⟨rfl, by unfold zGoF; rw [if_neg (fun q8 => by first | (have q7 := q8.1.2; have q7 : 1 ≤ (f_here c_.toNatClampNeg).toInt := q7; omega) | exact q8.2 (hS1 (by first | with_reducible assumption | assumption)))], rfl, rfl, rfl⟩), hV, hP, (fun m hm hx => zHB_m hx (by omega)), (fun q8 => absurd q8 (by decide)), (fun _ => ⟨rfl, rfl⟩)⟩)
set_option maxHeartbeats 4000000 in
set_option maxRecDepth 100000 in
/-- c_x_runs0 -/
theorem c_x_runs0 (l : Launch) (T : zTy) (mo : Nat) (m_all : Nat) (m_has : Nat) (i_size : Int32) (i_next : Int32) (i_where : Int32) (i_token : Int32) (i_number : Int32) (i_word : Int32) (i_wrong : Int32) (i_farCrossing : Int32) (m_read : Nat) (i_z0 : Int32) (i_crossings : Int32) (i_inns : Int32) (m_posts : Nat) (m_shut : Nat) (m_here : Nat) (i_steps : Int32) (i_done : Int32) (i_at : Int32) (i_gone : Int32) (m_was : Nat) (m_came : Nat) (m_seenAt : Nat) (m_rowWorth : Nat) (m_farBy : Nat) (m_used : Nat) (i_everywhere : Int32) (i_again0 : Int32) (i_d0 : Int32) (i_never : Int32) (i_firstCame : Int32) (i_longRun : Int32) (i_moved : Int32) (i_crowd : Int32) (i_l0 : Int32) (i_fitMany : Int32) (i_fitLeast : Int32) (i_fitMost : Int32) (m_fitPost : Nat) (m_fitEnd : Nat) (m_keptPosts : Nat) (i_x0 : Int32) (f_all : Nat → Int32) (f_posts : Nat → Int32) (f_shut : Nat → Int32) (f_here : Nat → Int32) (f_was : Nat → Int32) (c_ : Int32) (hL : zML f_all i_z0 i_crossings) (hP : zMP f_posts) (hV : zMV (zRo f_all i_z0) f_posts) (hc0 : 0 ≤ c_.toInt) (hc6 : c_.toInt ≤ 6) (hcx : c_.toInt < i_crossings.toInt) (hH : zHB 100000 f_here) : zMi l T yX12_runs0 cX12_runs0 2 (some .boolean) 5 0 0 [.ref mo, .int c_] [[zO11 mo m_all m_has i_size i_next i_where i_token i_number i_word i_wrong i_farCrossing m_read i_z0 i_crossings i_inns m_posts m_shut m_here i_steps i_done i_at i_gone m_was m_came m_seenAt m_rowWorth m_farBy m_used i_everywhere i_again0 i_d0 i_never i_firstCame i_longRun i_moved i_crowd i_l0 i_fitMany i_fitLeast i_fitMost m_fitPost m_fitEnd m_keptPosts i_x0], [zAr T 0 m_all 3952 f_all], [zAr T 0 m_posts 7 f_posts], [zAr T 0 m_shut 7 f_shut], [zAr T 0 m_here 7 f_here], [zAr T 0 m_was 7 f_was]] (fun (r : Int32) bs => ∃ (j_at : Int32) (j_gone : Int32) (j_steps : Int32) (j_moved : Int32) (j_firstCame : Int32) (j_never : Int32) (j_longRun : Int32) (g_posts : Nat → Int32) (g_here : Nat → Int32) (g_was : Nat → Int32), bs = [[zO11 mo m_all m_has i_size i_next i_where i_token i_number i_word i_wrong i_farCrossing m_read i_z0 i_crossings i_inns m_posts m_shut m_here j_steps i_done j_at j_gone m_was m_came m_seenAt m_rowWorth m_farBy m_used i_everywhere i_again0 i_d0 j_never j_firstCame j_longRun j_moved i_crowd i_l0 i_fitMany i_fitLeast i_fitMost m_fitPost m_fitEnd m_keptPosts i_x0], [zAr T 0 m_all 3952 f_all], [zAr T 0 m_posts 7 g_posts], [zAr T 0 m_shut 7 f_shut], [zAr T 0 m_here 7 g_here], [zAr T 0 m_was 7 g_was]] ∧ (r = 1 ∧ zRuF i_crossings i_inns (zWo f_all i_z0 i_inns) (zLo f_all i_z0) c_ (f_posts, f_shut, f_here, i_steps, i_never) = some (g_posts, f_shut, g_here, j_steps, j_never) ∨ r = 0 ∧ zRuF i_crossings i_inns (zWo f_all i_z0 i_inns) (zLo f_all i_z0) c_ (f_posts, f_shut, f_here, i_steps, i_never) = none ∧ g_posts = f_posts ∧ g_here = f_here ∧ j_steps = i_steps ∧ j_never = i_never) ∧ zMV (zRo f_all i_z0) g_posts ∧ zMP g_posts ∧ (∀ m : Int, m ≤ 100000 → zHB m f_here → zHB (m + 1) g_here) ∧ (r = 1 → j_moved = zXm i_moved c_ (zRunN f_shut (zWo f_all i_z0 i_inns) (zLo f_all i_z0) 499 f_posts c_ 0).2.1 ∧ j_firstCame = zXf i_inns i_firstCame i_done c_ (zRunN f_shut (zWo f_all i_z0 i_inns) (zLo f_all i_z0) 499 f_posts c_ 0).2.1 ∧ j_longRun = zXl i_longRun (nI (zRunN f_shut (zWo f_all i_z0 i_inns) (zLo f_all i_z0) 499 f_posts c_ 0).2.2)) ∧ (r = 0 → j_moved = i_moved ∧ j_firstCame = i_firstCame ∧ j_longRun = i_longRun)) := by
  refine zMi_of (own := RX12) (by decide) rfl (Nat.le_of_ble_eq_true rfl) ?_
  intro p e s m args below meth c A ls C hr hlocks hnm hAe G hl
  refine zHide (fun Qz_ hQz_ => ?_)
  have hx := C.1
  have hb := C.2.1
  have hl : lv_has ls 2 [(0, .ref mo), (1, .int c_)] := hl
  have hz := hL.1
  have hcr := hL.cr
  have hPl := zP3_m (n := i_inns) hL hP
  have hLb2 := zLo_m (n := i_inns) hL
  have hHc := hH c_.toNatClampNeg (by have q9 := z_clI (x := c_) (by omega); omega)
  have hS1 : zBit i_inns c_ = 1 → zStep f_posts f_shut (zWo f_all i_z0 i_inns) (zLo f_all i_z0) c_ = -1 := fun q8 => zStep_inn q8 hc0 (by omega)
  refine lv_aload_n hx hb dX12_runs0_0 rfl (lv_at hl 0 rfl) ?_
  refine z_get C G clX12 0 rfl 16 (by decide) m_fl_RX12_26 rfl dX12_runs0_1 ?_
  refine lv_iload_n hx hb dX12_runs0_4 rfl (lv_at hl 1 rfl) ?_
  refine z_ild C G 4 rfl (vp_in_iff.mpr ⟨by omega, by omega⟩) dX12_runs0_5 ?_
  refine lv_topi (fun v_1 ev_1 => ?_)
  subst ev_1
  refine lv_if_ne (tgt := 11) hx hb dX12_runs0_6 (by decide) (fun c_2 => ?_) (fun c_2 => ?_)
  · have c_2n : ¬ (f_here c_.toNatClampNeg).toInt = (0 : Int) := fun q => c_2 ((fa_eq _ _).mpr q)
    refine lv_aload_n hx hb dX12_runs0_11 rfl (lv_at hl 0 rfl) ?_
    refine lv_dup hx hb dX12_runs0_12 rfl ?_
    refine z_get C G clX12 0 rfl 30 (by decide) m_fl_RX12_320 rfl dX12_runs0_13 ?_
    refine lv_aload_n hx hb dX12_runs0_16 rfl (lv_at hl 0 rfl) ?_
    refine lv_iload_n hx hb dX12_runs0_17 rfl (lv_at hl 1 rfl) ?_
    refine z_Vi (bc := [[zO11 mo m_all m_has i_size i_next i_where i_token i_number i_word i_wrong i_farCrossing m_read i_z0 i_crossings i_inns m_posts m_shut m_here i_steps i_done i_at i_gone m_was m_came m_seenAt m_rowWorth m_farBy m_used i_everywhere i_again0 i_d0 i_never i_firstCame i_longRun i_moved i_crowd i_l0 i_fitMany i_fitLeast i_fitMost m_fitPost m_fitEnd m_keptPosts i_x0], [zAr T 0 m_all 3952 f_all], [zAr T 0 m_posts 7 f_posts], [zAr T 0 m_shut 7 f_shut], [zAr T 0 m_was 7 f_was]]) (br := [[zAr T 0 m_here 7 f_here]]) (As := [.int c_]) (rest := [.int i_never, .ref mo]) C G (c_fm_walks l T mo m_all m_has i_size i_next i_where i_token i_number i_word i_wrong i_farCrossing m_read i_z0 i_crossings i_inns m_posts m_shut m_here i_steps i_done i_at i_gone m_was m_came m_seenAt m_rowWorth m_farBy m_used i_everywhere i_again0 i_d0 i_never i_firstCame i_longRun i_moved i_crowd i_l0 i_fitMany i_fitLeast i_fitMost m_fitPost m_fitEnd m_keptPosts i_x0 f_all f_posts f_shut f_was c_ (by first | with_reducible assumption | with_reducible rfl | omega | assumption | rfl) (by first | with_reducible assumption | with_reducible rfl | omega | assumption | rfl) (by first | with_reducible assumption | with_reducible rfl | omega | assumption | rfl) (by first | with_reducible assumption | with_reducible rfl | omega | assumption | rfl) (by first | with_reducible assumption | with_reducible rfl | omega | assumption | rfl)) (kV_RX12_217 C.2.2.2.2 (Nat.le_of_ble_eq_true rfl) (Nat.le_of_ble_eq_true rfl)) [0, 1, 2, 3, 5] [0, 0, 0, 0, 1] rfl rfl (ci := 11) (qc := (RX12, TX12, 43)) rfl rfl (List.mem_flatten.mpr ⟨_, List.mem_of_getElem? (i := 0) rfl, List.mem_cons_self⟩) rfl rfl hl.1 dX12_runs0_18 (Nat.le_of_ble_eq_true rfl) (Nat.le_of_ble_eq_true rfl) (fun r_17 b1 H locs hw G => ?_)
    refine zEx4 hw ?_
    intro j_at_3 j_gone_4 g_posts_5 g_was_6
    refine zCu11 ?_
    intro hbs9 h_7 h_8 h_9 h_10 h_11 h_12 h_13 h_14 h_15 h_16
    clear hw
    subst hbs9
    have G : zS T A s.heap s [[zAr T 0 m_here 7 f_here], [zO11 mo m_all m_has i_size i_next i_where i_token i_number i_word i_wrong i_farCrossing m_read i_z0 i_crossings i_inns m_posts m_shut m_here i_steps i_done j_at_3 j_gone_4 m_was m_came m_seenAt m_rowWorth m_farBy m_used i_everywhere i_again0 i_d0 i_never i_firstCame i_longRun i_moved i_crowd i_l0 i_fitMany i_fitLeast i_fitMost m_fitPost m_fitEnd m_keptPosts i_x0], [zAr T 0 m_all 3952 f_all], [zAr T 0 m_posts 7 g_posts_5], [zAr T 0 m_shut 7 f_shut], [zAr T 0 m_was 7 g_was_6]] _ _ := G
    replace h_12 : zHd ((r_17 = 1 ∧ zBit i_inns j_at_3 = 1 ∨ r_17 = 0 ∧ ¬ zBit i_inns j_at_3 = 1)) := h_12
    have hr1 : r_17.toInt = 1 ∧ zBit i_inns j_at_3 = 1 ∨ r_17.toInt = 0 ∧ ¬ zBit i_inns j_at_3 = 1 := by rcases h_12 with ⟨e9, b9⟩ | ⟨e9, b9⟩ <;> first | exact Or.inl ⟨by rw [e9]; rfl, b9⟩ | exact Or.inr ⟨by rw [e9]; rfl, b9⟩
    refine lv_if_eq (tgt := 28) hx hb dX12_runs0_21 (by decide) (fun c_18 => ?_) (fun c_18 => ?_)
    · have c_18n : r_17.toInt = (0 : Int) := (fa_eq _ _).mp c_18
      refine lv_iconst (v := 1) hx hb dX12_runs0_28 (by decide) ?_
      refine lv_iadd hx hb dX12_runs0_29 ?_
      refine z_put C G clX12 1 rfl 30 (by decide) m_fl_RX12_320 rfl rfl rfl (Nat.le_of_ble_eq_true rfl) dX12_runs0_30 (fun H locs G => ?_)
      have G : zS T A s.heap s [[zAr T 0 m_here 7 f_here], [zO11 mo m_all m_has i_size i_next i_where i_token i_number i_word i_wrong i_farCrossing m_read i_z0 i_crossings i_inns m_posts m_shut m_here i_steps i_done j_at_3 j_gone_4 m_was m_came m_seenAt m_rowWorth m_farBy m_used i_everywhere i_again0 i_d0 (i_never + 1) i_firstCame i_longRun i_moved i_crowd i_l0 i_fitMany i_fitLeast i_fitMost m_fitPost m_fitEnd m_keptPosts i_x0], [zAr T 0 m_all 3952 f_all], [zAr T 0 m_posts 7 g_posts_5], [zAr T 0 m_shut 7 f_shut], [zAr T 0 m_was 7 g_was_6]] _ _ := G
      refine lv_aload_n hx hb dX12_runs0_33 rfl (lv_at hl 0 rfl) ?_
      refine lv_aload_n hx hb dX12_runs0_34 rfl (lv_at hl 0 rfl) ?_
      refine z_get C G clX12 1 rfl 20 (by decide) m_fl_RX12_208 rfl dX12_runs0_35 ?_
      refine lv_aload_n hx hb dX12_runs0_38 rfl (lv_at hl 0 rfl) ?_
      refine z_get C G clX12 1 rfl 32 (by decide) m_fl_RX12_323 rfl dX12_runs0_39 ?_
      refine lv_icmp_le (tgt := 52) hx hb dX12_runs0_42 (by decide) (fun c_19 => ?_) (fun c_19 => ?_)
      · have c_19n : j_gone_4.toInt ≤ i_longRun.toInt := (fa_le _ _).mp c_19
        refine lv_aload_n hx hb dX12_runs0_52 rfl (lv_at hl 0 rfl) ?_
        refine z_get C G clX12 1 rfl 32 (by decide) m_fl_RX12_323 rfl dX12_runs0_53 ?_
        refine z_put C G clX12 1 rfl 32 (by decide) m_fl_RX12_323 rfl rfl rfl (Nat.le_of_ble_eq_true rfl) dX12_runs0_56 (fun H locs G => ?_)
        have G : zS T A s.heap s [[zAr T 0 m_here 7 f_here], [zO11 mo m_all m_has i_size i_next i_where i_token i_number i_word i_wrong i_farCrossing m_read i_z0 i_crossings i_inns m_posts m_shut m_here i_steps i_done j_at_3 j_gone_4 m_was m_came m_seenAt m_rowWorth m_farBy m_used i_everywhere i_again0 i_d0 (i_never + 1) i_firstCame i_longRun i_moved i_crowd i_l0 i_fitMany i_fitLeast i_fitMost m_fitPost m_fitEnd m_keptPosts i_x0], [zAr T 0 m_all 3952 f_all], [zAr T 0 m_posts 7 g_posts_5], [zAr T 0 m_shut 7 f_shut], [zAr T 0 m_was 7 g_was_6]] _ _ := G
        refine lv_aload_n hx hb dX12_runs0_59 rfl (lv_at hl 0 rfl) ?_
        refine lv_iload_n hx hb dX12_runs0_60 rfl (lv_at hl 1 rfl) ?_
        refine z_Vv (bc := [[zO11 mo m_all m_has i_size i_next i_where i_token i_number i_word i_wrong i_farCrossing m_read i_z0 i_crossings i_inns m_posts m_shut m_here i_steps i_done j_at_3 j_gone_4 m_was m_came m_seenAt m_rowWorth m_farBy m_used i_everywhere i_again0 i_d0 (i_never + 1) i_firstCame i_longRun i_moved i_crowd i_l0 i_fitMany i_fitLeast i_fitMost m_fitPost m_fitEnd m_keptPosts i_x0], [zAr T 0 m_here 7 f_here]]) (br := [[zAr T 0 m_all 3952 f_all], [zAr T 0 m_posts 7 g_posts_5], [zAr T 0 m_shut 7 f_shut], [zAr T 0 m_was 7 g_was_6]]) (As := [.int c_]) (rest := []) C G (c_x_goesFrom l T mo m_all m_has i_size i_next i_where i_token i_number i_word i_wrong i_farCrossing m_read i_z0 i_crossings i_inns m_posts m_shut m_here i_steps i_done j_at_3 j_gone_4 m_was m_came m_seenAt m_rowWorth m_farBy m_used i_everywhere i_again0 i_d0 (i_never + 1) i_firstCame i_longRun i_moved i_crowd i_l0 i_fitMany i_fitLeast i_fitMost m_fitPost m_fitEnd m_keptPosts i_x0 f_here c_ (by first | with_reducible assumption | with_reducible rfl | omega | assumption | rfl) (by first | with_reducible assumption | with_reducible rfl | omega | assumption | rfl) (by first | with_reducible assumption | with_reducible rfl | omega | assumption | rfl) (by first | with_reducible assumption | with_reducible rfl | omega | assumption | rfl)) (kV_RX12_317 C.2.2.2.2 (Nat.le_of_ble_eq_true rfl) (Nat.le_of_ble_eq_true rfl)) [1, 0] [0, 0] rfl rfl (ci := 11) (qc := (RX12, TX12, 43)) rfl rfl (List.mem_flatten.mpr ⟨_, List.mem_of_getElem? (i := 0) rfl, List.mem_cons_self⟩) rfl rfl hl.1 dX12_runs0_61 (Nat.le_of_ble_eq_true rfl) (Nat.le_of_ble_eq_true rfl) (fun b1 H locs hw G => ?_)
        refine zEx4 hw ?_
        intro j_steps_20 j_moved_21 j_firstCame_22 g_here_23
        refine zCu5 ?_
        intro hbs9 h_24 h_25 h_26 h_27
        clear hw
        subst hbs9
        have G : zS T A s.heap s [[zAr T 0 m_all 3952 f_all], [zAr T 0 m_posts 7 g_posts_5], [zAr T 0 m_shut 7 f_shut], [zAr T 0 m_was 7 g_was_6], [zO11 mo m_all m_has i_size i_next i_where i_token i_number i_word i_wrong i_farCrossing m_read i_z0 i_crossings i_inns m_posts m_shut m_here j_steps_20 i_done j_at_3 j_gone_4 m_was m_came m_seenAt m_rowWorth m_farBy m_used i_everywhere i_again0 i_d0 (i_never + 1) j_firstCame_22 i_longRun j_moved_21 i_crowd i_l0 i_fitMany i_fitLeast i_fitMost m_fitPost m_fitEnd m_keptPosts i_x0], [zAr T 0 m_here 7 g_here_23]] _ _ := G
        refine lv_iconst (v := 1) hx hb dX12_runs0_64 (by decide) ?_
        have G := G.sub (bs' := [[zO11 mo m_all m_has i_size i_next i_where i_token i_number i_word i_wrong i_farCrossing m_read i_z0 i_crossings i_inns m_posts m_shut m_here j_steps_20 i_done j_at_3 j_gone_4 m_was m_came m_seenAt m_rowWorth m_farBy m_used i_everywhere i_again0 i_d0 (i_never + 1) j_firstCame_22 i_longRun j_moved_21 i_crowd i_l0 i_fitMany i_fitLeast i_fitMost m_fitPost m_fitEnd m_keptPosts i_x0], [zAr T 0 m_all 3952 f_all], [zAr T 0 m_posts 7 g_posts_5], [zAr T 0 m_shut 7 f_shut], [zAr T 0 m_here 7 g_here_23], [zAr T 0 m_was 7 g_was_6]]) [4, 0, 1, 2, 5, 3] rfl
        exact z_back hQz_ (z_zret C hr hlocks G (Nat.le_of_ble_eq_true rfl) (Nat.le_of_ble_eq_true rfl) dX12_runs0_65 rfl ⟨j_at_3, j_gone_4, j_steps_20, j_moved_21, j_firstCame_22, (i_never + 1), i_longRun, g_posts_5, g_here_23, g_was_6, rfl, (Or.inl ⟨rfl, zRuF_m ⟨⟨by omega, by omega, by omega⟩, by omega⟩ h_13 h_15 h_14 h_24 h_25 (if_neg (fun q8 => by rcases hr1 with ⟨e9, b9⟩ | ⟨e9, b9⟩ <;> first | (exfalso; omega) | exact b9 q8))⟩), h_8, h_7, (fun m hm hx => by rw [h_24]; exact zMvH_b hm hx ⟨by omega, by omega⟩ ⟨by omega, by omega⟩ (by omega)), (fun _ => ⟨by rw [h_26, ← h_14]; exact zXm_r, by rw [h_27, ← h_14]; exact zXf_r (fun q8 => by rw [h_14]; exact (zRunN_st 499 _ _ _ (by have q7 := (show j_gone_4.toInt = (((zRunN f_shut (zWo f_all i_z0 i_inns) (zLo f_all i_z0) 499 f_posts c_ 0).2.2 : Nat) : Int) from (by rw [h_15]; exact nI_toInt (by have q6 := zRunN_k (f2 := f_shut) (f3 := (zWo f_all i_z0 i_inns)) (lf := (zLo f_all i_z0)) 499 f_posts c_ 0; omega))); omega)).symm) (fun q8 => by have q7 := (show j_gone_4.toInt = (((zRunN f_shut (zWo f_all i_z0 i_inns) (zLo f_all i_z0) 499 f_posts c_ 0).2.2 : Nat) : Int) from (by rw [h_15]; exact nI_toInt (by have q6 := zRunN_k (f2 := f_shut) (f3 := (zWo f_all i_z0 i_inns)) (lf := (zLo f_all i_z0)) 499 f_posts c_ 0; omega))); rw [zRunN_in (hS1 q8) 499] at q7; exact q7) (by omega), (by rw [← h_15]; exact (if_neg (by first | with_reducible assumption | assumption | exact fun q9 => by have q8 := (fa_lt _ _).mp q9; omega)).symm)⟩), (fun q8 => absurd q8 (by decide))⟩)
      · have c_19n : ¬ j_gone_4.toInt ≤ i_longRun.toInt := fun q => c_19 ((fa_le _ _).mpr q)
        refine lv_aload_n hx hb dX12_runs0_45 rfl (lv_at hl 0 rfl) ?_
        refine z_get C G clX12 1 rfl 20 (by decide) m_fl_RX12_208 rfl dX12_runs0_46 ?_
        refine lv_goto (tgt := 56) hx hb dX12_runs0_49 (by decide) ?_
        refine z_put C G clX12 1 rfl 32 (by decide) m_fl_RX12_323 rfl rfl rfl (Nat.le_of_ble_eq_true rfl) dX12_runs0_56 (fun H locs G => ?_)
        have G : zS T A s.heap s [[zAr T 0 m_here 7 f_here], [zO11 mo m_all m_has i_size i_next i_where i_token i_number i_word i_wrong i_farCrossing m_read i_z0 i_crossings i_inns m_posts m_shut m_here i_steps i_done j_at_3 j_gone_4 m_was m_came m_seenAt m_rowWorth m_farBy m_used i_everywhere i_again0 i_d0 (i_never + 1) i_firstCame j_gone_4 i_moved i_crowd i_l0 i_fitMany i_fitLeast i_fitMost m_fitPost m_fitEnd m_keptPosts i_x0], [zAr T 0 m_all 3952 f_all], [zAr T 0 m_posts 7 g_posts_5], [zAr T 0 m_shut 7 f_shut], [zAr T 0 m_was 7 g_was_6]] _ _ := G
        refine lv_aload_n hx hb dX12_runs0_59 rfl (lv_at hl 0 rfl) ?_
        refine lv_iload_n hx hb dX12_runs0_60 rfl (lv_at hl 1 rfl) ?_
        refine z_Vv (bc := [[zO11 mo m_all m_has i_size i_next i_where i_token i_number i_word i_wrong i_farCrossing m_read i_z0 i_crossings i_inns m_posts m_shut m_here i_steps i_done j_at_3 j_gone_4 m_was m_came m_seenAt m_rowWorth m_farBy m_used i_everywhere i_again0 i_d0 (i_never + 1) i_firstCame j_gone_4 i_moved i_crowd i_l0 i_fitMany i_fitLeast i_fitMost m_fitPost m_fitEnd m_keptPosts i_x0], [zAr T 0 m_here 7 f_here]]) (br := [[zAr T 0 m_all 3952 f_all], [zAr T 0 m_posts 7 g_posts_5], [zAr T 0 m_shut 7 f_shut], [zAr T 0 m_was 7 g_was_6]]) (As := [.int c_]) (rest := []) C G (c_x_goesFrom l T mo m_all m_has i_size i_next i_where i_token i_number i_word i_wrong i_farCrossing m_read i_z0 i_crossings i_inns m_posts m_shut m_here i_steps i_done j_at_3 j_gone_4 m_was m_came m_seenAt m_rowWorth m_farBy m_used i_everywhere i_again0 i_d0 (i_never + 1) i_firstCame j_gone_4 i_moved i_crowd i_l0 i_fitMany i_fitLeast i_fitMost m_fitPost m_fitEnd m_keptPosts i_x0 f_here c_ (by first | with_reducible assumption | with_reducible rfl | omega | assumption | rfl) (by first | with_reducible assumption | with_reducible rfl | omega | assumption | rfl) (by first | with_reducible assumption | with_reducible rfl | omega | assumption | rfl) (by first | with_reducible assumption | with_reducible rfl | omega | assumption | rfl)) (kV_RX12_317 C.2.2.2.2 (Nat.le_of_ble_eq_true rfl) (Nat.le_of_ble_eq_true rfl)) [1, 0] [0, 0] rfl rfl (ci := 11) (qc := (RX12, TX12, 43)) rfl rfl (List.mem_flatten.mpr ⟨_, List.mem_of_getElem? (i := 0) rfl, List.mem_cons_self⟩) rfl rfl hl.1 dX12_runs0_61 (Nat.le_of_ble_eq_true rfl) (Nat.le_of_ble_eq_true rfl) (fun b1 H locs hw G => ?_)
        refine zEx4 hw ?_
        intro j_steps_29 j_moved_30 j_firstCame_31 g_here_32
        refine zCu5 ?_
        intro hbs9 h_33 h_34 h_35 h_36
        clear hw
        subst hbs9
        have G : zS T A s.heap s [[zAr T 0 m_all 3952 f_all], [zAr T 0 m_posts 7 g_posts_5], [zAr T 0 m_shut 7 f_shut], [zAr T 0 m_was 7 g_was_6], [zO11 mo m_all m_has i_size i_next i_where i_token i_number i_word i_wrong i_farCrossing m_read i_z0 i_crossings i_inns m_posts m_shut m_here j_steps_29 i_done j_at_3 j_gone_4 m_was m_came m_seenAt m_rowWorth m_farBy m_used i_everywhere i_again0 i_d0 (i_never + 1) j_firstCame_31 j_gone_4 j_moved_30 i_crowd i_l0 i_fitMany i_fitLeast i_fitMost m_fitPost m_fitEnd m_keptPosts i_x0], [zAr T 0 m_here 7 g_here_32]] _ _ := G
        refine lv_iconst (v := 1) hx hb dX12_runs0_64 (by decide) ?_
        have G := G.sub (bs' := [[zO11 mo m_all m_has i_size i_next i_where i_token i_number i_word i_wrong i_farCrossing m_read i_z0 i_crossings i_inns m_posts m_shut m_here j_steps_29 i_done j_at_3 j_gone_4 m_was m_came m_seenAt m_rowWorth m_farBy m_used i_everywhere i_again0 i_d0 (i_never + 1) j_firstCame_31 j_gone_4 j_moved_30 i_crowd i_l0 i_fitMany i_fitLeast i_fitMost m_fitPost m_fitEnd m_keptPosts i_x0], [zAr T 0 m_all 3952 f_all], [zAr T 0 m_posts 7 g_posts_5], [zAr T 0 m_shut 7 f_shut], [zAr T 0 m_here 7 g_here_32], [zAr T 0 m_was 7 g_was_6]]) [4, 0, 1, 2, 5, 3] rfl
        exact z_back hQz_ (z_zret C hr hlocks G (Nat.le_of_ble_eq_true rfl) (Nat.le_of_ble_eq_true rfl) dX12_runs0_65 rfl ⟨j_at_3, j_gone_4, j_steps_29, j_moved_30, j_firstCame_31, (i_never + 1), j_gone_4, g_posts_5, g_here_32, g_was_6, rfl, (Or.inl ⟨rfl, zRuF_m ⟨⟨by omega, by omega, by omega⟩, by omega⟩ h_13 h_15 h_14 h_33 h_34 (if_neg (fun q8 => by rcases hr1 with ⟨e9, b9⟩ | ⟨e9, b9⟩ <;> first | (exfalso; omega) | exact b9 q8))⟩), h_8, h_7, (fun m hm hx => by rw [h_33]; exact zMvH_b hm hx ⟨by omega, by omega⟩ ⟨by omega, by omega⟩ (by omega)), (fun _ => ⟨by rw [h_35, ← h_14]; exact zXm_r, by rw [h_36, ← h_14]; exact zXf_r (fun q8 => by rw [h_14]; exact (zRunN_st 499 _ _ _ (by have q7 := (show j_gone_4.toInt = (((zRunN f_shut (zWo f_all i_z0 i_inns) (zLo f_all i_z0) 499 f_posts c_ 0).2.2 : Nat) : Int) from (by rw [h_15]; exact nI_toInt (by have q6 := zRunN_k (f2 := f_shut) (f3 := (zWo f_all i_z0 i_inns)) (lf := (zLo f_all i_z0)) 499 f_posts c_ 0; omega))); omega)).symm) (fun q8 => by have q7 := (show j_gone_4.toInt = (((zRunN f_shut (zWo f_all i_z0 i_inns) (zLo f_all i_z0) 499 f_posts c_ 0).2.2 : Nat) : Int) from (by rw [h_15]; exact nI_toInt (by have q6 := zRunN_k (f2 := f_shut) (f3 := (zWo f_all i_z0 i_inns)) (lf := (zLo f_all i_z0)) 499 f_posts c_ 0; omega))); rw [zRunN_in (hS1 q8) 499] at q7; exact q7) (by omega), (by rw [← h_15]; exact (if_pos (by first | with_reducible assumption | assumption | exact (fa_lt _ _).mpr (by omega))).symm)⟩), (fun q8 => absurd q8 (by decide))⟩)
    · have c_18n : ¬ r_17.toInt = (0 : Int) := fun q => c_18 ((fa_eq _ _).mpr q)
      refine lv_iconst (v := 0) hx hb dX12_runs0_24 (by decide) ?_
      refine lv_goto (tgt := 29) hx hb dX12_runs0_25 (by decide) ?_
      refine lv_iadd hx hb dX12_runs0_29 ?_
      refine z_put C G clX12 1 rfl 30 (by decide) m_fl_RX12_320 rfl rfl rfl (Nat.le_of_ble_eq_true rfl) dX12_runs0_30 (fun H locs G => ?_)
      have G : zS T A s.heap s [[zAr T 0 m_here 7 f_here], [zO11 mo m_all m_has i_size i_next i_where i_token i_number i_word i_wrong i_farCrossing m_read i_z0 i_crossings i_inns m_posts m_shut m_here i_steps i_done j_at_3 j_gone_4 m_was m_came m_seenAt m_rowWorth m_farBy m_used i_everywhere i_again0 i_d0 (i_never + 0) i_firstCame i_longRun i_moved i_crowd i_l0 i_fitMany i_fitLeast i_fitMost m_fitPost m_fitEnd m_keptPosts i_x0], [zAr T 0 m_all 3952 f_all], [zAr T 0 m_posts 7 g_posts_5], [zAr T 0 m_shut 7 f_shut], [zAr T 0 m_was 7 g_was_6]] _ _ := G
      refine lv_aload_n hx hb dX12_runs0_33 rfl (lv_at hl 0 rfl) ?_
      refine lv_aload_n hx hb dX12_runs0_34 rfl (lv_at hl 0 rfl) ?_
      refine z_get C G clX12 1 rfl 20 (by decide) m_fl_RX12_208 rfl dX12_runs0_35 ?_
      refine lv_aload_n hx hb dX12_runs0_38 rfl (lv_at hl 0 rfl) ?_
      refine z_get C G clX12 1 rfl 32 (by decide) m_fl_RX12_323 rfl dX12_runs0_39 ?_
      refine lv_icmp_le (tgt := 52) hx hb dX12_runs0_42 (by decide) (fun c_38 => ?_) (fun c_38 => ?_)
      · have c_38n : j_gone_4.toInt ≤ i_longRun.toInt := (fa_le _ _).mp c_38
        refine lv_aload_n hx hb dX12_runs0_52 rfl (lv_at hl 0 rfl) ?_
        refine z_get C G clX12 1 rfl 32 (by decide) m_fl_RX12_323 rfl dX12_runs0_53 ?_
        refine z_put C G clX12 1 rfl 32 (by decide) m_fl_RX12_323 rfl rfl rfl (Nat.le_of_ble_eq_true rfl) dX12_runs0_56 (fun H locs G => ?_)
        have G : zS T A s.heap s [[zAr T 0 m_here 7 f_here], [zO11 mo m_all m_has i_size i_next i_where i_token i_number i_word i_wrong i_farCrossing m_read i_z0 i_crossings i_inns m_posts m_shut m_here i_steps i_done j_at_3 j_gone_4 m_was m_came m_seenAt m_rowWorth m_farBy m_used i_everywhere i_again0 i_d0 (i_never + 0) i_firstCame i_longRun i_moved i_crowd i_l0 i_fitMany i_fitLeast i_fitMost m_fitPost m_fitEnd m_keptPosts i_x0], [zAr T 0 m_all 3952 f_all], [zAr T 0 m_posts 7 g_posts_5], [zAr T 0 m_shut 7 f_shut], [zAr T 0 m_was 7 g_was_6]] _ _ := G
        refine lv_aload_n hx hb dX12_runs0_59 rfl (lv_at hl 0 rfl) ?_
        refine lv_iload_n hx hb dX12_runs0_60 rfl (lv_at hl 1 rfl) ?_
        refine z_Vv (bc := [[zO11 mo m_all m_has i_size i_next i_where i_token i_number i_word i_wrong i_farCrossing m_read i_z0 i_crossings i_inns m_posts m_shut m_here i_steps i_done j_at_3 j_gone_4 m_was m_came m_seenAt m_rowWorth m_farBy m_used i_everywhere i_again0 i_d0 (i_never + 0) i_firstCame i_longRun i_moved i_crowd i_l0 i_fitMany i_fitLeast i_fitMost m_fitPost m_fitEnd m_keptPosts i_x0], [zAr T 0 m_here 7 f_here]]) (br := [[zAr T 0 m_all 3952 f_all], [zAr T 0 m_posts 7 g_posts_5], [zAr T 0 m_shut 7 f_shut], [zAr T 0 m_was 7 g_was_6]]) (As := [.int c_]) (rest := []) C G (c_x_goesFrom l T mo m_all m_has i_size i_next i_where i_token i_number i_word i_wrong i_farCrossing m_read i_z0 i_crossings i_inns m_posts m_shut m_here i_steps i_done j_at_3 j_gone_4 m_was m_came m_seenAt m_rowWorth m_farBy m_used i_everywhere i_again0 i_d0 (i_never + 0) i_firstCame i_longRun i_moved i_crowd i_l0 i_fitMany i_fitLeast i_fitMost m_fitPost m_fitEnd m_keptPosts i_x0 f_here c_ (by first | with_reducible assumption | with_reducible rfl | omega | assumption | rfl) (by first | with_reducible assumption | with_reducible rfl | omega | assumption | rfl) (by first | with_reducible assumption | with_reducible rfl | omega | assumption | rfl) (by first | with_reducible assumption | with_reducible rfl | omega | assumption | rfl)) (kV_RX12_317 C.2.2.2.2 (Nat.le_of_ble_eq_true rfl) (Nat.le_of_ble_eq_true rfl)) [1, 0] [0, 0] rfl rfl (ci := 11) (qc := (RX12, TX12, 43)) rfl rfl (List.mem_flatten.mpr ⟨_, List.mem_of_getElem? (i := 0) rfl, List.mem_cons_self⟩) rfl rfl hl.1 dX12_runs0_61 (Nat.le_of_ble_eq_true rfl) (Nat.le_of_ble_eq_true rfl) (fun b1 H locs hw G => ?_)
        refine zEx4 hw ?_
        intro j_steps_39 j_moved_40 j_firstCame_41 g_here_42
        refine zCu5 ?_
        intro hbs9 h_43 h_44 h_45 h_46
        clear hw
        subst hbs9
        have G : zS T A s.heap s [[zAr T 0 m_all 3952 f_all], [zAr T 0 m_posts 7 g_posts_5], [zAr T 0 m_shut 7 f_shut], [zAr T 0 m_was 7 g_was_6], [zO11 mo m_all m_has i_size i_next i_where i_token i_number i_word i_wrong i_farCrossing m_read i_z0 i_crossings i_inns m_posts m_shut m_here j_steps_39 i_done j_at_3 j_gone_4 m_was m_came m_seenAt m_rowWorth m_farBy m_used i_everywhere i_again0 i_d0 (i_never + 0) j_firstCame_41 i_longRun j_moved_40 i_crowd i_l0 i_fitMany i_fitLeast i_fitMost m_fitPost m_fitEnd m_keptPosts i_x0], [zAr T 0 m_here 7 g_here_42]] _ _ := G
        refine lv_iconst (v := 1) hx hb dX12_runs0_64 (by decide) ?_
        have G := G.sub (bs' := [[zO11 mo m_all m_has i_size i_next i_where i_token i_number i_word i_wrong i_farCrossing m_read i_z0 i_crossings i_inns m_posts m_shut m_here j_steps_39 i_done j_at_3 j_gone_4 m_was m_came m_seenAt m_rowWorth m_farBy m_used i_everywhere i_again0 i_d0 (i_never + 0) j_firstCame_41 i_longRun j_moved_40 i_crowd i_l0 i_fitMany i_fitLeast i_fitMost m_fitPost m_fitEnd m_keptPosts i_x0], [zAr T 0 m_all 3952 f_all], [zAr T 0 m_posts 7 g_posts_5], [zAr T 0 m_shut 7 f_shut], [zAr T 0 m_here 7 g_here_42], [zAr T 0 m_was 7 g_was_6]]) [4, 0, 1, 2, 5, 3] rfl
        exact z_back hQz_ (z_zret C hr hlocks G (Nat.le_of_ble_eq_true rfl) (Nat.le_of_ble_eq_true rfl) dX12_runs0_65 rfl ⟨j_at_3, j_gone_4, j_steps_39, j_moved_40, j_firstCame_41, (i_never + 0), i_longRun, g_posts_5, g_here_42, g_was_6, rfl, (Or.inl ⟨rfl, zRuF_m ⟨⟨by omega, by omega, by omega⟩, by omega⟩ h_13 h_15 h_14 h_43 h_44 ((if_pos (by rcases hr1 with ⟨e9, b9⟩ | ⟨e9, b9⟩ <;> first | (exfalso; omega) | exact b9)).trans (Int32.add_zero i_never).symm)⟩), h_8, h_7, (fun m hm hx => by rw [h_43]; exact zMvH_b hm hx ⟨by omega, by omega⟩ ⟨by omega, by omega⟩ (by omega)), (fun _ => ⟨by rw [h_45, ← h_14]; exact zXm_r, by rw [h_46, ← h_14]; exact zXf_r (fun q8 => by rw [h_14]; exact (zRunN_st 499 _ _ _ (by have q7 := (show j_gone_4.toInt = (((zRunN f_shut (zWo f_all i_z0 i_inns) (zLo f_all i_z0) 499 f_posts c_ 0).2.2 : Nat) : Int) from (by rw [h_15]; exact nI_toInt (by have q6 := zRunN_k (f2 := f_shut) (f3 := (zWo f_all i_z0 i_inns)) (lf := (zLo f_all i_z0)) 499 f_posts c_ 0; omega))); omega)).symm) (fun q8 => by have q7 := (show j_gone_4.toInt = (((zRunN f_shut (zWo f_all i_z0 i_inns) (zLo f_all i_z0) 499 f_posts c_ 0).2.2 : Nat) : Int) from (by rw [h_15]; exact nI_toInt (by have q6 := zRunN_k (f2 := f_shut) (f3 := (zWo f_all i_z0 i_inns)) (lf := (zLo f_all i_z0)) 499 f_posts c_ 0; omega))); rw [zRunN_in (hS1 q8) 499] at q7; exact q7) (by omega), (by rw [← h_15]; exact (if_neg (by first | with_reducible assumption | assumption | exact fun q9 => by have q8 := (fa_lt _ _).mp q9; omega)).symm)⟩), (fun q8 => absurd q8 (by decide))⟩)
      · have c_38n : ¬ j_gone_4.toInt ≤ i_longRun.toInt := fun q => c_38 ((fa_le _ _).mpr q)
        refine lv_aload_n hx hb dX12_runs0_45 rfl (lv_at hl 0 rfl) ?_
        refine z_get C G clX12 1 rfl 20 (by decide) m_fl_RX12_208 rfl dX12_runs0_46 ?_
        refine lv_goto (tgt := 56) hx hb dX12_runs0_49 (by decide) ?_
        refine z_put C G clX12 1 rfl 32 (by decide) m_fl_RX12_323 rfl rfl rfl (Nat.le_of_ble_eq_true rfl) dX12_runs0_56 (fun H locs G => ?_)
        have G : zS T A s.heap s [[zAr T 0 m_here 7 f_here], [zO11 mo m_all m_has i_size i_next i_where i_token i_number i_word i_wrong i_farCrossing m_read i_z0 i_crossings i_inns m_posts m_shut m_here i_steps i_done j_at_3 j_gone_4 m_was m_came m_seenAt m_rowWorth m_farBy m_used i_everywhere i_again0 i_d0 (i_never + 0) i_firstCame j_gone_4 i_moved i_crowd i_l0 i_fitMany i_fitLeast i_fitMost m_fitPost m_fitEnd m_keptPosts i_x0], [zAr T 0 m_all 3952 f_all], [zAr T 0 m_posts 7 g_posts_5], [zAr T 0 m_shut 7 f_shut], [zAr T 0 m_was 7 g_was_6]] _ _ := G
        refine lv_aload_n hx hb dX12_runs0_59 rfl (lv_at hl 0 rfl) ?_
        refine lv_iload_n hx hb dX12_runs0_60 rfl (lv_at hl 1 rfl) ?_
        refine z_Vv (bc := [[zO11 mo m_all m_has i_size i_next i_where i_token i_number i_word i_wrong i_farCrossing m_read i_z0 i_crossings i_inns m_posts m_shut m_here i_steps i_done j_at_3 j_gone_4 m_was m_came m_seenAt m_rowWorth m_farBy m_used i_everywhere i_again0 i_d0 (i_never + 0) i_firstCame j_gone_4 i_moved i_crowd i_l0 i_fitMany i_fitLeast i_fitMost m_fitPost m_fitEnd m_keptPosts i_x0], [zAr T 0 m_here 7 f_here]]) (br := [[zAr T 0 m_all 3952 f_all], [zAr T 0 m_posts 7 g_posts_5], [zAr T 0 m_shut 7 f_shut], [zAr T 0 m_was 7 g_was_6]]) (As := [.int c_]) (rest := []) C G (c_x_goesFrom l T mo m_all m_has i_size i_next i_where i_token i_number i_word i_wrong i_farCrossing m_read i_z0 i_crossings i_inns m_posts m_shut m_here i_steps i_done j_at_3 j_gone_4 m_was m_came m_seenAt m_rowWorth m_farBy m_used i_everywhere i_again0 i_d0 (i_never + 0) i_firstCame j_gone_4 i_moved i_crowd i_l0 i_fitMany i_fitLeast i_fitMost m_fitPost m_fitEnd m_keptPosts i_x0 f_here c_ (by first | with_reducible assumption | with_reducible rfl | omega | assumption | rfl) (by first | with_reducible assumption | with_reducible rfl | omega | assumption | rfl) (by first | with_reducible assumption | with_reducible rfl | omega | assumption | rfl) (by first | with_reducible assumption | with_reducible rfl | omega | assumption | rfl)) (kV_RX12_317 C.2.2.2.2 (Nat.le_of_ble_eq_true rfl) (Nat.le_of_ble_eq_true rfl)) [1, 0] [0, 0] rfl rfl (ci := 11) (qc := (RX12, TX12, 43)) rfl rfl (List.mem_flatten.mpr ⟨_, List.mem_of_getElem? (i := 0) rfl, List.mem_cons_self⟩) rfl rfl hl.1 dX12_runs0_61 (Nat.le_of_ble_eq_true rfl) (Nat.le_of_ble_eq_true rfl) (fun b1 H locs hw G => ?_)
        refine zEx4 hw ?_
        intro j_steps_48 j_moved_49 j_firstCame_50 g_here_51
        refine zCu5 ?_
        intro hbs9 h_52 h_53 h_54 h_55
        clear hw
        subst hbs9
        have G : zS T A s.heap s [[zAr T 0 m_all 3952 f_all], [zAr T 0 m_posts 7 g_posts_5], [zAr T 0 m_shut 7 f_shut], [zAr T 0 m_was 7 g_was_6], [zO11 mo m_all m_has i_size i_next i_where i_token i_number i_word i_wrong i_farCrossing m_read i_z0 i_crossings i_inns m_posts m_shut m_here j_steps_48 i_done j_at_3 j_gone_4 m_was m_came m_seenAt m_rowWorth m_farBy m_used i_everywhere i_again0 i_d0 (i_never + 0) j_firstCame_50 j_gone_4 j_moved_49 i_crowd i_l0 i_fitMany i_fitLeast i_fitMost m_fitPost m_fitEnd m_keptPosts i_x0], [zAr T 0 m_here 7 g_here_51]] _ _ := G
        refine lv_iconst (v := 1) hx hb dX12_runs0_64 (by decide) ?_
        have G := G.sub (bs' := [[zO11 mo m_all m_has i_size i_next i_where i_token i_number i_word i_wrong i_farCrossing m_read i_z0 i_crossings i_inns m_posts m_shut m_here j_steps_48 i_done j_at_3 j_gone_4 m_was m_came m_seenAt m_rowWorth m_farBy m_used i_everywhere i_again0 i_d0 (i_never + 0) j_firstCame_50 j_gone_4 j_moved_49 i_crowd i_l0 i_fitMany i_fitLeast i_fitMost m_fitPost m_fitEnd m_keptPosts i_x0], [zAr T 0 m_all 3952 f_all], [zAr T 0 m_posts 7 g_posts_5], [zAr T 0 m_shut 7 f_shut], [zAr T 0 m_here 7 g_here_51], [zAr T 0 m_was 7 g_was_6]]) [4, 0, 1, 2, 5, 3] rfl
        exact z_back hQz_ (z_zret C hr hlocks G (Nat.le_of_ble_eq_true rfl) (Nat.le_of_ble_eq_true rfl) dX12_runs0_65 rfl ⟨j_at_3, j_gone_4, j_steps_48, j_moved_49, j_firstCame_50, (i_never + 0), j_gone_4, g_posts_5, g_here_51, g_was_6, rfl, (Or.inl ⟨rfl, zRuF_m ⟨⟨by omega, by omega, by omega⟩, by omega⟩ h_13 h_15 h_14 h_52 h_53 ((if_pos (by rcases hr1 with ⟨e9, b9⟩ | ⟨e9, b9⟩ <;> first | (exfalso; omega) | exact b9)).trans (Int32.add_zero i_never).symm)⟩), h_8, h_7, (fun m hm hx => by rw [h_52]; exact zMvH_b hm hx ⟨by omega, by omega⟩ ⟨by omega, by omega⟩ (by omega)), (fun _ => ⟨by rw [h_54, ← h_14]; exact zXm_r, by rw [h_55, ← h_14]; exact zXf_r (fun q8 => by rw [h_14]; exact (zRunN_st 499 _ _ _ (by have q7 := (show j_gone_4.toInt = (((zRunN f_shut (zWo f_all i_z0 i_inns) (zLo f_all i_z0) 499 f_posts c_ 0).2.2 : Nat) : Int) from (by rw [h_15]; exact nI_toInt (by have q6 := zRunN_k (f2 := f_shut) (f3 := (zWo f_all i_z0 i_inns)) (lf := (zLo f_all i_z0)) 499 f_posts c_ 0; omega))); omega)).symm) (fun q8 => by have q7 := (show j_gone_4.toInt = (((zRunN f_shut (zWo f_all i_z0 i_inns) (zLo f_all i_z0) 499 f_posts c_ 0).2.2 : Nat) : Int) from (by rw [h_15]; exact nI_toInt (by have q6 := zRunN_k (f2 := f_shut) (f3 := (zWo f_all i_z0 i_inns)) (lf := (zLo f_all i_z0)) 499 f_posts c_ 0; omega))); rw [zRunN_in (hS1 q8) 499] at q7; exact q7) (by omega), (by rw [← h_15]; exact (if_pos (by first | with_reducible assumption | assumption | exact (fa_lt _ _).mpr (by omega))).symm)⟩), (fun q8 => absurd q8 (by decide))⟩)
  · have c_2n : (f_here c_.toNatClampNeg).toInt = (0 : Int) := (fa_eq _ _).mp c_2
    refine lv_iconst (v := 0) hx hb dX12_runs0_9 (by decide) ?_
    exact z_back hQz_ (z_zret C hr hlocks G (Nat.le_of_ble_eq_true rfl) (Nat.le_of_ble_eq_true rfl) dX12_runs0_10 rfl ⟨i_at, i_gone, i_steps, i_moved, i_firstCame, i_never, i_longRun, f_posts, f_here, f_was, rfl, (Or.inr ⟨rfl, by unfold zRuF; rw [if_neg (fun q8 => by have q7 := q8.2; have q7 : 1 ≤ (f_here c_.toNatClampNeg).toInt := q7; omega)], rfl, rfl, rfl, rfl⟩), hV, hP, (fun m hm hx => zHB_m hx (by omega)), (fun q8 => absurd q8 (by decide)), (fun _ => ⟨rfl, rfl, rfl⟩)⟩)
set_option maxHeartbeats 4000000 in
set_option maxRecDepth 100000 in
/-- c_x_looks -/
theorem c_x_looks (l : Launch) (T : zTy) (mo : Nat) (m_all : Nat) (m_has : Nat) (i_size : Int32) (i_next : Int32) (i_where : Int32) (i_token : Int32) (i_number : Int32) (i_word : Int32) (i_wrong : Int32) (i_farCrossing : Int32) (m_read : Nat) (i_z0 : Int32) (i_crossings : Int32) (i_inns : Int32) (m_posts : Nat) (m_shut : Nat) (m_here : Nat) (i_steps : Int32) (i_done : Int32) (i_at : Int32) (i_gone : Int32) (m_was : Nat) (m_came : Nat) (m_seenAt : Nat) (m_rowWorth : Nat) (m_farBy : Nat) (m_used : Nat) (i_everywhere : Int32) (i_again0 : Int32) (i_d0 : Int32) (i_never : Int32) (i_firstCame : Int32) (i_longRun : Int32) (i_moved : Int32) (i_crowd : Int32) (i_l0 : Int32) (i_fitMany : Int32) (i_fitLeast : Int32) (i_fitMost : Int32) (m_fitPost : Nat) (m_fitEnd : Nat) (m_keptPosts : Nat) (i_x0 : Int32) (f_here : Nat → Int32) (hcr : 0 ≤ i_crossings.toInt ∧ i_crossings.toInt ≤ 7) : zMv l T yX12_looks cX12_looks 2 2 0 0 [.ref mo] [[zO11 mo m_all m_has i_size i_next i_where i_token i_number i_word i_wrong i_farCrossing m_read i_z0 i_crossings i_inns m_posts m_shut m_here i_steps i_done i_at i_gone m_was m_came m_seenAt m_rowWorth m_farBy m_used i_everywhere i_again0 i_d0 i_never i_firstCame i_longRun i_moved i_crowd i_l0 i_fitMany i_fitLeast i_fitMost m_fitPost m_fitEnd m_keptPosts i_x0], [zAr T 0 m_here 7 f_here]] (fun bs => ∃ (j_crowd : Int32), bs = [[zO11 mo m_all m_has i_size i_next i_where i_token i_number i_word i_wrong i_farCrossing m_read i_z0 i_crossings i_inns m_posts m_shut m_here i_steps i_done i_at i_gone m_was m_came m_seenAt m_rowWorth m_farBy m_used i_everywhere i_again0 i_d0 i_never i_firstCame i_longRun i_moved j_crowd i_l0 i_fitMany i_fitLeast i_fitMost m_fitPost m_fitEnd m_keptPosts i_x0], [zAr T 0 m_here 7 f_here]] ∧ j_crowd = zCw i_inns f_here i_crowd i_crossings.toInt.toNat) := by
  refine zMv_of (own := RX12) (by decide) rfl (Nat.le_of_ble_eq_true rfl) ?_
  intro p e s m args below meth c A ls C hr hlocks hnm hAe G hl
  refine zHide (fun Qz_ hQz_ => ?_)
  have hx := C.1
  have hb := C.2.1
  have hl : lv_has ls 2 [(0, .ref mo)] := hl
  refine lv_iconst (v := 0) hx hb dX12_looks_0 (by decide) ?_
  refine lv_istore_n (lv' := [(1, .int 0), (0, .ref mo)]) hx hb dX12_looks_1 rfl hl (by decide) (zLvf_h rfl) (fun ls hl => ?_)
  refine z_lp2 (T := T) 2 (fun (i : Nat) (xcrowd : Int32) => [[zO11 mo m_all m_has i_size i_next i_where i_token i_number i_word i_wrong i_farCrossing m_read i_z0 i_crossings i_inns m_posts m_shut m_here i_steps i_done i_at i_gone m_was m_came m_seenAt m_rowWorth m_farBy m_used i_everywhere i_again0 i_d0 i_never i_firstCame i_longRun i_moved xcrowd i_l0 i_fitMany i_fitLeast i_fitMost m_fitPost m_fitEnd m_keptPosts i_x0], [zAr T 0 m_here 7 f_here]]) (fun (i : Nat) (xcrowd : Int32) => [(1, .int (nI i)), (0, .ref mo)]) (fun (i : Nat) (xcrowd : Int32) => i ≤ 7 ∧ (i : Int) ≤ i_crossings.toInt ∧ xcrowd = zCw i_inns f_here i_crowd i) (fun (i : Nat) (xcrowd : Int32) => 7 - i) ?_ 0 i_crowd (show 0 ≤ 7 ∧ (0 : Int) ≤ i_crossings.toInt ∧ i_crowd = zCw i_inns f_here i_crowd 0 from ⟨by omega, by omega, rfl⟩) G (lv_sub hl [0, 1] rfl)
  intro i xcrowd hI9 ih_2 H locs ls G hl
  replace hI9 : i ≤ 7 ∧ (i : Int) ≤ i_crossings.toInt ∧ xcrowd = zCw i_inns f_here i_crowd i := hI9
  refine zAn3 hI9 ?_
  intro hi hic hU
  clear hI9
  replace G : zS T A s.heap s [[zO11 mo m_all m_has i_size i_next i_where i_token i_number i_word i_wrong i_farCrossing m_read i_z0 i_crossings i_inns m_posts m_shut m_here i_steps i_done i_at i_gone m_was m_came m_seenAt m_rowWorth m_farBy m_used i_everywhere i_again0 i_d0 i_never i_firstCame i_longRun i_moved xcrowd i_l0 i_fitMany i_fitLeast i_fitMost m_fitPost m_fitEnd m_keptPosts i_x0], [zAr T 0 m_here 7 f_here]] _ _ := G
  replace hl : lv_has ls 2 [(1, .int (nI i)), (0, .ref mo)] := hl
  refine lv_iload_n hx hb dX12_looks_2 rfl (lv_at hl 0 rfl) ?_
  refine lv_aload_n hx hb dX12_looks_3 rfl (lv_at hl 1 rfl) ?_
  refine z_get C G clX12 0 rfl 12 (by decide) m_fl_RX12_169 rfl dX12_looks_4 ?_
  refine lv_icmp_ge (tgt := 54) hx hb dX12_looks_7 (by decide) (fun c_1 => ?_) (fun c_1 => ?_)
  · have c_1n : i_crossings.toInt ≤ (i : Int) := by have q := (fa_le _ _).mp c_1; rw [nI_toInt (n := i) (by omega)] at q; exact q
    exact z_back hQz_ (z_vret C hr hlocks G (Nat.le_of_ble_eq_true rfl) (Nat.le_of_ble_eq_true rfl) dX12_looks_54 ⟨xcrowd, rfl, (by rw [hU, show i = i_crossings.toInt.toNat by omega])⟩)
  · have c_1n : ¬ i_crossings.toInt ≤ (i : Int) := fun q => c_1 ((fa_le _ _).mpr (by rw [nI_toInt (n := i) (by omega)]; exact q))
    refine lv_aload_n hx hb dX12_looks_10 rfl (lv_at hl 1 rfl) ?_
    refine lv_aload_n hx hb dX12_looks_11 rfl (lv_at hl 1 rfl) ?_
    refine lv_iload_n hx hb dX12_looks_12 rfl (lv_at hl 0 rfl) ?_
    refine z_Vi (bc := [[zO11 mo m_all m_has i_size i_next i_where i_token i_number i_word i_wrong i_farCrossing m_read i_z0 i_crossings i_inns m_posts m_shut m_here i_steps i_done i_at i_gone m_was m_came m_seenAt m_rowWorth m_farBy m_used i_everywhere i_again0 i_d0 i_never i_firstCame i_longRun i_moved xcrowd i_l0 i_fitMany i_fitLeast i_fitMost m_fitPost m_fitEnd m_keptPosts i_x0]]) (br := [[zAr T 0 m_here 7 f_here]]) (As := [.int (nI i)]) (rest := [.ref mo]) C G (c_m_isInn l T mo m_all m_has i_size i_next i_where i_token i_number i_word i_wrong i_farCrossing m_read i_z0 i_crossings i_inns m_posts m_shut m_here i_steps i_done i_at i_gone m_was m_came m_seenAt m_rowWorth m_farBy m_used i_everywhere i_again0 i_d0 i_never i_firstCame i_longRun i_moved xcrowd i_l0 i_fitMany i_fitLeast i_fitMost m_fitPost m_fitEnd m_keptPosts i_x0 (nI i)) (kV_RX12_178 C.2.2.2.2 (Nat.le_of_ble_eq_true rfl) (Nat.le_of_ble_eq_true rfl)) [0] [0] rfl rfl (ci := 11) (qc := (RX12, TX12, 43)) rfl rfl (List.mem_flatten.mpr ⟨_, List.mem_of_getElem? (i := 0) rfl, List.mem_cons_self⟩) rfl rfl hl.1 dX12_looks_13 (Nat.le_of_ble_eq_true rfl) (Nat.le_of_ble_eq_true rfl) (fun r_3 b1 H locs hw G => ?_)
    refine zAn2 hw ?_
    intro hbs9 hc_2
    clear hw
    subst hbs9
    have G : zS T A s.heap s [[zAr T 0 m_here 7 f_here], [zO11 mo m_all m_has i_size i_next i_where i_token i_number i_word i_wrong i_farCrossing m_read i_z0 i_crossings i_inns m_posts m_shut m_here i_steps i_done i_at i_gone m_was m_came m_seenAt m_rowWorth m_farBy m_used i_everywhere i_again0 i_d0 i_never i_firstCame i_longRun i_moved xcrowd i_l0 i_fitMany i_fitLeast i_fitMost m_fitPost m_fitEnd m_keptPosts i_x0]] _ _ := G
    rcases hc_2 with ⟨rfl, h_4⟩ | ⟨rfl, h_5⟩
    · have h_4 : zInn i_inns (nI i) := h_4
      refine lv_if_ne (tgt := 41) hx hb dX12_looks_16 (by decide) (fun _ => ?_) (fun q => absurd q (by decide))
      refine lv_aload_n hx hb dX12_looks_41 rfl (lv_at hl 1 rfl) ?_
      refine z_get C G clX12 1 rfl 34 (by decide) m_fl_RX12_308 rfl dX12_looks_42 ?_
      refine z_put C G clX12 1 rfl 34 (by decide) m_fl_RX12_308 rfl rfl rfl (Nat.le_of_ble_eq_true rfl) dX12_looks_45 (fun H locs G => ?_)
      have G : zS T A s.heap s [[zAr T 0 m_here 7 f_here], [zO11 mo m_all m_has i_size i_next i_where i_token i_number i_word i_wrong i_farCrossing m_read i_z0 i_crossings i_inns m_posts m_shut m_here i_steps i_done i_at i_gone m_was m_came m_seenAt m_rowWorth m_farBy m_used i_everywhere i_again0 i_d0 i_never i_firstCame i_longRun i_moved xcrowd i_l0 i_fitMany i_fitLeast i_fitMost m_fitPost m_fitEnd m_keptPosts i_x0]] _ _ := G
      refine lv_iinc (v := nI (i + 1)) (lv' := [(1, .int (nI (i + 1))), (0, .ref mo)]) hx hb dX12_looks_48 hl (k := 0) rfl (z_inc i 1) (by decide) (zLvf_h rfl) (fun ls hl => ?_)
      refine lv_goto (tgt := 2) hx hb dX12_looks_51 (by decide) ?_
      have G := G.sub (bs' := [[zO11 mo m_all m_has i_size i_next i_where i_token i_number i_word i_wrong i_farCrossing m_read i_z0 i_crossings i_inns m_posts m_shut m_here i_steps i_done i_at i_gone m_was m_came m_seenAt m_rowWorth m_farBy m_used i_everywhere i_again0 i_d0 i_never i_firstCame i_longRun i_moved xcrowd i_l0 i_fitMany i_fitLeast i_fitMost m_fitPost m_fitEnd m_keptPosts i_x0], [zAr T 0 m_here 7 f_here]]) [1, 0] rfl
      exact ih_2 (i + 1) xcrowd (show (i + 1) ≤ 7 ∧ ((i + 1) : Int) ≤ i_crossings.toInt ∧ xcrowd = zCw i_inns f_here i_crowd (i + 1) from ⟨by omega, by omega, (zCw_i hU (by first | with_reducible assumption | assumption))⟩) (show 7 - (i + 1) < 7 - i from by omega) _ _ ls G (lv_sub hl [0, 1] rfl)
    · have h_5 : ¬ zInn i_inns (nI i) := h_5
      refine lv_if_ne (tgt := 41) hx hb dX12_looks_16 (by decide) (fun q => absurd (by decide) q) (fun _ => ?_)
      refine lv_aload_n hx hb dX12_looks_19 rfl (lv_at hl 1 rfl) ?_
      refine z_get C G clX12 1 rfl 16 (by decide) m_fl_RX12_26 rfl dX12_looks_20 ?_
      refine lv_iload_n hx hb dX12_looks_23 rfl (lv_at hl 0 rfl) ?_
      refine z_ild C G 0 rfl (vp_in_nI (by omega) (by decide)) dX12_looks_24 ?_
      refine lv_topi (fun v_6 ev_6 => ?_)
      rw [nI_clamp (by omega)] at ev_6
      subst ev_6
      refine lv_aload_n hx hb dX12_looks_25 rfl (lv_at hl 1 rfl) ?_
      refine z_get C G clX12 1 rfl 34 (by decide) m_fl_RX12_308 rfl dX12_looks_26 ?_
      refine lv_icmp_le (tgt := 41) hx hb dX12_looks_29 (by decide) (fun c_7 => ?_) (fun c_7 => ?_)
      · have c_7n : (f_here i).toInt ≤ xcrowd.toInt := (fa_le _ _).mp c_7
        refine lv_aload_n hx hb dX12_looks_41 rfl (lv_at hl 1 rfl) ?_
        refine z_get C G clX12 1 rfl 34 (by decide) m_fl_RX12_308 rfl dX12_looks_42 ?_
        refine z_put C G clX12 1 rfl 34 (by decide) m_fl_RX12_308 rfl rfl rfl (Nat.le_of_ble_eq_true rfl) dX12_looks_45 (fun H locs G => ?_)
        have G : zS T A s.heap s [[zAr T 0 m_here 7 f_here], [zO11 mo m_all m_has i_size i_next i_where i_token i_number i_word i_wrong i_farCrossing m_read i_z0 i_crossings i_inns m_posts m_shut m_here i_steps i_done i_at i_gone m_was m_came m_seenAt m_rowWorth m_farBy m_used i_everywhere i_again0 i_d0 i_never i_firstCame i_longRun i_moved xcrowd i_l0 i_fitMany i_fitLeast i_fitMost m_fitPost m_fitEnd m_keptPosts i_x0]] _ _ := G
        refine lv_iinc (v := nI (i + 1)) (lv' := [(1, .int (nI (i + 1))), (0, .ref mo)]) hx hb dX12_looks_48 hl (k := 0) rfl (z_inc i 1) (by decide) (zLvf_h rfl) (fun ls hl => ?_)
        refine lv_goto (tgt := 2) hx hb dX12_looks_51 (by decide) ?_
        have G := G.sub (bs' := [[zO11 mo m_all m_has i_size i_next i_where i_token i_number i_word i_wrong i_farCrossing m_read i_z0 i_crossings i_inns m_posts m_shut m_here i_steps i_done i_at i_gone m_was m_came m_seenAt m_rowWorth m_farBy m_used i_everywhere i_again0 i_d0 i_never i_firstCame i_longRun i_moved xcrowd i_l0 i_fitMany i_fitLeast i_fitMost m_fitPost m_fitEnd m_keptPosts i_x0], [zAr T 0 m_here 7 f_here]]) [1, 0] rfl
        exact ih_2 (i + 1) xcrowd (show (i + 1) ≤ 7 ∧ ((i + 1) : Int) ≤ i_crossings.toInt ∧ xcrowd = zCw i_inns f_here i_crowd (i + 1) from ⟨by omega, by omega, ((if_neg (by first | with_reducible assumption | assumption | exact fun q9 => by have q8 := (fa_lt _ _).mp q9; omega)).symm.trans (zCw_n hU (by first | with_reducible assumption | assumption)))⟩) (show 7 - (i + 1) < 7 - i from by omega) _ _ ls G (lv_sub hl [0, 1] rfl)
      · have c_7n : ¬ (f_here i).toInt ≤ xcrowd.toInt := fun q => c_7 ((fa_le _ _).mpr q)
        refine lv_aload_n hx hb dX12_looks_32 rfl (lv_at hl 1 rfl) ?_
        refine z_get C G clX12 1 rfl 16 (by decide) m_fl_RX12_26 rfl dX12_looks_33 ?_
        refine lv_iload_n hx hb dX12_looks_36 rfl (lv_at hl 0 rfl) ?_
        refine z_ild C G 0 rfl (vp_in_nI (by omega) (by decide)) dX12_looks_37 ?_
        refine lv_topi (fun v_8 ev_8 => ?_)
        rw [nI_clamp (by omega)] at ev_8
        subst ev_8
        refine lv_goto (tgt := 45) hx hb dX12_looks_38 (by decide) ?_
        refine z_put C G clX12 1 rfl 34 (by decide) m_fl_RX12_308 rfl rfl rfl (Nat.le_of_ble_eq_true rfl) dX12_looks_45 (fun H locs G => ?_)
        have G : zS T A s.heap s [[zAr T 0 m_here 7 f_here], [zO11 mo m_all m_has i_size i_next i_where i_token i_number i_word i_wrong i_farCrossing m_read i_z0 i_crossings i_inns m_posts m_shut m_here i_steps i_done i_at i_gone m_was m_came m_seenAt m_rowWorth m_farBy m_used i_everywhere i_again0 i_d0 i_never i_firstCame i_longRun i_moved (f_here i) i_l0 i_fitMany i_fitLeast i_fitMost m_fitPost m_fitEnd m_keptPosts i_x0]] _ _ := G
        refine lv_iinc (v := nI (i + 1)) (lv' := [(1, .int (nI (i + 1))), (0, .ref mo)]) hx hb dX12_looks_48 hl (k := 0) rfl (z_inc i 1) (by decide) (zLvf_h rfl) (fun ls hl => ?_)
        refine lv_goto (tgt := 2) hx hb dX12_looks_51 (by decide) ?_
        have G := G.sub (bs' := [[zO11 mo m_all m_has i_size i_next i_where i_token i_number i_word i_wrong i_farCrossing m_read i_z0 i_crossings i_inns m_posts m_shut m_here i_steps i_done i_at i_gone m_was m_came m_seenAt m_rowWorth m_farBy m_used i_everywhere i_again0 i_d0 i_never i_firstCame i_longRun i_moved (f_here i) i_l0 i_fitMany i_fitLeast i_fitMost m_fitPost m_fitEnd m_keptPosts i_x0], [zAr T 0 m_here 7 f_here]]) [1, 0] rfl
        exact ih_2 (i + 1) (f_here i) (show (i + 1) ≤ 7 ∧ ((i + 1) : Int) ≤ i_crossings.toInt ∧ (f_here i) = zCw i_inns f_here i_crowd (i + 1) from ⟨by omega, by omega, ((if_pos (by first | with_reducible assumption | assumption | exact (fa_lt _ _).mpr (by omega))).symm.trans (zCw_n hU (by first | with_reducible assumption | assumption)))⟩) (show 7 - (i + 1) < 7 - i from by omega) _ _ ls G (lv_sub hl [0, 1] rfl)
set_option maxHeartbeats 4000000 in
set_option maxRecDepth 100000 in
/-- c_x_beginsDay -/
theorem c_x_beginsDay (l : Launch) (T : zTy) (mo : Nat) (m_all : Nat) (m_has : Nat) (i_size : Int32) (i_next : Int32) (i_where : Int32) (i_token : Int32) (i_number : Int32) (i_word : Int32) (i_wrong : Int32) (i_farCrossing : Int32) (m_read : Nat) (i_z0 : Int32) (i_crossings : Int32) (i_inns : Int32) (m_posts : Nat) (m_shut : Nat) (m_here : Nat) (i_steps : Int32) (i_done : Int32) (i_at : Int32) (i_gone : Int32) (m_was : Nat) (m_came : Nat) (m_seenAt : Nat) (m_rowWorth : Nat) (m_farBy : Nat) (m_used : Nat) (i_everywhere : Int32) (i_again0 : Int32) (i_d0 : Int32) (i_never : Int32) (i_firstCame : Int32) (i_longRun : Int32) (i_moved : Int32) (i_crowd : Int32) (i_l0 : Int32) (i_fitMany : Int32) (i_fitLeast : Int32) (i_fitMost : Int32) (m_fitPost : Nat) (m_fitEnd : Nat) (m_keptPosts : Nat) (i_x0 : Int32) (f_here : Nat → Int32) (hcr : 0 ≤ i_crossings.toInt ∧ i_crossings.toInt ≤ 7) : zMv l T yX12_beginsDay cX12_beginsDay 1 3 0 0 [.ref mo] [[zO11 mo m_all m_has i_size i_next i_where i_token i_number i_word i_wrong i_farCrossing m_read i_z0 i_crossings i_inns m_posts m_shut m_here i_steps i_done i_at i_gone m_was m_came m_seenAt m_rowWorth m_farBy m_used i_everywhere i_again0 i_d0 i_never i_firstCame i_longRun i_moved i_crowd i_l0 i_fitMany i_fitLeast i_fitMost m_fitPost m_fitEnd m_keptPosts i_x0], [zAr T 0 m_here 7 f_here]] (fun bs => ∃ (j_never : Int32) (j_firstCame : Int32) (j_longRun : Int32) (j_moved : Int32) (j_crowd : Int32), bs = [[zO11 mo m_all m_has i_size i_next i_where i_token i_number i_word i_wrong i_farCrossing m_read i_z0 i_crossings i_inns m_posts m_shut m_here i_steps i_done i_at i_gone m_was m_came m_seenAt m_rowWorth m_farBy m_used i_everywhere i_again0 i_d0 j_never j_firstCame j_longRun j_moved j_crowd i_l0 i_fitMany i_fitLeast i_fitMost m_fitPost m_fitEnd m_keptPosts i_x0], [zAr T 0 m_here 7 f_here]] ∧ j_never = 0 ∧ j_firstCame = -1 ∧ j_longRun = 0 ∧ j_moved = 0 ∧ j_crowd = zCw i_inns f_here 0 i_crossings.toInt.toNat) := by
  refine zMv_of (own := RX12) (by decide) rfl (Nat.le_of_ble_eq_true rfl) ?_
  intro p e s m args below meth c A ls C hr hlocks hnm hAe G hl
  refine zHide (fun Qz_ hQz_ => ?_)
  have hx := C.1
  have hb := C.2.1
  have hl : lv_has ls 1 [(0, .ref mo)] := hl
  refine lv_aload_n hx hb dX12_beginsDay_0 rfl (lv_at hl 0 rfl) ?_
  refine lv_iconst (v := 0) hx hb dX12_beginsDay_1 (by decide) ?_
  refine z_put C G clX12 0 rfl 30 (by decide) m_fl_RX12_320 rfl rfl rfl (Nat.le_of_ble_eq_true rfl) dX12_beginsDay_2 (fun H locs G => ?_)
  have G : zS T A s.heap s [[zO11 mo m_all m_has i_size i_next i_where i_token i_number i_word i_wrong i_farCrossing m_read i_z0 i_crossings i_inns m_posts m_shut m_here i_steps i_done i_at i_gone m_was m_came m_seenAt m_rowWorth m_farBy m_used i_everywhere i_again0 i_d0 0 i_firstCame i_longRun i_moved i_crowd i_l0 i_fitMany i_fitLeast i_fitMost m_fitPost m_fitEnd m_keptPosts i_x0], [zAr T 0 m_here 7 f_here]] _ _ := G
  refine lv_aload_n hx hb dX12_beginsDay_5 rfl (lv_at hl 0 rfl) ?_
  refine lv_iconst (v := (-1)) hx hb dX12_beginsDay_6 (by decide) ?_
  refine z_put C G clX12 0 rfl 31 (by decide) m_fl_RX12_314 rfl rfl rfl (Nat.le_of_ble_eq_true rfl) dX12_beginsDay_7 (fun H locs G => ?_)
  have G : zS T A s.heap s [[zO11 mo m_all m_has i_size i_next i_where i_token i_number i_word i_wrong i_farCrossing m_read i_z0 i_crossings i_inns m_posts m_shut m_here i_steps i_done i_at i_gone m_was m_came m_seenAt m_rowWorth m_farBy m_used i_everywhere i_again0 i_d0 0 (-1) i_longRun i_moved i_crowd i_l0 i_fitMany i_fitLeast i_fitMost m_fitPost m_fitEnd m_keptPosts i_x0], [zAr T 0 m_here 7 f_here]] _ _ := G
  refine lv_aload_n hx hb dX12_beginsDay_10 rfl (lv_at hl 0 rfl) ?_
  refine lv_iconst (v := 0) hx hb dX12_beginsDay_11 (by decide) ?_
  refine z_put C G clX12 0 rfl 32 (by decide) m_fl_RX12_323 rfl rfl rfl (Nat.le_of_ble_eq_true rfl) dX12_beginsDay_12 (fun H locs G => ?_)
  have G : zS T A s.heap s [[zO11 mo m_all m_has i_size i_next i_where i_token i_number i_word i_wrong i_farCrossing m_read i_z0 i_crossings i_inns m_posts m_shut m_here i_steps i_done i_at i_gone m_was m_came m_seenAt m_rowWorth m_farBy m_used i_everywhere i_again0 i_d0 0 (-1) 0 i_moved i_crowd i_l0 i_fitMany i_fitLeast i_fitMost m_fitPost m_fitEnd m_keptPosts i_x0], [zAr T 0 m_here 7 f_here]] _ _ := G
  refine lv_aload_n hx hb dX12_beginsDay_15 rfl (lv_at hl 0 rfl) ?_
  refine lv_iconst (v := 0) hx hb dX12_beginsDay_16 (by decide) ?_
  refine z_put C G clX12 0 rfl 33 (by decide) m_fl_RX12_311 rfl rfl rfl (Nat.le_of_ble_eq_true rfl) dX12_beginsDay_17 (fun H locs G => ?_)
  have G : zS T A s.heap s [[zO11 mo m_all m_has i_size i_next i_where i_token i_number i_word i_wrong i_farCrossing m_read i_z0 i_crossings i_inns m_posts m_shut m_here i_steps i_done i_at i_gone m_was m_came m_seenAt m_rowWorth m_farBy m_used i_everywhere i_again0 i_d0 0 (-1) 0 0 i_crowd i_l0 i_fitMany i_fitLeast i_fitMost m_fitPost m_fitEnd m_keptPosts i_x0], [zAr T 0 m_here 7 f_here]] _ _ := G
  refine lv_aload_n hx hb dX12_beginsDay_20 rfl (lv_at hl 0 rfl) ?_
  refine lv_iconst (v := 0) hx hb dX12_beginsDay_21 (by decide) ?_
  refine z_put C G clX12 0 rfl 34 (by decide) m_fl_RX12_308 rfl rfl rfl (Nat.le_of_ble_eq_true rfl) dX12_beginsDay_22 (fun H locs G => ?_)
  have G : zS T A s.heap s [[zO11 mo m_all m_has i_size i_next i_where i_token i_number i_word i_wrong i_farCrossing m_read i_z0 i_crossings i_inns m_posts m_shut m_here i_steps i_done i_at i_gone m_was m_came m_seenAt m_rowWorth m_farBy m_used i_everywhere i_again0 i_d0 0 (-1) 0 0 0 i_l0 i_fitMany i_fitLeast i_fitMost m_fitPost m_fitEnd m_keptPosts i_x0], [zAr T 0 m_here 7 f_here]] _ _ := G
  refine lv_aload_n hx hb dX12_beginsDay_25 rfl (lv_at hl 0 rfl) ?_
  refine z_Vv (bc := [[zO11 mo m_all m_has i_size i_next i_where i_token i_number i_word i_wrong i_farCrossing m_read i_z0 i_crossings i_inns m_posts m_shut m_here i_steps i_done i_at i_gone m_was m_came m_seenAt m_rowWorth m_farBy m_used i_everywhere i_again0 i_d0 0 (-1) 0 0 0 i_l0 i_fitMany i_fitLeast i_fitMost m_fitPost m_fitEnd m_keptPosts i_x0], [zAr T 0 m_here 7 f_here]]) (br := []) (As := []) (rest := []) C G (c_x_looks l T mo m_all m_has i_size i_next i_where i_token i_number i_word i_wrong i_farCrossing m_read i_z0 i_crossings i_inns m_posts m_shut m_here i_steps i_done i_at i_gone m_was m_came m_seenAt m_rowWorth m_farBy m_used i_everywhere i_again0 i_d0 0 (-1) 0 0 0 i_l0 i_fitMany i_fitLeast i_fitMost m_fitPost m_fitEnd m_keptPosts i_x0 f_here (by first | with_reducible assumption | with_reducible rfl | omega | assumption | rfl)) (kV_RX12_339 C.2.2.2.2 (Nat.le_of_ble_eq_true rfl) (Nat.le_of_ble_eq_true rfl)) [0, 1] [0, 0] rfl rfl (ci := 11) (qc := (RX12, TX12, 43)) rfl rfl (List.mem_flatten.mpr ⟨_, List.mem_of_getElem? (i := 0) rfl, List.mem_cons_self⟩) rfl rfl hl.1 dX12_beginsDay_26 (Nat.le_of_ble_eq_true rfl) (Nat.le_of_ble_eq_true rfl) (fun b1 H locs hw G => ?_)
  refine zEx1 hw ?_
  intro j_crowd_1
  refine zCu2 ?_
  intro hbs9 h_2
  clear hw
  subst hbs9
  have G : zS T A s.heap s [[zO11 mo m_all m_has i_size i_next i_where i_token i_number i_word i_wrong i_farCrossing m_read i_z0 i_crossings i_inns m_posts m_shut m_here i_steps i_done i_at i_gone m_was m_came m_seenAt m_rowWorth m_farBy m_used i_everywhere i_again0 i_d0 0 (-1) 0 0 j_crowd_1 i_l0 i_fitMany i_fitLeast i_fitMost m_fitPost m_fitEnd m_keptPosts i_x0], [zAr T 0 m_here 7 f_here]] _ _ := G
  exact z_back hQz_ (z_vret C hr hlocks G (Nat.le_of_ble_eq_true rfl) (Nat.le_of_ble_eq_true rfl) dX12_beginsDay_29 ⟨0, (-1), 0, 0, j_crowd_1, rfl, rfl, rfl, rfl, rfl, h_2⟩)
set_option maxHeartbeats 4000000 in
set_option maxRecDepth 100000 in
/-- c_xm_does -/
theorem c_xm_does (l : Launch) (T : zTy) (mo : Nat) (m_all : Nat) (m_has : Nat) (i_size : Int32) (i_next : Int32) (i_where : Int32) (i_token : Int32) (i_number : Int32) (i_word : Int32) (i_wrong : Int32) (i_farCrossing : Int32) (m_read : Nat) (i_z0 : Int32) (i_crossings : Int32) (i_inns : Int32) (m_posts : Nat) (m_shut : Nat) (m_here : Nat) (i_steps : Int32) (i_done : Int32) (i_at : Int32) (i_gone : Int32) (m_was : Nat) (m_came : Nat) (m_seenAt : Nat) (m_rowWorth : Nat) (m_farBy : Nat) (m_used : Nat) (i_everywhere : Int32) (i_again0 : Int32) (i_d0 : Int32) (i_never : Int32) (i_firstCame : Int32) (i_longRun : Int32) (i_moved : Int32) (i_crowd : Int32) (i_l0 : Int32) (i_fitMany : Int32) (i_fitLeast : Int32) (i_fitMost : Int32) (m_fitPost : Nat) (m_fitEnd : Nat) (m_keptPosts : Nat) (i_x0 : Int32) (f_all : Nat → Int32) (f_posts : Nat → Int32) (f_shut : Nat → Int32) (f_here : Nat → Int32) (f_was : Nat → Int32) (d_ : Int32) (a_ : Int32) (b_ : Int32) (hL : zML f_all i_z0 i_crossings) (hP : zMP f_posts) (hV : zMV (zRo f_all i_z0) f_posts) (hH : zHB 100000 f_here) (hd0 : 0 ≤ d_.toInt) (hd5 : d_.toInt ≤ 5) (hb3 : 4 ≤ d_.toInt → 0 ≤ b_.toInt ∧ b_.toInt ≤ 3) (hS5 : zS15 f_shut) : zMi l T yX12_does cX12_does 4 (some .boolean) 6 0 0 [.ref mo, .int d_, .int a_, .int b_] [[zO11 mo m_all m_has i_size i_next i_where i_token i_number i_word i_wrong i_farCrossing m_read i_z0 i_crossings i_inns m_posts m_shut m_here i_steps i_done i_at i_gone m_was m_came m_seenAt m_rowWorth m_farBy m_used i_everywhere i_again0 i_d0 i_never i_firstCame i_longRun i_moved i_crowd i_l0 i_fitMany i_fitLeast i_fitMost m_fitPost m_fitEnd m_keptPosts i_x0], [zAr T 0 m_all 3952 f_all], [zAr T 0 m_posts 7 f_posts], [zAr T 0 m_shut 7 f_shut], [zAr T 0 m_here 7 f_here], [zAr T 0 m_was 7 f_was]] (fun (r : Int32) bs => ∃ (j_at : Int32) (j_gone : Int32) (j_steps : Int32) (j_moved : Int32) (j_firstCame : Int32) (j_never : Int32) (j_longRun : Int32) (g_posts : Nat → Int32) (g_shut : Nat → Int32) (g_here : Nat → Int32) (g_was : Nat → Int32), bs = [[zO11 mo m_all m_has i_size i_next i_where i_token i_number i_word i_wrong i_farCrossing m_read i_z0 i_crossings i_inns m_posts m_shut m_here j_steps i_done j_at j_gone m_was m_came m_seenAt m_rowWorth m_farBy m_used i_everywhere i_again0 i_d0 j_never j_firstCame j_longRun j_moved i_crowd i_l0 i_fitMany i_fitLeast i_fitMost m_fitPost m_fitEnd m_keptPosts i_x0], [zAr T 0 m_all 3952 f_all], [zAr T 0 m_posts 7 g_posts], [zAr T 0 m_shut 7 g_shut], [zAr T 0 m_here 7 g_here], [zAr T 0 m_was 7 g_was]] ∧ (r = 1 ∧ zDe i_crossings i_inns (zWo f_all i_z0 i_inns) (zRo f_all i_z0) (zLo f_all i_z0) d_ a_ b_ (f_posts, f_shut, f_here, i_steps, i_never) = some (g_posts, g_shut, g_here, j_steps, j_never) ∨ r = 0 ∧ zDe i_crossings i_inns (zWo f_all i_z0 i_inns) (zRo f_all i_z0) (zLo f_all i_z0) d_ a_ b_ (f_posts, f_shut, f_here, i_steps, i_never) = none ∧ g_posts = f_posts ∧ g_shut = f_shut ∧ g_here = f_here ∧ j_steps = i_steps ∧ j_never = i_never) ∧ zMV (zRo f_all i_z0) g_posts ∧ zMP g_posts ∧ (∀ m : Int, m ≤ 100000 → zHB m f_here → zHB (m + 1) g_here) ∧ zS15 g_shut ∧ (r = 1 → (∀ cw : Int32, (j_firstCame, j_longRun, j_moved, zCw i_inns g_here cw i_crossings.toInt.toNat) = zXe i_crossings i_inns (zWo f_all i_z0 i_inns) (zLo f_all i_z0) d_ a_ i_done (f_posts, f_shut, f_here, i_steps, i_never) (g_posts, g_shut, g_here, j_steps, j_never) (i_firstCame, i_longRun, i_moved, cw))) ∧ (r = 0 → j_firstCame = i_firstCame ∧ j_longRun = i_longRun ∧ j_moved = i_moved)) := by
  refine zMi_of (own := RX12) (by decide) rfl (Nat.le_of_ble_eq_true rfl) ?_
  intro p e s m args below meth c A ls C hr hlocks hnm hAe G hl
  refine zHide (fun Qz_ hQz_ => ?_)
  have hx := C.1
  have hb := C.2.1
  have hl : lv_has ls 4 [(0, .ref mo), (1, .int d_), (2, .int a_), (3, .int b_)] := hl
  have hz := hL.1
  have hcr := hL.cr
  refine lv_aload_n hx hb dX12_does_0 rfl (lv_at hl 0 rfl) ?_
  refine lv_iload_n hx hb dX12_does_1 rfl (lv_at hl 2 rfl) ?_
  refine z_Vi (bc := [[zO11 mo m_all m_has i_size i_next i_where i_token i_number i_word i_wrong i_farCrossing m_read i_z0 i_crossings i_inns m_posts m_shut m_here i_steps i_done i_at i_gone m_was m_came m_seenAt m_rowWorth m_farBy m_used i_everywhere i_again0 i_d0 i_never i_firstCame i_longRun i_moved i_crowd i_l0 i_fitMany i_fitLeast i_fitMost m_fitPost m_fitEnd m_keptPosts i_x0]]) (br := [[zAr T 0 m_all 3952 f_all], [zAr T 0 m_posts 7 f_posts], [zAr T 0 m_shut 7 f_shut], [zAr T 0 m_here 7 f_here], [zAr T 0 m_was 7 f_was]]) (As := [.int a_]) (rest := []) C G (c_m_isCrossing l T mo m_all m_has i_size i_next i_where i_token i_number i_word i_wrong i_farCrossing m_read i_z0 i_crossings i_inns m_posts m_shut m_here i_steps i_done i_at i_gone m_was m_came m_seenAt m_rowWorth m_farBy m_used i_everywhere i_again0 i_d0 i_never i_firstCame i_longRun i_moved i_crowd i_l0 i_fitMany i_fitLeast i_fitMost m_fitPost m_fitEnd m_keptPosts i_x0 a_ (by first | with_reducible assumption | with_reducible rfl | omega | assumption | rfl)) (kV_RX12_187 C.2.2.2.2 (Nat.le_of_ble_eq_true rfl) (Nat.le_of_ble_eq_true rfl)) [0] [0] rfl rfl (ci := 11) (qc := (RX12, TX12, 43)) rfl rfl (List.mem_flatten.mpr ⟨_, List.mem_of_getElem? (i := 0) rfl, List.mem_cons_self⟩) rfl rfl hl.1 dX12_does_2 (Nat.le_of_ble_eq_true rfl) (Nat.le_of_ble_eq_true rfl) (fun r_2 b1 H locs hw G => ?_)
  refine zAn2 hw ?_
  intro hbs9 hc_1
  clear hw
  subst hbs9
  have G : zS T A s.heap s [[zAr T 0 m_all 3952 f_all], [zAr T 0 m_posts 7 f_posts], [zAr T 0 m_shut 7 f_shut], [zAr T 0 m_here 7 f_here], [zAr T 0 m_was 7 f_was], [zO11 mo m_all m_has i_size i_next i_where i_token i_number i_word i_wrong i_farCrossing m_read i_z0 i_crossings i_inns m_posts m_shut m_here i_steps i_done i_at i_gone m_was m_came m_seenAt m_rowWorth m_farBy m_used i_everywhere i_again0 i_d0 i_never i_firstCame i_longRun i_moved i_crowd i_l0 i_fitMany i_fitLeast i_fitMost m_fitPost m_fitEnd m_keptPosts i_x0]] _ _ := G
  rcases hc_1 with ⟨rfl, h_3, h_4⟩ | ⟨rfl, h_5⟩
  · have h_3 : 0 ≤ a_.toInt := h_3
    have h_4 : a_.toInt < i_crossings.toInt := h_4
    refine lv_if_ne (tgt := 10) hx hb dX12_does_5 (by decide) (fun _ => ?_) (fun q => absurd q (by decide))
    refine lv_iload_n hx hb dX12_does_10 rfl (lv_at hl 1 rfl) ?_
    by_cases c_6o : d_.toInt < 0 ∨ 3 < d_.toInt
    · refine lv_tableOut (tgt := 80) hx hb dX12_does_11 c_6o (by decide) ?_
      refine lv_aload_n hx hb dX12_does_80 rfl (lv_at hl 0 rfl) ?_
      refine lv_iload_n hx hb dX12_does_81 rfl (lv_at hl 2 rfl) ?_
      refine lv_iload_n hx hb dX12_does_82 rfl (lv_at hl 3 rfl) ?_
      refine lv_iload_n hx hb dX12_does_83 rfl (lv_at hl 1 rfl) ?_
      refine lv_iconst (v := 4) hx hb dX12_does_84 (by decide) ?_
      refine lv_icmp_ne (tgt := 92) hx hb dX12_does_85 (by decide) (fun c_7 => ?_) (fun c_7 => ?_)
      · have c_7n : ¬ d_.toInt = (4 : Int) := fun q => c_7 ((fa_eq _ _).mpr q)
        refine lv_iconst (v := 0) hx hb dX12_does_92 (by decide) ?_
        refine z_Vi (bc := [[zO11 mo m_all m_has i_size i_next i_where i_token i_number i_word i_wrong i_farCrossing m_read i_z0 i_crossings i_inns m_posts m_shut m_here i_steps i_done i_at i_gone m_was m_came m_seenAt m_rowWorth m_farBy m_used i_everywhere i_again0 i_d0 i_never i_firstCame i_longRun i_moved i_crowd i_l0 i_fitMany i_fitLeast i_fitMost m_fitPost m_fitEnd m_keptPosts i_x0], [zAr T 0 m_all 3952 f_all], [zAr T 0 m_shut 7 f_shut]]) (br := [[zAr T 0 m_posts 7 f_posts], [zAr T 0 m_here 7 f_here], [zAr T 0 m_was 7 f_was]]) (As := [.int a_, .int b_, .int 0]) (rest := []) C G (c_fm_shuts0 l T mo m_all m_has i_size i_next i_where i_token i_number i_word i_wrong i_farCrossing m_read i_z0 i_crossings i_inns m_posts m_shut m_here i_steps i_done i_at i_gone m_was m_came m_seenAt m_rowWorth m_farBy m_used i_everywhere i_again0 i_d0 i_never i_firstCame i_longRun i_moved i_crowd i_l0 i_fitMany i_fitLeast i_fitMost m_fitPost m_fitEnd m_keptPosts i_x0 f_all f_shut a_ b_ (by first | with_reducible assumption | with_reducible rfl | omega | assumption | rfl) (by first | with_reducible assumption | with_reducible rfl | omega | assumption | rfl) (by first | with_reducible assumption | with_reducible rfl | omega | assumption | rfl) (by first | with_reducible assumption | with_reducible rfl | omega | assumption | rfl) (hb3 (by omega)).1 (hb3 (by omega)).2 (by first | with_reducible assumption | with_reducible rfl | omega | assumption | rfl)) (kV_RX12_335 C.2.2.2.2 (Nat.le_of_ble_eq_true rfl) (Nat.le_of_ble_eq_true rfl)) [5, 0, 2] [0, 1, 2] rfl rfl (ci := 11) (qc := (RX12, TX12, 43)) rfl rfl (List.mem_flatten.mpr ⟨_, List.mem_of_getElem? (i := 0) rfl, List.mem_cons_self⟩) rfl rfl hl.1 dX12_does_93 (Nat.le_of_ble_eq_true rfl) (Nat.le_of_ble_eq_true rfl) (fun r_11 b1 H locs hw G => ?_)
        refine zEx1 hw ?_
        intro g_shut_8
        refine zCu3 ?_
        intro hbs9 h_9 h_10
        clear hw
        subst hbs9
        have G : zS T A s.heap s [[zAr T 0 m_posts 7 f_posts], [zAr T 0 m_here 7 f_here], [zAr T 0 m_was 7 f_was], [zO11 mo m_all m_has i_size i_next i_where i_token i_number i_word i_wrong i_farCrossing m_read i_z0 i_crossings i_inns m_posts m_shut m_here i_steps i_done i_at i_gone m_was m_came m_seenAt m_rowWorth m_farBy m_used i_everywhere i_again0 i_d0 i_never i_firstCame i_longRun i_moved i_crowd i_l0 i_fitMany i_fitLeast i_fitMost m_fitPost m_fitEnd m_keptPosts i_x0], [zAr T 0 m_all 3952 f_all], [zAr T 0 m_shut 7 g_shut_8]] _ _ := G
        have G := G.sub (bs' := [[zO11 mo m_all m_has i_size i_next i_where i_token i_number i_word i_wrong i_farCrossing m_read i_z0 i_crossings i_inns m_posts m_shut m_here i_steps i_done i_at i_gone m_was m_came m_seenAt m_rowWorth m_farBy m_used i_everywhere i_again0 i_d0 i_never i_firstCame i_longRun i_moved i_crowd i_l0 i_fitMany i_fitLeast i_fitMost m_fitPost m_fitEnd m_keptPosts i_x0], [zAr T 0 m_all 3952 f_all], [zAr T 0 m_posts 7 f_posts], [zAr T 0 m_shut 7 g_shut_8], [zAr T 0 m_here 7 f_here], [zAr T 0 m_was 7 f_was]]) [3, 4, 0, 5, 1, 2] rfl
        exact z_back hQz_ (z_zret C hr hlocks G (Nat.le_of_ble_eq_true rfl) (Nat.le_of_ble_eq_true rfl) dX12_does_96 (by rcases h_9 f_posts f_here i_steps i_never with q | q <;> rw [q.1] <;> rfl) ⟨i_at, i_gone, i_steps, i_moved, i_firstCame, i_never, i_longRun, f_posts, g_shut_8, f_here, f_was, rfl, ((h_9 f_posts f_here i_steps i_never).elim (fun q8 => Or.inl ⟨q8.1, (zDe_k5 (by omega)).trans q8.2⟩) (fun q8 => Or.inr ⟨q8.1, (zDe_k5 (by omega)).trans q8.2.1, rfl, q8.2.2, rfl, rfl, rfl⟩)), hV, hP, (fun m hm hx => zHB_m hx (by omega)), h_10, (fun _ cw => Eq.symm (zXe_o ⟨by first | omega | decide, by first | omega | decide⟩)), (fun _ => ⟨rfl, rfl, rfl⟩)⟩)
      · have c_7n : d_.toInt = (4 : Int) := (fa_eq _ _).mp c_7
        refine lv_iconst (v := 1) hx hb dX12_does_88 (by decide) ?_
        refine lv_goto (tgt := 93) hx hb dX12_does_89 (by decide) ?_
        refine z_Vi (bc := [[zO11 mo m_all m_has i_size i_next i_where i_token i_number i_word i_wrong i_farCrossing m_read i_z0 i_crossings i_inns m_posts m_shut m_here i_steps i_done i_at i_gone m_was m_came m_seenAt m_rowWorth m_farBy m_used i_everywhere i_again0 i_d0 i_never i_firstCame i_longRun i_moved i_crowd i_l0 i_fitMany i_fitLeast i_fitMost m_fitPost m_fitEnd m_keptPosts i_x0], [zAr T 0 m_all 3952 f_all], [zAr T 0 m_shut 7 f_shut]]) (br := [[zAr T 0 m_posts 7 f_posts], [zAr T 0 m_here 7 f_here], [zAr T 0 m_was 7 f_was]]) (As := [.int a_, .int b_, .int 1]) (rest := []) C G (c_fm_shuts1 l T mo m_all m_has i_size i_next i_where i_token i_number i_word i_wrong i_farCrossing m_read i_z0 i_crossings i_inns m_posts m_shut m_here i_steps i_done i_at i_gone m_was m_came m_seenAt m_rowWorth m_farBy m_used i_everywhere i_again0 i_d0 i_never i_firstCame i_longRun i_moved i_crowd i_l0 i_fitMany i_fitLeast i_fitMost m_fitPost m_fitEnd m_keptPosts i_x0 f_all f_shut a_ b_ (by first | with_reducible assumption | with_reducible rfl | omega | assumption | rfl) (by first | with_reducible assumption | with_reducible rfl | omega | assumption | rfl) (by first | with_reducible assumption | with_reducible rfl | omega | assumption | rfl) (by first | with_reducible assumption | with_reducible rfl | omega | assumption | rfl) (hb3 (by omega)).1 (hb3 (by omega)).2 (by first | with_reducible assumption | with_reducible rfl | omega | assumption | rfl)) (kV_RX12_335 C.2.2.2.2 (Nat.le_of_ble_eq_true rfl) (Nat.le_of_ble_eq_true rfl)) [5, 0, 2] [0, 1, 2] rfl rfl (ci := 11) (qc := (RX12, TX12, 43)) rfl rfl (List.mem_flatten.mpr ⟨_, List.mem_of_getElem? (i := 0) rfl, List.mem_cons_self⟩) rfl rfl hl.1 dX12_does_93 (Nat.le_of_ble_eq_true rfl) (Nat.le_of_ble_eq_true rfl) (fun r_15 b1 H locs hw G => ?_)
        refine zEx1 hw ?_
        intro g_shut_12
        refine zCu3 ?_
        intro hbs9 h_13 h_14
        clear hw
        subst hbs9
        have G : zS T A s.heap s [[zAr T 0 m_posts 7 f_posts], [zAr T 0 m_here 7 f_here], [zAr T 0 m_was 7 f_was], [zO11 mo m_all m_has i_size i_next i_where i_token i_number i_word i_wrong i_farCrossing m_read i_z0 i_crossings i_inns m_posts m_shut m_here i_steps i_done i_at i_gone m_was m_came m_seenAt m_rowWorth m_farBy m_used i_everywhere i_again0 i_d0 i_never i_firstCame i_longRun i_moved i_crowd i_l0 i_fitMany i_fitLeast i_fitMost m_fitPost m_fitEnd m_keptPosts i_x0], [zAr T 0 m_all 3952 f_all], [zAr T 0 m_shut 7 g_shut_12]] _ _ := G
        have G := G.sub (bs' := [[zO11 mo m_all m_has i_size i_next i_where i_token i_number i_word i_wrong i_farCrossing m_read i_z0 i_crossings i_inns m_posts m_shut m_here i_steps i_done i_at i_gone m_was m_came m_seenAt m_rowWorth m_farBy m_used i_everywhere i_again0 i_d0 i_never i_firstCame i_longRun i_moved i_crowd i_l0 i_fitMany i_fitLeast i_fitMost m_fitPost m_fitEnd m_keptPosts i_x0], [zAr T 0 m_all 3952 f_all], [zAr T 0 m_posts 7 f_posts], [zAr T 0 m_shut 7 g_shut_12], [zAr T 0 m_here 7 f_here], [zAr T 0 m_was 7 f_was]]) [3, 4, 0, 5, 1, 2] rfl
        exact z_back hQz_ (z_zret C hr hlocks G (Nat.le_of_ble_eq_true rfl) (Nat.le_of_ble_eq_true rfl) dX12_does_96 (by rcases h_13 f_posts f_here i_steps i_never with q | q <;> rw [q.1] <;> rfl) ⟨i_at, i_gone, i_steps, i_moved, i_firstCame, i_never, i_longRun, f_posts, g_shut_12, f_here, f_was, rfl, ((h_13 f_posts f_here i_steps i_never).elim (fun q8 => Or.inl ⟨q8.1, (zDe_k4 (by omega)).trans q8.2⟩) (fun q8 => Or.inr ⟨q8.1, (zDe_k4 (by omega)).trans q8.2.1, rfl, q8.2.2, rfl, rfl, rfl⟩)), hV, hP, (fun m hm hx => zHB_m hx (by omega)), h_14, (fun _ cw => Eq.symm (zXe_o ⟨by first | omega | decide, by first | omega | decide⟩)), (fun _ => ⟨rfl, rfl, rfl⟩)⟩)
    · have c_6r : d_.toInt = 0 ∨ d_.toInt = 1 ∨ d_.toInt = 2 ∨ d_.toInt = 3 := by omega
      rcases c_6r with c_6 | c_6 | c_6 | c_6
      · refine lv_tableIn (tgt := 40) hx hb dX12_does_11 (by first | (rw [c_6]; decide) | omega) (by first | (rw [c_6]; decide) | omega) (by rw [c_6]; rfl) (by decide) ?_
        refine lv_aload_n hx hb dX12_does_40 rfl (lv_at hl 0 rfl) ?_
        refine lv_iload_n hx hb dX12_does_41 rfl (lv_at hl 2 rfl) ?_
        refine z_Vi (bc := [[zO11 mo m_all m_has i_size i_next i_where i_token i_number i_word i_wrong i_farCrossing m_read i_z0 i_crossings i_inns m_posts m_shut m_here i_steps i_done i_at i_gone m_was m_came m_seenAt m_rowWorth m_farBy m_used i_everywhere i_again0 i_d0 i_never i_firstCame i_longRun i_moved i_crowd i_l0 i_fitMany i_fitLeast i_fitMost m_fitPost m_fitEnd m_keptPosts i_x0], [zAr T 0 m_all 3952 f_all], [zAr T 0 m_posts 7 f_posts], [zAr T 0 m_shut 7 f_shut], [zAr T 0 m_here 7 f_here], [zAr T 0 m_was 7 f_was]]) (br := []) (As := [.int a_]) (rest := []) C G (c_x_goes l T mo m_all m_has i_size i_next i_where i_token i_number i_word i_wrong i_farCrossing m_read i_z0 i_crossings i_inns m_posts m_shut m_here i_steps i_done i_at i_gone m_was m_came m_seenAt m_rowWorth m_farBy m_used i_everywhere i_again0 i_d0 i_never i_firstCame i_longRun i_moved i_crowd i_l0 i_fitMany i_fitLeast i_fitMost m_fitPost m_fitEnd m_keptPosts i_x0 f_all f_posts f_shut f_here f_was a_ (by first | with_reducible assumption | with_reducible rfl | omega | assumption | rfl) (by first | with_reducible assumption | with_reducible rfl | omega | assumption | rfl) (by first | with_reducible assumption | with_reducible rfl | omega | assumption | rfl) (by first | with_reducible assumption | with_reducible rfl | omega | assumption | rfl) (by first | with_reducible assumption | with_reducible rfl | omega | assumption | rfl) (by first | with_reducible assumption | with_reducible rfl | omega | assumption | rfl) (by first | with_reducible assumption | with_reducible rfl | omega | assumption | rfl)) (kV_RX12_326 C.2.2.2.2 (Nat.le_of_ble_eq_true rfl) (Nat.le_of_ble_eq_true rfl)) [5, 0, 1, 2, 3, 4] [0, 0, 0, 0, 0, 0] rfl rfl (ci := 11) (qc := (RX12, TX12, 43)) rfl rfl (List.mem_flatten.mpr ⟨_, List.mem_of_getElem? (i := 0) rfl, List.mem_cons_self⟩) rfl rfl hl.1 dX12_does_42 (Nat.le_of_ble_eq_true rfl) (Nat.le_of_ble_eq_true rfl) (fun r_30 b1 H locs hw G => ?_)
        refine zEx8 hw ?_
        intro j_at_16 j_gone_17 j_steps_18 j_moved_19 j_firstCame_20 g_posts_21 g_here_22 g_was_23
        refine zCu7 ?_
        intro hbs9 h_24 h_25 h_26 h_27 h_28 h_29
        clear hw
        subst hbs9
        have G : zS T A s.heap s [[zO11 mo m_all m_has i_size i_next i_where i_token i_number i_word i_wrong i_farCrossing m_read i_z0 i_crossings i_inns m_posts m_shut m_here j_steps_18 i_done j_at_16 j_gone_17 m_was m_came m_seenAt m_rowWorth m_farBy m_used i_everywhere i_again0 i_d0 i_never j_firstCame_20 i_longRun j_moved_19 i_crowd i_l0 i_fitMany i_fitLeast i_fitMost m_fitPost m_fitEnd m_keptPosts i_x0], [zAr T 0 m_all 3952 f_all], [zAr T 0 m_posts 7 g_posts_21], [zAr T 0 m_shut 7 f_shut], [zAr T 0 m_here 7 g_here_22], [zAr T 0 m_was 7 g_was_23]] _ _ := G
        replace h_24 : zHd ((r_30 = 1 ∧ zGoF i_crossings (zWo f_all i_z0 i_inns) (zLo f_all i_z0) a_ (f_posts, f_shut, f_here, i_steps, i_never) = some (g_posts_21, f_shut, g_here_22, j_steps_18, i_never) ∨ r_30 = 0 ∧ zGoF i_crossings (zWo f_all i_z0 i_inns) (zLo f_all i_z0) a_ (f_posts, f_shut, f_here, i_steps, i_never) = none ∧ g_posts_21 = f_posts ∧ g_here_22 = f_here ∧ j_steps_18 = i_steps)) := h_24
        replace h_28 : zHd ((r_30 = 1 → j_moved_19 = zXm i_moved a_ (zStep f_posts f_shut (zWo f_all i_z0 i_inns) (zLo f_all i_z0) a_) ∧ j_firstCame_20 = zXf i_inns i_firstCame i_done a_ (zStep f_posts f_shut (zWo f_all i_z0 i_inns) (zLo f_all i_z0) a_))) := h_28
        replace h_29 : zHd ((r_30 = 0 → j_moved_19 = i_moved ∧ j_firstCame_20 = i_firstCame)) := h_29
        exact z_back hQz_ (z_zret C hr hlocks G (Nat.le_of_ble_eq_true rfl) (Nat.le_of_ble_eq_true rfl) dX12_does_45 (by rcases h_24 with q | q <;> rw [q.1] <;> rfl) ⟨j_at_16, j_gone_17, j_steps_18, j_moved_19, j_firstCame_20, i_never, i_longRun, g_posts_21, f_shut, g_here_22, g_was_23, rfl, ((h_24).elim (fun q8 => Or.inl ⟨q8.1, (zDe_k0 (by omega)).trans q8.2⟩) (fun q8 => Or.inr ⟨q8.1, (zDe_k0 (by omega)).trans q8.2.1, q8.2.2.1, rfl, q8.2.2.2.1, q8.2.2.2.2, rfl⟩)), h_25, h_26, h_27, hS5, (fun q9 cw => by rw [zXe_0 (by omega)]; have q7 := h_28 q9; rw [q7.1, q7.2]), (fun q9 => ⟨(h_29 q9).2, rfl, (h_29 q9).1⟩)⟩)
      · refine lv_tableIn (tgt := 46) hx hb dX12_does_11 (by first | (rw [c_6]; decide) | omega) (by first | (rw [c_6]; decide) | omega) (by rw [c_6]; rfl) (by decide) ?_
        refine lv_aload_n hx hb dX12_does_46 rfl (lv_at hl 0 rfl) ?_
        refine lv_iload_n hx hb dX12_does_47 rfl (lv_at hl 2 rfl) ?_
        refine z_Vi (bc := [[zO11 mo m_all m_has i_size i_next i_where i_token i_number i_word i_wrong i_farCrossing m_read i_z0 i_crossings i_inns m_posts m_shut m_here i_steps i_done i_at i_gone m_was m_came m_seenAt m_rowWorth m_farBy m_used i_everywhere i_again0 i_d0 i_never i_firstCame i_longRun i_moved i_crowd i_l0 i_fitMany i_fitLeast i_fitMost m_fitPost m_fitEnd m_keptPosts i_x0], [zAr T 0 m_all 3952 f_all], [zAr T 0 m_posts 7 f_posts], [zAr T 0 m_shut 7 f_shut], [zAr T 0 m_here 7 f_here], [zAr T 0 m_was 7 f_was]]) (br := []) (As := [.int a_]) (rest := []) C G (c_x_runs0 l T mo m_all m_has i_size i_next i_where i_token i_number i_word i_wrong i_farCrossing m_read i_z0 i_crossings i_inns m_posts m_shut m_here i_steps i_done i_at i_gone m_was m_came m_seenAt m_rowWorth m_farBy m_used i_everywhere i_again0 i_d0 i_never i_firstCame i_longRun i_moved i_crowd i_l0 i_fitMany i_fitLeast i_fitMost m_fitPost m_fitEnd m_keptPosts i_x0 f_all f_posts f_shut f_here f_was a_ (by first | with_reducible assumption | with_reducible rfl | omega | assumption | rfl) (by first | with_reducible assumption | with_reducible rfl | omega | assumption | rfl) (by first | with_reducible assumption | with_reducible rfl | omega | assumption | rfl) (by first | with_reducible assumption | with_reducible rfl | omega | assumption | rfl) (by first | with_reducible assumption | with_reducible rfl | omega | assumption | rfl) (by first | with_reducible assumption | with_reducible rfl | omega | assumption | rfl) (by first | with_reducible assumption | with_reducible rfl | omega | assumption | rfl)) (kV_RX12_329 C.2.2.2.2 (Nat.le_of_ble_eq_true rfl) (Nat.le_of_ble_eq_true rfl)) [5, 0, 1, 2, 3, 4] [0, 0, 0, 0, 0, 0] rfl rfl (ci := 11) (qc := (RX12, TX12, 43)) rfl rfl (List.mem_flatten.mpr ⟨_, List.mem_of_getElem? (i := 0) rfl, List.mem_cons_self⟩) rfl rfl hl.1 dX12_does_48 (Nat.le_of_ble_eq_true rfl) (Nat.le_of_ble_eq_true rfl) (fun r_47 b1 H locs hw G => ?_)
        refine zEx10 hw ?_
        intro j_at_31 j_gone_32 j_steps_33 j_moved_34 j_firstCame_35 j_never_36 j_longRun_37 g_posts_38 g_here_39 g_was_40
        refine zCu7 ?_
        intro hbs9 h_41 h_42 h_43 h_44 h_45 h_46
        clear hw
        subst hbs9
        have G : zS T A s.heap s [[zO11 mo m_all m_has i_size i_next i_where i_token i_number i_word i_wrong i_farCrossing m_read i_z0 i_crossings i_inns m_posts m_shut m_here j_steps_33 i_done j_at_31 j_gone_32 m_was m_came m_seenAt m_rowWorth m_farBy m_used i_everywhere i_again0 i_d0 j_never_36 j_firstCame_35 j_longRun_37 j_moved_34 i_crowd i_l0 i_fitMany i_fitLeast i_fitMost m_fitPost m_fitEnd m_keptPosts i_x0], [zAr T 0 m_all 3952 f_all], [zAr T 0 m_posts 7 g_posts_38], [zAr T 0 m_shut 7 f_shut], [zAr T 0 m_here 7 g_here_39], [zAr T 0 m_was 7 g_was_40]] _ _ := G
        replace h_41 : zHd ((r_47 = 1 ∧ zRuF i_crossings i_inns (zWo f_all i_z0 i_inns) (zLo f_all i_z0) a_ (f_posts, f_shut, f_here, i_steps, i_never) = some (g_posts_38, f_shut, g_here_39, j_steps_33, j_never_36) ∨ r_47 = 0 ∧ zRuF i_crossings i_inns (zWo f_all i_z0 i_inns) (zLo f_all i_z0) a_ (f_posts, f_shut, f_here, i_steps, i_never) = none ∧ g_posts_38 = f_posts ∧ g_here_39 = f_here ∧ j_steps_33 = i_steps ∧ j_never_36 = i_never)) := h_41
        replace h_45 : zHd ((r_47 = 1 → j_moved_34 = zXm i_moved a_ (zRunN f_shut (zWo f_all i_z0 i_inns) (zLo f_all i_z0) 499 f_posts a_ 0).2.1 ∧ j_firstCame_35 = zXf i_inns i_firstCame i_done a_ (zRunN f_shut (zWo f_all i_z0 i_inns) (zLo f_all i_z0) 499 f_posts a_ 0).2.1 ∧ j_longRun_37 = zXl i_longRun (nI (zRunN f_shut (zWo f_all i_z0 i_inns) (zLo f_all i_z0) 499 f_posts a_ 0).2.2))) := h_45
        replace h_46 : zHd ((r_47 = 0 → j_moved_34 = i_moved ∧ j_firstCame_35 = i_firstCame ∧ j_longRun_37 = i_longRun)) := h_46
        exact z_back hQz_ (z_zret C hr hlocks G (Nat.le_of_ble_eq_true rfl) (Nat.le_of_ble_eq_true rfl) dX12_does_51 (by rcases h_41 with q | q <;> rw [q.1] <;> rfl) ⟨j_at_31, j_gone_32, j_steps_33, j_moved_34, j_firstCame_35, j_never_36, j_longRun_37, g_posts_38, f_shut, g_here_39, g_was_40, rfl, ((h_41).elim (fun q8 => Or.inl ⟨q8.1, (zDe_k1 (by omega)).trans q8.2⟩) (fun q8 => Or.inr ⟨q8.1, (zDe_k1 (by omega)).trans q8.2.1, q8.2.2.1, rfl, q8.2.2.2.1, q8.2.2.2.2.1, q8.2.2.2.2.2⟩)), h_42, h_43, h_44, hS5, (fun q9 cw => by rw [zXe_1 (by omega)]; have q7 := h_45 q9; rw [q7.1, q7.2.1, q7.2.2]), (fun q9 => ⟨(h_46 q9).2.1, (h_46 q9).2.2, (h_46 q9).1⟩)⟩)
      · refine lv_tableIn (tgt := 52) hx hb dX12_does_11 (by first | (rw [c_6]; decide) | omega) (by first | (rw [c_6]; decide) | omega) (by rw [c_6]; rfl) (by decide) ?_
        refine lv_aload_n hx hb dX12_does_52 rfl (lv_at hl 0 rfl) ?_
        refine lv_iload_n hx hb dX12_does_53 rfl (lv_at hl 2 rfl) ?_
        refine z_Vi (bc := [[zO11 mo m_all m_has i_size i_next i_where i_token i_number i_word i_wrong i_farCrossing m_read i_z0 i_crossings i_inns m_posts m_shut m_here i_steps i_done i_at i_gone m_was m_came m_seenAt m_rowWorth m_farBy m_used i_everywhere i_again0 i_d0 i_never i_firstCame i_longRun i_moved i_crowd i_l0 i_fitMany i_fitLeast i_fitMost m_fitPost m_fitEnd m_keptPosts i_x0]]) (br := [[zAr T 0 m_all 3952 f_all], [zAr T 0 m_posts 7 f_posts], [zAr T 0 m_shut 7 f_shut], [zAr T 0 m_here 7 f_here], [zAr T 0 m_was 7 f_was]]) (As := [.int a_]) (rest := []) C G (c_m_isInn l T mo m_all m_has i_size i_next i_where i_token i_number i_word i_wrong i_farCrossing m_read i_z0 i_crossings i_inns m_posts m_shut m_here i_steps i_done i_at i_gone m_was m_came m_seenAt m_rowWorth m_farBy m_used i_everywhere i_again0 i_d0 i_never i_firstCame i_longRun i_moved i_crowd i_l0 i_fitMany i_fitLeast i_fitMost m_fitPost m_fitEnd m_keptPosts i_x0 a_) (kV_RX12_178 C.2.2.2.2 (Nat.le_of_ble_eq_true rfl) (Nat.le_of_ble_eq_true rfl)) [5] [5] rfl rfl (ci := 11) (qc := (RX12, TX12, 43)) rfl rfl (List.mem_flatten.mpr ⟨_, List.mem_of_getElem? (i := 0) rfl, List.mem_cons_self⟩) rfl rfl hl.1 dX12_does_54 (Nat.le_of_ble_eq_true rfl) (Nat.le_of_ble_eq_true rfl) (fun r_49 b1 H locs hw G => ?_)
        refine zAn2 hw ?_
        intro hbs9 hc_48
        clear hw
        subst hbs9
        have G : zS T A s.heap s [[zAr T 0 m_all 3952 f_all], [zAr T 0 m_posts 7 f_posts], [zAr T 0 m_shut 7 f_shut], [zAr T 0 m_here 7 f_here], [zAr T 0 m_was 7 f_was], [zO11 mo m_all m_has i_size i_next i_where i_token i_number i_word i_wrong i_farCrossing m_read i_z0 i_crossings i_inns m_posts m_shut m_here i_steps i_done i_at i_gone m_was m_came m_seenAt m_rowWorth m_farBy m_used i_everywhere i_again0 i_d0 i_never i_firstCame i_longRun i_moved i_crowd i_l0 i_fitMany i_fitLeast i_fitMost m_fitPost m_fitEnd m_keptPosts i_x0]] _ _ := G
        rcases hc_48 with ⟨rfl, h_50⟩ | ⟨rfl, h_51⟩
        · have h_50 : zInn i_inns a_ := h_50
          refine lv_if_ne (tgt := 72) hx hb dX12_does_57 (by decide) (fun _ => ?_) (fun q => absurd q (by decide))
          refine lv_iconst (v := 0) hx hb dX12_does_72 (by decide) ?_
          have G := G.sub (bs' := [[zO11 mo m_all m_has i_size i_next i_where i_token i_number i_word i_wrong i_farCrossing m_read i_z0 i_crossings i_inns m_posts m_shut m_here i_steps i_done i_at i_gone m_was m_came m_seenAt m_rowWorth m_farBy m_used i_everywhere i_again0 i_d0 i_never i_firstCame i_longRun i_moved i_crowd i_l0 i_fitMany i_fitLeast i_fitMost m_fitPost m_fitEnd m_keptPosts i_x0], [zAr T 0 m_all 3952 f_all], [zAr T 0 m_posts 7 f_posts], [zAr T 0 m_shut 7 f_shut], [zAr T 0 m_here 7 f_here], [zAr T 0 m_was 7 f_was]]) [5, 0, 1, 2, 3, 4] rfl
          exact z_back hQz_ (z_zret C hr hlocks G (Nat.le_of_ble_eq_true rfl) (Nat.le_of_ble_eq_true rfl) dX12_does_73 rfl ⟨i_at, i_gone, i_steps, i_moved, i_firstCame, i_never, i_longRun, f_posts, f_shut, f_here, f_was, rfl, (Or.inr ⟨rfl, (zDe_k2 (by omega)).trans (zTuF_n (zTurn_inn (by first | with_reducible assumption | assumption) (by omega) (by omega)) (zPost_inn (by first | with_reducible assumption | assumption) (by omega) (by omega))).1, rfl, rfl, rfl, rfl, rfl⟩), hV, hP, (fun m hm hx => zHB_m hx (by omega)), hS5, (fun q8 => absurd q8 (by decide)), (fun _ => ⟨rfl, rfl, rfl⟩)⟩)
        · have h_51 : ¬ zInn i_inns a_ := h_51
          refine lv_if_ne (tgt := 72) hx hb dX12_does_57 (by decide) (fun q => absurd (by decide) q) (fun _ => ?_)
          refine lv_aload_n hx hb dX12_does_60 rfl (lv_at hl 0 rfl) ?_
          refine lv_iload_n hx hb dX12_does_61 rfl (lv_at hl 2 rfl) ?_
          refine z_Vi (bc := [[zO11 mo m_all m_has i_size i_next i_where i_token i_number i_word i_wrong i_farCrossing m_read i_z0 i_crossings i_inns m_posts m_shut m_here i_steps i_done i_at i_gone m_was m_came m_seenAt m_rowWorth m_farBy m_used i_everywhere i_again0 i_d0 i_never i_firstCame i_longRun i_moved i_crowd i_l0 i_fitMany i_fitLeast i_fitMost m_fitPost m_fitEnd m_keptPosts i_x0], [zAr T 0 m_all 3952 f_all], [zAr T 0 m_posts 7 f_posts], [zAr T 0 m_shut 7 f_shut]]) (br := [[zAr T 0 m_here 7 f_here], [zAr T 0 m_was 7 f_was]]) (As := [.int a_]) (rest := []) C G (c_fm_turns l T mo m_all m_has i_size i_next i_where i_token i_number i_word i_wrong i_farCrossing m_read i_z0 i_crossings i_inns m_posts m_shut m_here i_steps i_done i_at i_gone m_was m_came m_seenAt m_rowWorth m_farBy m_used i_everywhere i_again0 i_d0 i_never i_firstCame i_longRun i_moved i_crowd i_l0 i_fitMany i_fitLeast i_fitMost m_fitPost m_fitEnd m_keptPosts i_x0 f_all f_posts f_shut a_ (by first | with_reducible assumption | with_reducible rfl | omega | assumption | rfl) (by first | with_reducible assumption | with_reducible rfl | omega | assumption | rfl) (by first | with_reducible assumption | with_reducible rfl | omega | assumption | rfl) (by first | with_reducible assumption | with_reducible rfl | omega | assumption | rfl) (by first | with_reducible assumption | with_reducible rfl | omega | assumption | rfl)) (kV_RX12_205 C.2.2.2.2 (Nat.le_of_ble_eq_true rfl) (Nat.le_of_ble_eq_true rfl)) [5, 0, 1, 2] [0, 0, 0, 2] rfl rfl (ci := 11) (qc := (RX12, TX12, 43)) rfl rfl (List.mem_flatten.mpr ⟨_, List.mem_of_getElem? (i := 0) rfl, List.mem_cons_self⟩) rfl rfl hl.1 dX12_does_62 (Nat.le_of_ble_eq_true rfl) (Nat.le_of_ble_eq_true rfl) (fun r_57 b1 H locs hw G => ?_)
          refine zEx1 hw ?_
          intro g_posts_52
          refine zCu5 ?_
          intro hbs9 h_53 h_54 h_55 hc_56
          clear hw
          subst hbs9
          have G : zS T A s.heap s [[zAr T 0 m_here 7 f_here], [zAr T 0 m_was 7 f_was], [zO11 mo m_all m_has i_size i_next i_where i_token i_number i_word i_wrong i_farCrossing m_read i_z0 i_crossings i_inns m_posts m_shut m_here i_steps i_done i_at i_gone m_was m_came m_seenAt m_rowWorth m_farBy m_used i_everywhere i_again0 i_d0 i_never i_firstCame i_longRun i_moved i_crowd i_l0 i_fitMany i_fitLeast i_fitMost m_fitPost m_fitEnd m_keptPosts i_x0], [zAr T 0 m_all 3952 f_all], [zAr T 0 m_posts 7 g_posts_52], [zAr T 0 m_shut 7 f_shut]] _ _ := G
          rcases hc_56 with ⟨rfl, h_58, h_59⟩ | ⟨rfl, h_60⟩
          · have h_58 : ¬ zTurn f_posts f_shut (zRo f_all i_z0) a_ = -1 := h_58
            have h_59 : 0 < (zRd f_all i_z0 a_).toInt := h_59
            refine lv_if_eq (tgt := 72) hx hb dX12_does_65 (by decide) (fun q => absurd q (by decide)) (fun _ => ?_)
            refine lv_iconst (v := 1) hx hb dX12_does_68 (by decide) ?_
            refine lv_goto (tgt := 73) hx hb dX12_does_69 (by decide) ?_
            have G := G.sub (bs' := [[zO11 mo m_all m_has i_size i_next i_where i_token i_number i_word i_wrong i_farCrossing m_read i_z0 i_crossings i_inns m_posts m_shut m_here i_steps i_done i_at i_gone m_was m_came m_seenAt m_rowWorth m_farBy m_used i_everywhere i_again0 i_d0 i_never i_firstCame i_longRun i_moved i_crowd i_l0 i_fitMany i_fitLeast i_fitMost m_fitPost m_fitEnd m_keptPosts i_x0], [zAr T 0 m_all 3952 f_all], [zAr T 0 m_posts 7 g_posts_52], [zAr T 0 m_shut 7 f_shut], [zAr T 0 m_here 7 f_here], [zAr T 0 m_was 7 f_was]]) [2, 3, 4, 5, 0, 1] rfl
            exact z_back hQz_ (z_zret C hr hlocks G (Nat.le_of_ble_eq_true rfl) (Nat.le_of_ble_eq_true rfl) dX12_does_73 rfl ⟨i_at, i_gone, i_steps, i_moved, i_firstCame, i_never, i_longRun, g_posts_52, f_shut, f_here, f_was, rfl, (Or.inl ⟨rfl, (zDe_k2 (by omega)).trans (zTuF_i ⟨⟨by omega, by omega, by omega⟩, fun q8 => h_58 ((zTurn_wo (show ¬ zBit i_inns a_ = 1 by first | with_reducible assumption | assumption) (by omega) (by omega)).symm.trans q8)⟩ (h_55.trans (zPost_wo (show ¬ zBit i_inns a_ = 1 by first | with_reducible assumption | assumption) (by omega) (by omega)).symm))⟩), h_54, h_53, (fun m hm hx => zHB_m hx (by omega)), hS5, (fun _ cw => Eq.symm (zXe_o ⟨by first | omega | decide, by first | omega | decide⟩)), (fun q8 => absurd q8 (by decide))⟩)
          · have h_60 : zTurn f_posts f_shut (zRo f_all i_z0) a_ = -1 := h_60
            refine lv_if_eq (tgt := 72) hx hb dX12_does_65 (by decide) (fun _ => ?_) (fun q => absurd (by decide) q)
            refine lv_iconst (v := 0) hx hb dX12_does_72 (by decide) ?_
            have G := G.sub (bs' := [[zO11 mo m_all m_has i_size i_next i_where i_token i_number i_word i_wrong i_farCrossing m_read i_z0 i_crossings i_inns m_posts m_shut m_here i_steps i_done i_at i_gone m_was m_came m_seenAt m_rowWorth m_farBy m_used i_everywhere i_again0 i_d0 i_never i_firstCame i_longRun i_moved i_crowd i_l0 i_fitMany i_fitLeast i_fitMost m_fitPost m_fitEnd m_keptPosts i_x0], [zAr T 0 m_all 3952 f_all], [zAr T 0 m_posts 7 g_posts_52], [zAr T 0 m_shut 7 f_shut], [zAr T 0 m_here 7 f_here], [zAr T 0 m_was 7 f_was]]) [2, 3, 4, 5, 0, 1] rfl
            exact z_back hQz_ (z_zret C hr hlocks G (Nat.le_of_ble_eq_true rfl) (Nat.le_of_ble_eq_true rfl) dX12_does_73 rfl ⟨i_at, i_gone, i_steps, i_moved, i_firstCame, i_never, i_longRun, g_posts_52, f_shut, f_here, f_was, rfl, (Or.inr ⟨rfl, (zDe_k2 (by omega)).trans (zTuF_n (cr := i_crossings) (H := f_here) (st := i_steps) (nv := i_never) ((zTurn_wo (show ¬ zBit i_inns a_ = 1 by first | with_reducible assumption | assumption) (by omega) (by omega)).trans h_60) (h_55.trans (zPost_wo (show ¬ zBit i_inns a_ = 1 by first | with_reducible assumption | assumption) (by omega) (by omega)).symm)).1, (zTuF_n (cr := i_crossings) (H := f_here) (st := i_steps) (nv := i_never) ((zTurn_wo (show ¬ zBit i_inns a_ = 1 by first | with_reducible assumption | assumption) (by omega) (by omega)).trans h_60) (h_55.trans (zPost_wo (show ¬ zBit i_inns a_ = 1 by first | with_reducible assumption | assumption) (by omega) (by omega)).symm)).2, rfl, rfl, rfl, rfl⟩), h_54, h_53, (fun m hm hx => zHB_m hx (by omega)), hS5, (fun q8 => absurd q8 (by decide)), (fun _ => ⟨rfl, rfl, rfl⟩)⟩)
      · refine lv_tableIn (tgt := 74) hx hb dX12_does_11 (by first | (rw [c_6]; decide) | omega) (by first | (rw [c_6]; decide) | omega) (by rw [c_6]; rfl) (by decide) ?_
        refine lv_aload_n hx hb dX12_does_74 rfl (lv_at hl 0 rfl) ?_
        refine lv_iload_n hx hb dX12_does_75 rfl (lv_at hl 2 rfl) ?_
        refine z_Vi (bc := [[zO11 mo m_all m_has i_size i_next i_where i_token i_number i_word i_wrong i_farCrossing m_read i_z0 i_crossings i_inns m_posts m_shut m_here i_steps i_done i_at i_gone m_was m_came m_seenAt m_rowWorth m_farBy m_used i_everywhere i_again0 i_d0 i_never i_firstCame i_longRun i_moved i_crowd i_l0 i_fitMany i_fitLeast i_fitMost m_fitPost m_fitEnd m_keptPosts i_x0], [zAr T 0 m_here 7 f_here]]) (br := [[zAr T 0 m_all 3952 f_all], [zAr T 0 m_posts 7 f_posts], [zAr T 0 m_shut 7 f_shut], [zAr T 0 m_was 7 f_was]]) (As := [.int a_]) (rest := []) C G (c_fm_adds l T mo m_all m_has i_size i_next i_where i_token i_number i_word i_wrong i_farCrossing m_read i_z0 i_crossings i_inns m_posts m_shut m_here i_steps i_done i_at i_gone m_was m_came m_seenAt m_rowWorth m_farBy m_used i_everywhere i_again0 i_d0 i_never i_firstCame i_longRun i_moved i_crowd i_l0 i_fitMany i_fitLeast i_fitMost m_fitPost m_fitEnd m_keptPosts i_x0 f_here a_ (by first | with_reducible assumption | with_reducible rfl | omega | assumption | rfl) (by first | with_reducible assumption | with_reducible rfl | omega | assumption | rfl) (by first | with_reducible assumption | with_reducible rfl | omega | assumption | rfl) (by first | with_reducible assumption | with_reducible rfl | omega | assumption | rfl)) (kV_RX12_332 C.2.2.2.2 (Nat.le_of_ble_eq_true rfl) (Nat.le_of_ble_eq_true rfl)) [5, 3] [3, 1] rfl rfl (ci := 11) (qc := (RX12, TX12, 43)) rfl rfl (List.mem_flatten.mpr ⟨_, List.mem_of_getElem? (i := 0) rfl, List.mem_cons_self⟩) rfl rfl hl.1 dX12_does_76 (Nat.le_of_ble_eq_true rfl) (Nat.le_of_ble_eq_true rfl) (fun r_64 b1 H locs hw G => ?_)
        refine zEx1 hw ?_
        intro g_here_61
        refine zCu3 ?_
        intro hbs9 h_62 h_63
        clear hw
        subst hbs9
        have G : zS T A s.heap s [[zAr T 0 m_all 3952 f_all], [zAr T 0 m_posts 7 f_posts], [zAr T 0 m_shut 7 f_shut], [zAr T 0 m_was 7 f_was], [zO11 mo m_all m_has i_size i_next i_where i_token i_number i_word i_wrong i_farCrossing m_read i_z0 i_crossings i_inns m_posts m_shut m_here i_steps i_done i_at i_gone m_was m_came m_seenAt m_rowWorth m_farBy m_used i_everywhere i_again0 i_d0 i_never i_firstCame i_longRun i_moved i_crowd i_l0 i_fitMany i_fitLeast i_fitMost m_fitPost m_fitEnd m_keptPosts i_x0], [zAr T 0 m_here 7 g_here_61]] _ _ := G
        have G := G.sub (bs' := [[zO11 mo m_all m_has i_size i_next i_where i_token i_number i_word i_wrong i_farCrossing m_read i_z0 i_crossings i_inns m_posts m_shut m_here i_steps i_done i_at i_gone m_was m_came m_seenAt m_rowWorth m_farBy m_used i_everywhere i_again0 i_d0 i_never i_firstCame i_longRun i_moved i_crowd i_l0 i_fitMany i_fitLeast i_fitMost m_fitPost m_fitEnd m_keptPosts i_x0], [zAr T 0 m_all 3952 f_all], [zAr T 0 m_posts 7 f_posts], [zAr T 0 m_shut 7 f_shut], [zAr T 0 m_here 7 g_here_61], [zAr T 0 m_was 7 f_was]]) [4, 0, 1, 2, 5, 3] rfl
        exact z_back hQz_ (z_zret C hr hlocks G (Nat.le_of_ble_eq_true rfl) (Nat.le_of_ble_eq_true rfl) dX12_does_79 (by rcases h_62 f_posts f_shut i_steps i_never with q | q <;> rw [q.1] <;> rfl) ⟨i_at, i_gone, i_steps, i_moved, i_firstCame, i_never, i_longRun, f_posts, f_shut, g_here_61, f_was, rfl, ((h_62 f_posts f_shut i_steps i_never).elim (fun q8 => Or.inl ⟨q8.1, (zDe_k3 (by omega)).trans q8.2⟩) (fun q8 => Or.inr ⟨q8.1, (zDe_k3 (by omega)).trans q8.2.1, rfl, rfl, q8.2.2, rfl, rfl⟩)), hV, hP, h_63, hS5, (fun _ cw => Eq.symm (zXe_o ⟨by first | omega | decide, by first | omega | decide⟩)), (fun _ => ⟨rfl, rfl, rfl⟩)⟩)
  · have h_5 : (a_.toInt < 0 ∨ i_crossings.toInt ≤ a_.toInt) := h_5
    refine lv_if_ne (tgt := 10) hx hb dX12_does_5 (by decide) (fun q => absurd (by decide) q) (fun _ => ?_)
    refine lv_iconst (v := 0) hx hb dX12_does_8 (by decide) ?_
    have G := G.sub (bs' := [[zO11 mo m_all m_has i_size i_next i_where i_token i_number i_word i_wrong i_farCrossing m_read i_z0 i_crossings i_inns m_posts m_shut m_here i_steps i_done i_at i_gone m_was m_came m_seenAt m_rowWorth m_farBy m_used i_everywhere i_again0 i_d0 i_never i_firstCame i_longRun i_moved i_crowd i_l0 i_fitMany i_fitLeast i_fitMost m_fitPost m_fitEnd m_keptPosts i_x0], [zAr T 0 m_all 3952 f_all], [zAr T 0 m_posts 7 f_posts], [zAr T 0 m_shut 7 f_shut], [zAr T 0 m_here 7 f_here], [zAr T 0 m_was 7 f_was]]) [5, 0, 1, 2, 3, 4] rfl
    exact z_back hQz_ (z_zret C hr hlocks G (Nat.le_of_ble_eq_true rfl) (Nat.le_of_ble_eq_true rfl) dX12_does_9 rfl ⟨i_at, i_gone, i_steps, i_moved, i_firstCame, i_never, i_longRun, f_posts, f_shut, f_here, f_was, rfl, (Or.inr ⟨rfl, zDe_nh (fun q8 => by have q7 := q8.2.1; have q6 := q8.1; omega), rfl, rfl, rfl, rfl, rfl⟩), hV, hP, (fun m hm hx => zHB_m hx (by omega)), hS5, (fun q8 => absurd q8 (by decide)), (fun _ => ⟨rfl, rfl, rfl⟩)⟩)
set_option maxHeartbeats 4000000 in
set_option maxRecDepth 100000 in
/-- c_x_runs -/
theorem c_x_runs (l : Launch) (T : zTy) (mo : Nat) (m_all : Nat) (m_has : Nat) (i_size : Int32) (i_next : Int32) (i_where : Int32) (i_token : Int32) (i_number : Int32) (i_word : Int32) (i_wrong : Int32) (i_farCrossing : Int32) (m_read : Nat) (i_z0 : Int32) (i_crossings : Int32) (i_inns : Int32) (m_posts : Nat) (m_shut : Nat) (m_here : Nat) (i_steps : Int32) (i_done : Int32) (i_at : Int32) (i_gone : Int32) (m_was : Nat) (m_came : Nat) (m_seenAt : Nat) (m_rowWorth : Nat) (m_farBy : Nat) (m_used : Nat) (i_everywhere : Int32) (i_again0 : Int32) (i_d0 : Int32) (i_never : Int32) (i_firstCame : Int32) (i_longRun : Int32) (i_moved : Int32) (i_crowd : Int32) (i_l0 : Int32) (i_fitMany : Int32) (i_fitLeast : Int32) (i_fitMost : Int32) (m_fitPost : Nat) (m_fitEnd : Nat) (m_keptPosts : Nat) (i_x0 : Int32) (f_all : Nat → Int32) (f_posts : Nat → Int32) (f_shut : Nat → Int32) (f_here : Nat → Int32) (f_was : Nat → Int32) (n_ : Int32) (hL : zML f_all i_z0 i_crossings) (hP : zMP f_posts) (hV : zMV (zRo f_all i_z0) f_posts) (hD : zMD f_all i_d0) (hdn0 : i_done = 0) (hH9 : zHB 9 f_here) (hS0 : zS15 f_shut) (hDv : zDyv f_all i_d0.toNatClampNeg) : zMv l T yX12_runs cX12_runs 2 7 0 0 [.ref mo, .int n_] [[zO11 mo m_all m_has i_size i_next i_where i_token i_number i_word i_wrong i_farCrossing m_read i_z0 i_crossings i_inns m_posts m_shut m_here i_steps i_done i_at i_gone m_was m_came m_seenAt m_rowWorth m_farBy m_used i_everywhere i_again0 i_d0 i_never i_firstCame i_longRun i_moved i_crowd i_l0 i_fitMany i_fitLeast i_fitMost m_fitPost m_fitEnd m_keptPosts i_x0], [zAr T 0 m_all 3952 f_all], [zAr T 0 m_posts 7 f_posts], [zAr T 0 m_shut 7 f_shut], [zAr T 0 m_here 7 f_here], [zAr T 0 m_was 7 f_was]] (fun bs => ∃ (j_at : Int32) (j_gone : Int32) (j_steps : Int32) (j_moved : Int32) (j_firstCame : Int32) (j_never : Int32) (j_longRun : Int32) (j_crowd : Int32) (j_done : Int32) (g_posts : Nat → Int32) (g_shut : Nat → Int32) (g_here : Nat → Int32) (g_was : Nat → Int32), bs = [[zO11 mo m_all m_has i_size i_next i_where i_token i_number i_word i_wrong i_farCrossing m_read i_z0 i_crossings i_inns m_posts m_shut m_here j_steps j_done j_at j_gone m_was m_came m_seenAt m_rowWorth m_farBy m_used i_everywhere i_again0 i_d0 j_never j_firstCame j_longRun j_moved j_crowd i_l0 i_fitMany i_fitLeast i_fitMost m_fitPost m_fitEnd m_keptPosts i_x0], [zAr T 0 m_all 3952 f_all], [zAr T 0 m_posts 7 g_posts], [zAr T 0 m_shut 7 g_shut], [zAr T 0 m_here 7 g_here], [zAr T 0 m_was 7 g_was]] ∧ 0 ≤ j_done.toInt ∧ j_done.toInt ≤ 40 ∧ j_done = nI (zDayN (fun k D => zDe i_crossings i_inns (zWo f_all i_z0 i_inns) (zRo f_all i_z0) (zLo f_all i_z0) (f_all (i_d0.toNatClampNeg + (1 + 3 * k))) (f_all (i_d0.toNatClampNeg + (2 + 3 * k))) (f_all (i_d0.toNatClampNeg + (3 + 3 * k))) D) (min (min n_.toInt (f_all i_d0.toNatClampNeg).toInt) 40).toNat 0 (f_posts, f_shut, f_here, i_steps, 0)).1 ∧ (g_posts, g_shut, g_here, j_steps, j_never) = (zDayN (fun k D => zDe i_crossings i_inns (zWo f_all i_z0 i_inns) (zRo f_all i_z0) (zLo f_all i_z0) (f_all (i_d0.toNatClampNeg + (1 + 3 * k))) (f_all (i_d0.toNatClampNeg + (2 + 3 * k))) (f_all (i_d0.toNatClampNeg + (3 + 3 * k))) D) (min (min n_.toInt (f_all i_d0.toNatClampNeg).toInt) 40).toNat 0 (f_posts, f_shut, f_here, i_steps, 0)).2 ∧ zMP g_posts ∧ (j_firstCame, j_longRun, j_moved, j_crowd) = zDayA (fun k D => zDe i_crossings i_inns (zWo f_all i_z0 i_inns) (zRo f_all i_z0) (zLo f_all i_z0) (f_all (i_d0.toNatClampNeg + (1 + 3 * k))) (f_all (i_d0.toNatClampNeg + (2 + 3 * k))) (f_all (i_d0.toNatClampNeg + (3 + 3 * k))) D) i_crossings i_inns (zWo f_all i_z0 i_inns) (zLo f_all i_z0) (fun k => f_all (i_d0.toNatClampNeg + (1 + 3 * k))) (fun k => f_all (i_d0.toNatClampNeg + (2 + 3 * k))) (min (min n_.toInt (f_all i_d0.toNatClampNeg).toInt) 40).toNat (f_posts, f_shut, f_here, i_steps, 0)) := by
  refine zMv_of (own := RX12) (by decide) rfl (Nat.le_of_ble_eq_true rfl) ?_
  intro p e s m args below meth c A ls C hr hlocks hnm hAe G hl
  refine zHide (fun Qz_ hQz_ => ?_)
  have hx := C.1
  have hb := C.2.1
  have hl : lv_has ls 2 [(0, .ref mo), (1, .int n_)] := hl
  have hz := hL.1
  have hcr := hL.cr
  have hDa := hD.1
  have hDb := hD.2
  have hcd := z_clI (x := i_d0) (by omega)
  have hdn1 : i_done.toInt = 0 := by rw [hdn0]; rfl
  refine lv_aload_n hx hb dX12_runs_0 rfl (lv_at hl 0 rfl) ?_
  refine z_Vv (bc := [[zO11 mo m_all m_has i_size i_next i_where i_token i_number i_word i_wrong i_farCrossing m_read i_z0 i_crossings i_inns m_posts m_shut m_here i_steps i_done i_at i_gone m_was m_came m_seenAt m_rowWorth m_farBy m_used i_everywhere i_again0 i_d0 i_never i_firstCame i_longRun i_moved i_crowd i_l0 i_fitMany i_fitLeast i_fitMost m_fitPost m_fitEnd m_keptPosts i_x0], [zAr T 0 m_here 7 f_here]]) (br := [[zAr T 0 m_all 3952 f_all], [zAr T 0 m_posts 7 f_posts], [zAr T 0 m_shut 7 f_shut], [zAr T 0 m_was 7 f_was]]) (As := []) (rest := []) C G (c_x_beginsDay l T mo m_all m_has i_size i_next i_where i_token i_number i_word i_wrong i_farCrossing m_read i_z0 i_crossings i_inns m_posts m_shut m_here i_steps i_done i_at i_gone m_was m_came m_seenAt m_rowWorth m_farBy m_used i_everywhere i_again0 i_d0 i_never i_firstCame i_longRun i_moved i_crowd i_l0 i_fitMany i_fitLeast i_fitMost m_fitPost m_fitEnd m_keptPosts i_x0 f_here (by first | with_reducible assumption | with_reducible rfl | omega | assumption | rfl)) (kV_RX12_342 C.2.2.2.2 (Nat.le_of_ble_eq_true rfl) (Nat.le_of_ble_eq_true rfl)) [0, 4] [0, 3] rfl rfl (ci := 11) (qc := (RX12, TX12, 43)) rfl rfl (List.mem_flatten.mpr ⟨_, List.mem_of_getElem? (i := 0) rfl, List.mem_cons_self⟩) rfl rfl hl.1 dX12_runs_1 (Nat.le_of_ble_eq_true rfl) (Nat.le_of_ble_eq_true rfl) (fun b1 H locs hw G => ?_)
  refine zEx5 hw ?_
  intro j_never_1 j_firstCame_2 j_longRun_3 j_moved_4 j_crowd_5
  refine zCu6 ?_
  intro hbs9 h_6 h_7 h_8 h_9 h_10
  clear hw
  subst hbs9
  have G : zS T A s.heap s [[zAr T 0 m_all 3952 f_all], [zAr T 0 m_posts 7 f_posts], [zAr T 0 m_shut 7 f_shut], [zAr T 0 m_was 7 f_was], [zO11 mo m_all m_has i_size i_next i_where i_token i_number i_word i_wrong i_farCrossing m_read i_z0 i_crossings i_inns m_posts m_shut m_here i_steps i_done i_at i_gone m_was m_came m_seenAt m_rowWorth m_farBy m_used i_everywhere i_again0 i_d0 j_never_1 j_firstCame_2 j_longRun_3 j_moved_4 j_crowd_5 i_l0 i_fitMany i_fitLeast i_fitMost m_fitPost m_fitEnd m_keptPosts i_x0], [zAr T 0 m_here 7 f_here]] _ _ := G
  have hX0 : zDayA (fun k D => zDe i_crossings i_inns (zWo f_all i_z0 i_inns) (zRo f_all i_z0) (zLo f_all i_z0) (f_all (i_d0.toNatClampNeg + (1 + 3 * k))) (f_all (i_d0.toNatClampNeg + (2 + 3 * k))) (f_all (i_d0.toNatClampNeg + (3 + 3 * k))) D) i_crossings i_inns (zWo f_all i_z0 i_inns) (zLo f_all i_z0) (fun k => f_all (i_d0.toNatClampNeg + (1 + 3 * k))) (fun k => f_all (i_d0.toNatClampNeg + (2 + 3 * k))) (min (min n_.toInt (f_all i_d0.toNatClampNeg).toInt) 40).toNat (f_posts, f_shut, f_here, i_steps, 0) = zDayX (fun k D => zDe i_crossings i_inns (zWo f_all i_z0 i_inns) (zRo f_all i_z0) (zLo f_all i_z0) (f_all (i_d0.toNatClampNeg + (1 + 3 * k))) (f_all (i_d0.toNatClampNeg + (2 + 3 * k))) (f_all (i_d0.toNatClampNeg + (3 + 3 * k))) D) (fun k D E X => zXe i_crossings i_inns (zWo f_all i_z0 i_inns) (zLo f_all i_z0) (f_all (i_d0.toNatClampNeg + (1 + 3 * k))) (f_all (i_d0.toNatClampNeg + (2 + 3 * k))) (nI k) D E X) ((min (min n_.toInt (f_all i_d0.toNatClampNeg).toInt) 40).toNat - 0) 0 (f_posts, f_shut, f_here, i_steps, 0) (-1, 0, 0, j_crowd_5) := by rw [h_10]; rfl
  refine z_lp13 (T := T) 4 (fun (xat : Int32) (xgone : Int32) (xsteps : Int32) (xmoved : Int32) (xfirstCame : Int32) (xnever : Int32) (xlongRun : Int32) (xcrowd : Int32) (xdone : Int32) (xposts : Nat → Int32) (xshut : Nat → Int32) (xhere : Nat → Int32) (xwas : Nat → Int32) => [[zAr T 0 m_all 3952 f_all], [zAr T 0 m_posts 7 xposts], [zAr T 0 m_shut 7 xshut], [zAr T 0 m_was 7 xwas], [zO11 mo m_all m_has i_size i_next i_where i_token i_number i_word i_wrong i_farCrossing m_read i_z0 i_crossings i_inns m_posts m_shut m_here xsteps xdone xat xgone m_was m_came m_seenAt m_rowWorth m_farBy m_used i_everywhere i_again0 i_d0 xnever xfirstCame xlongRun xmoved xcrowd i_l0 i_fitMany i_fitLeast i_fitMost m_fitPost m_fitEnd m_keptPosts i_x0], [zAr T 0 m_here 7 xhere]]) (fun (xat : Int32) (xgone : Int32) (xsteps : Int32) (xmoved : Int32) (xfirstCame : Int32) (xnever : Int32) (xlongRun : Int32) (xcrowd : Int32) (xdone : Int32) (xposts : Nat → Int32) (xshut : Nat → Int32) (xhere : Nat → Int32) (xwas : Nat → Int32) => [(0, .ref mo), (1, .int n_)]) (fun (xat : Int32) (xgone : Int32) (xsteps : Int32) (xmoved : Int32) (xfirstCame : Int32) (xnever : Int32) (xlongRun : Int32) (xcrowd : Int32) (xdone : Int32) (xposts : Nat → Int32) (xshut : Nat → Int32) (xhere : Nat → Int32) (xwas : Nat → Int32) => zMP xposts ∧ 0 ≤ xdone.toInt ∧ xdone.toInt ≤ 40 ∧ zMV (zRo f_all i_z0) xposts ∧ zS15 xshut ∧ zHB (9 + xdone.toInt) xhere ∧ zDayN (fun k D => zDe i_crossings i_inns (zWo f_all i_z0 i_inns) (zRo f_all i_z0) (zLo f_all i_z0) (f_all (i_d0.toNatClampNeg + (1 + 3 * k))) (f_all (i_d0.toNatClampNeg + (2 + 3 * k))) (f_all (i_d0.toNatClampNeg + (3 + 3 * k))) D) (min (min n_.toInt (f_all i_d0.toNatClampNeg).toInt) 40).toNat 0 (f_posts, f_shut, f_here, i_steps, 0) = zDayN (fun k D => zDe i_crossings i_inns (zWo f_all i_z0 i_inns) (zRo f_all i_z0) (zLo f_all i_z0) (f_all (i_d0.toNatClampNeg + (1 + 3 * k))) (f_all (i_d0.toNatClampNeg + (2 + 3 * k))) (f_all (i_d0.toNatClampNeg + (3 + 3 * k))) D) ((min (min n_.toInt (f_all i_d0.toNatClampNeg).toInt) 40).toNat - xdone.toInt.toNat) xdone.toInt.toNat (xposts, xshut, xhere, xsteps, xnever) ∧ zDayA (fun k D => zDe i_crossings i_inns (zWo f_all i_z0 i_inns) (zRo f_all i_z0) (zLo f_all i_z0) (f_all (i_d0.toNatClampNeg + (1 + 3 * k))) (f_all (i_d0.toNatClampNeg + (2 + 3 * k))) (f_all (i_d0.toNatClampNeg + (3 + 3 * k))) D) i_crossings i_inns (zWo f_all i_z0 i_inns) (zLo f_all i_z0) (fun k => f_all (i_d0.toNatClampNeg + (1 + 3 * k))) (fun k => f_all (i_d0.toNatClampNeg + (2 + 3 * k))) (min (min n_.toInt (f_all i_d0.toNatClampNeg).toInt) 40).toNat (f_posts, f_shut, f_here, i_steps, 0) = zDayX (fun k D => zDe i_crossings i_inns (zWo f_all i_z0 i_inns) (zRo f_all i_z0) (zLo f_all i_z0) (f_all (i_d0.toNatClampNeg + (1 + 3 * k))) (f_all (i_d0.toNatClampNeg + (2 + 3 * k))) (f_all (i_d0.toNatClampNeg + (3 + 3 * k))) D) (fun k D E X => zXe i_crossings i_inns (zWo f_all i_z0 i_inns) (zLo f_all i_z0) (f_all (i_d0.toNatClampNeg + (1 + 3 * k))) (f_all (i_d0.toNatClampNeg + (2 + 3 * k))) (nI k) D E X) ((min (min n_.toInt (f_all i_d0.toNatClampNeg).toInt) 40).toNat - xdone.toInt.toNat) xdone.toInt.toNat (xposts, xshut, xhere, xsteps, xnever) (xfirstCame, xlongRun, xmoved, xcrowd)) (fun (xat : Int32) (xgone : Int32) (xsteps : Int32) (xmoved : Int32) (xfirstCame : Int32) (xnever : Int32) (xlongRun : Int32) (xcrowd : Int32) (xdone : Int32) (xposts : Nat → Int32) (xshut : Nat → Int32) (xhere : Nat → Int32) (xwas : Nat → Int32) => ((f_all i_d0.toNatClampNeg).toInt - xdone.toInt).toNat) ?_ i_at i_gone i_steps j_moved_4 j_firstCame_2 j_never_1 j_longRun_3 j_crowd_5 i_done f_posts f_shut f_here f_was (show zMP f_posts ∧ 0 ≤ i_done.toInt ∧ i_done.toInt ≤ 40 ∧ zMV (zRo f_all i_z0) f_posts ∧ zS15 f_shut ∧ zHB (9 + i_done.toInt) f_here ∧ zDayN (fun k D => zDe i_crossings i_inns (zWo f_all i_z0 i_inns) (zRo f_all i_z0) (zLo f_all i_z0) (f_all (i_d0.toNatClampNeg + (1 + 3 * k))) (f_all (i_d0.toNatClampNeg + (2 + 3 * k))) (f_all (i_d0.toNatClampNeg + (3 + 3 * k))) D) (min (min n_.toInt (f_all i_d0.toNatClampNeg).toInt) 40).toNat 0 (f_posts, f_shut, f_here, i_steps, 0) = zDayN (fun k D => zDe i_crossings i_inns (zWo f_all i_z0 i_inns) (zRo f_all i_z0) (zLo f_all i_z0) (f_all (i_d0.toNatClampNeg + (1 + 3 * k))) (f_all (i_d0.toNatClampNeg + (2 + 3 * k))) (f_all (i_d0.toNatClampNeg + (3 + 3 * k))) D) ((min (min n_.toInt (f_all i_d0.toNatClampNeg).toInt) 40).toNat - i_done.toInt.toNat) i_done.toInt.toNat (f_posts, f_shut, f_here, i_steps, j_never_1) ∧ zDayA (fun k D => zDe i_crossings i_inns (zWo f_all i_z0 i_inns) (zRo f_all i_z0) (zLo f_all i_z0) (f_all (i_d0.toNatClampNeg + (1 + 3 * k))) (f_all (i_d0.toNatClampNeg + (2 + 3 * k))) (f_all (i_d0.toNatClampNeg + (3 + 3 * k))) D) i_crossings i_inns (zWo f_all i_z0 i_inns) (zLo f_all i_z0) (fun k => f_all (i_d0.toNatClampNeg + (1 + 3 * k))) (fun k => f_all (i_d0.toNatClampNeg + (2 + 3 * k))) (min (min n_.toInt (f_all i_d0.toNatClampNeg).toInt) 40).toNat (f_posts, f_shut, f_here, i_steps, 0) = zDayX (fun k D => zDe i_crossings i_inns (zWo f_all i_z0 i_inns) (zRo f_all i_z0) (zLo f_all i_z0) (f_all (i_d0.toNatClampNeg + (1 + 3 * k))) (f_all (i_d0.toNatClampNeg + (2 + 3 * k))) (f_all (i_d0.toNatClampNeg + (3 + 3 * k))) D) (fun k D E X => zXe i_crossings i_inns (zWo f_all i_z0 i_inns) (zLo f_all i_z0) (f_all (i_d0.toNatClampNeg + (1 + 3 * k))) (f_all (i_d0.toNatClampNeg + (2 + 3 * k))) (nI k) D E X) ((min (min n_.toInt (f_all i_d0.toNatClampNeg).toInt) 40).toNat - i_done.toInt.toNat) i_done.toInt.toNat (f_posts, f_shut, f_here, i_steps, j_never_1) (j_firstCame_2, j_longRun_3, j_moved_4, j_crowd_5) from ⟨hP, by omega, by omega, hV, hS0, (zHB_m hH9 (by omega)), (by rw [h_6, hdn0]; rfl), (by rw [h_6, h_7, h_8, h_9, hdn0]; exact hX0)⟩) G (lv_sub hl [0, 1] rfl)
  intro xat xgone xsteps xmoved xfirstCame xnever xlongRun xcrowd xdone xposts xshut xhere xwas hI9 ih_4 H locs ls G hl
  replace hI9 : zMP xposts ∧ 0 ≤ xdone.toInt ∧ xdone.toInt ≤ 40 ∧ zMV (zRo f_all i_z0) xposts ∧ zS15 xshut ∧ zHB (9 + xdone.toInt) xhere ∧ zDayN (fun k D => zDe i_crossings i_inns (zWo f_all i_z0 i_inns) (zRo f_all i_z0) (zLo f_all i_z0) (f_all (i_d0.toNatClampNeg + (1 + 3 * k))) (f_all (i_d0.toNatClampNeg + (2 + 3 * k))) (f_all (i_d0.toNatClampNeg + (3 + 3 * k))) D) (min (min n_.toInt (f_all i_d0.toNatClampNeg).toInt) 40).toNat 0 (f_posts, f_shut, f_here, i_steps, 0) = zDayN (fun k D => zDe i_crossings i_inns (zWo f_all i_z0 i_inns) (zRo f_all i_z0) (zLo f_all i_z0) (f_all (i_d0.toNatClampNeg + (1 + 3 * k))) (f_all (i_d0.toNatClampNeg + (2 + 3 * k))) (f_all (i_d0.toNatClampNeg + (3 + 3 * k))) D) ((min (min n_.toInt (f_all i_d0.toNatClampNeg).toInt) 40).toNat - xdone.toInt.toNat) xdone.toInt.toNat (xposts, xshut, xhere, xsteps, xnever) ∧ zDayA (fun k D => zDe i_crossings i_inns (zWo f_all i_z0 i_inns) (zRo f_all i_z0) (zLo f_all i_z0) (f_all (i_d0.toNatClampNeg + (1 + 3 * k))) (f_all (i_d0.toNatClampNeg + (2 + 3 * k))) (f_all (i_d0.toNatClampNeg + (3 + 3 * k))) D) i_crossings i_inns (zWo f_all i_z0 i_inns) (zLo f_all i_z0) (fun k => f_all (i_d0.toNatClampNeg + (1 + 3 * k))) (fun k => f_all (i_d0.toNatClampNeg + (2 + 3 * k))) (min (min n_.toInt (f_all i_d0.toNatClampNeg).toInt) 40).toNat (f_posts, f_shut, f_here, i_steps, 0) = zDayX (fun k D => zDe i_crossings i_inns (zWo f_all i_z0 i_inns) (zRo f_all i_z0) (zLo f_all i_z0) (f_all (i_d0.toNatClampNeg + (1 + 3 * k))) (f_all (i_d0.toNatClampNeg + (2 + 3 * k))) (f_all (i_d0.toNatClampNeg + (3 + 3 * k))) D) (fun k D E X => zXe i_crossings i_inns (zWo f_all i_z0 i_inns) (zLo f_all i_z0) (f_all (i_d0.toNatClampNeg + (1 + 3 * k))) (f_all (i_d0.toNatClampNeg + (2 + 3 * k))) (nI k) D E X) ((min (min n_.toInt (f_all i_d0.toNatClampNeg).toInt) 40).toNat - xdone.toInt.toNat) xdone.toInt.toNat (xposts, xshut, xhere, xsteps, xnever) (xfirstCame, xlongRun, xmoved, xcrowd) := hI9
  refine zAn8 hI9 ?_
  intro hQ hdo0 hdo9 hVx hSx hHx hR hX
  clear hI9
  replace G : zS T A s.heap s [[zAr T 0 m_all 3952 f_all], [zAr T 0 m_posts 7 xposts], [zAr T 0 m_shut 7 xshut], [zAr T 0 m_was 7 xwas], [zO11 mo m_all m_has i_size i_next i_where i_token i_number i_word i_wrong i_farCrossing m_read i_z0 i_crossings i_inns m_posts m_shut m_here xsteps xdone xat xgone m_was m_came m_seenAt m_rowWorth m_farBy m_used i_everywhere i_again0 i_d0 xnever xfirstCame xlongRun xmoved xcrowd i_l0 i_fitMany i_fitLeast i_fitMost m_fitPost m_fitEnd m_keptPosts i_x0], [zAr T 0 m_here 7 xhere]] _ _ := G
  replace hl : lv_has ls 2 [(0, .ref mo), (1, .int n_)] := hl
  refine lv_aload_n hx hb dX12_runs_4 rfl (lv_at hl 0 rfl) ?_
  refine z_get C G clX12 4 rfl 18 (by decide) m_fl_RX12_199 rfl dX12_runs_5 ?_
  refine lv_iload_n hx hb dX12_runs_8 rfl (lv_at hl 1 rfl) ?_
  refine lv_icmp_ge (tgt := 106) hx hb dX12_runs_9 (by decide) (fun c_12 => ?_) (fun c_12 => ?_)
  · have c_12n : n_.toInt ≤ xdone.toInt := (fa_le _ _).mp c_12
    have hE : zDayN (fun k D => zDe i_crossings i_inns (zWo f_all i_z0 i_inns) (zRo f_all i_z0) (zLo f_all i_z0) (f_all (i_d0.toNatClampNeg + (1 + 3 * k))) (f_all (i_d0.toNatClampNeg + (2 + 3 * k))) (f_all (i_d0.toNatClampNeg + (3 + 3 * k))) D) (min (min n_.toInt (f_all i_d0.toNatClampNeg).toInt) 40).toNat 0 (f_posts, f_shut, f_here, i_steps, 0) = (xdone.toInt.toNat, (xposts, xshut, xhere, xsteps, xnever)) := hR.trans (by rw [show (min (min n_.toInt (f_all i_d0.toNatClampNeg).toInt) 40).toNat - xdone.toInt.toNat = 0 by omega]; rfl)
    have G := G.sub (bs' := [[zO11 mo m_all m_has i_size i_next i_where i_token i_number i_word i_wrong i_farCrossing m_read i_z0 i_crossings i_inns m_posts m_shut m_here xsteps xdone xat xgone m_was m_came m_seenAt m_rowWorth m_farBy m_used i_everywhere i_again0 i_d0 xnever xfirstCame xlongRun xmoved xcrowd i_l0 i_fitMany i_fitLeast i_fitMost m_fitPost m_fitEnd m_keptPosts i_x0], [zAr T 0 m_all 3952 f_all], [zAr T 0 m_posts 7 xposts], [zAr T 0 m_shut 7 xshut], [zAr T 0 m_here 7 xhere], [zAr T 0 m_was 7 xwas]]) [4, 0, 1, 2, 5, 3] rfl
    exact z_back hQz_ (z_vret C hr hlocks G (Nat.le_of_ble_eq_true rfl) (Nat.le_of_ble_eq_true rfl) dX12_runs_106 ⟨xat, xgone, xsteps, xmoved, xfirstCame, xnever, xlongRun, xcrowd, xdone, xposts, xshut, xhere, xwas, rfl, (by first | with_reducible assumption | omega | trivial | assumption), (by first | with_reducible assumption | omega | trivial | assumption), (by rw [hE]; exact z_nI (by omega) (by omega)), (by rw [hE]), hQ, (by rw [hX.trans (zDayX_z (by omega))])⟩)
  · have c_12n : ¬ n_.toInt ≤ xdone.toInt := fun q => c_12 ((fa_le _ _).mpr q)
    refine lv_aload_n hx hb dX12_runs_12 rfl (lv_at hl 0 rfl) ?_
    refine z_get C G clX12 4 rfl 18 (by decide) m_fl_RX12_199 rfl dX12_runs_13 ?_
    refine lv_aload_n hx hb dX12_runs_16 rfl (lv_at hl 0 rfl) ?_
    refine z_get C G clX12 4 rfl 0 (by decide) m_fl_RX12_7 rfl dX12_runs_17 ?_
    refine lv_aload_n hx hb dX12_runs_20 rfl (lv_at hl 0 rfl) ?_
    refine z_get C G clX12 4 rfl 29 (by decide) m_fl_RX12_302 rfl dX12_runs_21 ?_
    refine z_ild C G 0 rfl (vp_in_iff.mpr ⟨by omega, by omega⟩) dX12_runs_24 ?_
    refine lv_topi (fun v_13 ev_13 => ?_)
    subst ev_13
    refine lv_icmp_ge (tgt := 106) hx hb dX12_runs_25 (by decide) (fun c_14 => ?_) (fun c_14 => ?_)
    · have c_14n : (f_all i_d0.toNatClampNeg).toInt ≤ xdone.toInt := (fa_le _ _).mp c_14
      have hE : zDayN (fun k D => zDe i_crossings i_inns (zWo f_all i_z0 i_inns) (zRo f_all i_z0) (zLo f_all i_z0) (f_all (i_d0.toNatClampNeg + (1 + 3 * k))) (f_all (i_d0.toNatClampNeg + (2 + 3 * k))) (f_all (i_d0.toNatClampNeg + (3 + 3 * k))) D) (min (min n_.toInt (f_all i_d0.toNatClampNeg).toInt) 40).toNat 0 (f_posts, f_shut, f_here, i_steps, 0) = (xdone.toInt.toNat, (xposts, xshut, xhere, xsteps, xnever)) := hR.trans (by rw [show (min (min n_.toInt (f_all i_d0.toNatClampNeg).toInt) 40).toNat - xdone.toInt.toNat = 0 by omega]; rfl)
      have G := G.sub (bs' := [[zO11 mo m_all m_has i_size i_next i_where i_token i_number i_word i_wrong i_farCrossing m_read i_z0 i_crossings i_inns m_posts m_shut m_here xsteps xdone xat xgone m_was m_came m_seenAt m_rowWorth m_farBy m_used i_everywhere i_again0 i_d0 xnever xfirstCame xlongRun xmoved xcrowd i_l0 i_fitMany i_fitLeast i_fitMost m_fitPost m_fitEnd m_keptPosts i_x0], [zAr T 0 m_all 3952 f_all], [zAr T 0 m_posts 7 xposts], [zAr T 0 m_shut 7 xshut], [zAr T 0 m_here 7 xhere], [zAr T 0 m_was 7 xwas]]) [4, 0, 1, 2, 5, 3] rfl
      exact z_back hQz_ (z_vret C hr hlocks G (Nat.le_of_ble_eq_true rfl) (Nat.le_of_ble_eq_true rfl) dX12_runs_106 ⟨xat, xgone, xsteps, xmoved, xfirstCame, xnever, xlongRun, xcrowd, xdone, xposts, xshut, xhere, xwas, rfl, (by first | with_reducible assumption | omega | trivial | assumption), (by first | with_reducible assumption | omega | trivial | assumption), (by rw [hE]; exact z_nI (by omega) (by omega)), (by rw [hE]), hQ, (by rw [hX.trans (zDayX_z (by omega))])⟩)
    · have c_14n : ¬ (f_all i_d0.toNatClampNeg).toInt ≤ xdone.toInt := fun q => c_14 ((fa_le _ _).mpr q)
      refine lv_aload_n hx hb dX12_runs_28 rfl (lv_at hl 0 rfl) ?_
      refine lv_aload_n hx hb dX12_runs_29 rfl (lv_at hl 0 rfl) ?_
      refine z_get C G clX12 4 rfl 0 (by decide) m_fl_RX12_7 rfl dX12_runs_30 ?_
      refine lv_aload_n hx hb dX12_runs_33 rfl (lv_at hl 0 rfl) ?_
      refine z_get C G clX12 4 rfl 29 (by decide) m_fl_RX12_302 rfl dX12_runs_34 ?_
      refine lv_iconst (v := 1) hx hb dX12_runs_37 (by decide) ?_
      refine lv_iadd hx hb dX12_runs_38 ?_
      refine lv_topi (fun y_15 ey_15 => ?_)
      have ey_15i : y_15.toInt = i_d0.toInt + (1 : Int) := by rw [ey_15]; exact z_iaddI (x := i_d0) (y := (1 : Int32)) (by show -2147483648 ≤ i_d0.toInt + (1 : Int); omega) (by show i_d0.toInt + (1 : Int) < 2147483648; omega)
      refine lv_iconst (v := 3) hx hb dX12_runs_39 (by decide) ?_
      refine lv_aload_n hx hb dX12_runs_40 rfl (lv_at hl 0 rfl) ?_
      refine z_get C G clX12 4 rfl 18 (by decide) m_fl_RX12_199 rfl dX12_runs_41 ?_
      refine lv_imul hx hb dX12_runs_44 ?_
      refine lv_topi (fun y_16 ey_16 => ?_)
      have ey_16i : y_16.toInt = (3 : Int) * xdone.toInt := by rw [ey_16]; exact z_imulI (x := (3 : Int32)) (y := xdone) (by show -2147483648 ≤ (3 : Int) * xdone.toInt; omega) (by show (3 : Int) * xdone.toInt < 2147483648; omega)
      refine lv_iadd hx hb dX12_runs_45 ?_
      refine lv_topi (fun y_17 ey_17 => ?_)
      have ey_17i : y_17.toInt = y_15.toInt + y_16.toInt := by rw [ey_17]; exact z_iaddI (x := y_15) (y := y_16) (by show -2147483648 ≤ y_15.toInt + y_16.toInt; omega) (by show y_15.toInt + y_16.toInt < 2147483648; omega)
      refine z_ild C G 0 rfl (vp_in_iff.mpr ⟨by omega, by omega⟩) dX12_runs_46 ?_
      refine lv_topi (fun v_18 ev_18 => ?_)
      subst ev_18
      refine lv_aload_n hx hb dX12_runs_47 rfl (lv_at hl 0 rfl) ?_
      refine z_get C G clX12 4 rfl 0 (by decide) m_fl_RX12_7 rfl dX12_runs_48 ?_
      refine lv_aload_n hx hb dX12_runs_51 rfl (lv_at hl 0 rfl) ?_
      refine z_get C G clX12 4 rfl 29 (by decide) m_fl_RX12_302 rfl dX12_runs_52 ?_
      refine lv_iconst (v := 2) hx hb dX12_runs_55 (by decide) ?_
      refine lv_iadd hx hb dX12_runs_56 ?_
      refine lv_topi (fun y_19 ey_19 => ?_)
      have ey_19i : y_19.toInt = i_d0.toInt + (2 : Int) := by rw [ey_19]; exact z_iaddI (x := i_d0) (y := (2 : Int32)) (by show -2147483648 ≤ i_d0.toInt + (2 : Int); omega) (by show i_d0.toInt + (2 : Int) < 2147483648; omega)
      refine lv_iconst (v := 3) hx hb dX12_runs_57 (by decide) ?_
      refine lv_aload_n hx hb dX12_runs_58 rfl (lv_at hl 0 rfl) ?_
      refine z_get C G clX12 4 rfl 18 (by decide) m_fl_RX12_199 rfl dX12_runs_59 ?_
      refine lv_imul hx hb dX12_runs_62 ?_
      refine lv_topi (fun y_20 ey_20 => ?_)
      have ey_20i : y_20.toInt = (3 : Int) * xdone.toInt := by rw [ey_20]; exact z_imulI (x := (3 : Int32)) (y := xdone) (by show -2147483648 ≤ (3 : Int) * xdone.toInt; omega) (by show (3 : Int) * xdone.toInt < 2147483648; omega)
      refine lv_iadd hx hb dX12_runs_63 ?_
      refine lv_topi (fun y_21 ey_21 => ?_)
      have ey_21i : y_21.toInt = y_19.toInt + y_20.toInt := by rw [ey_21]; exact z_iaddI (x := y_19) (y := y_20) (by show -2147483648 ≤ y_19.toInt + y_20.toInt; omega) (by show y_19.toInt + y_20.toInt < 2147483648; omega)
      refine z_ild C G 0 rfl (vp_in_iff.mpr ⟨by omega, by omega⟩) dX12_runs_64 ?_
      refine lv_topi (fun v_22 ev_22 => ?_)
      subst ev_22
      refine lv_aload_n hx hb dX12_runs_65 rfl (lv_at hl 0 rfl) ?_
      refine z_get C G clX12 4 rfl 0 (by decide) m_fl_RX12_7 rfl dX12_runs_66 ?_
      refine lv_aload_n hx hb dX12_runs_69 rfl (lv_at hl 0 rfl) ?_
      refine z_get C G clX12 4 rfl 29 (by decide) m_fl_RX12_302 rfl dX12_runs_70 ?_
      refine lv_iconst (v := 3) hx hb dX12_runs_73 (by decide) ?_
      refine lv_iadd hx hb dX12_runs_74 ?_
      refine lv_topi (fun y_23 ey_23 => ?_)
      have ey_23i : y_23.toInt = i_d0.toInt + (3 : Int) := by rw [ey_23]; exact z_iaddI (x := i_d0) (y := (3 : Int32)) (by show -2147483648 ≤ i_d0.toInt + (3 : Int); omega) (by show i_d0.toInt + (3 : Int) < 2147483648; omega)
      refine lv_iconst (v := 3) hx hb dX12_runs_75 (by decide) ?_
      refine lv_aload_n hx hb dX12_runs_76 rfl (lv_at hl 0 rfl) ?_
      refine z_get C G clX12 4 rfl 18 (by decide) m_fl_RX12_199 rfl dX12_runs_77 ?_
      refine lv_imul hx hb dX12_runs_80 ?_
      refine lv_topi (fun y_24 ey_24 => ?_)
      have ey_24i : y_24.toInt = (3 : Int) * xdone.toInt := by rw [ey_24]; exact z_imulI (x := (3 : Int32)) (y := xdone) (by show -2147483648 ≤ (3 : Int) * xdone.toInt; omega) (by show (3 : Int) * xdone.toInt < 2147483648; omega)
      refine lv_iadd hx hb dX12_runs_81 ?_
      refine lv_topi (fun y_25 ey_25 => ?_)
      have ey_25i : y_25.toInt = y_23.toInt + y_24.toInt := by rw [ey_25]; exact z_iaddI (x := y_23) (y := y_24) (by show -2147483648 ≤ y_23.toInt + y_24.toInt; omega) (by show y_23.toInt + y_24.toInt < 2147483648; omega)
      refine z_ild C G 0 rfl (vp_in_iff.mpr ⟨by omega, by omega⟩) dX12_runs_82 ?_
      refine lv_topi (fun v_26 ev_26 => ?_)
      subst ev_26
      have hKn : (xdone.toInt.toNat : Int) < (f_all i_d0.toNatClampNeg).toInt := by omega
      have hDk := hDv xdone.toInt.toNat hKn
      have hk1 : f_all y_17.toNatClampNeg = f_all (i_d0.toNatClampNeg + (1 + 3 * xdone.toInt.toNat)) := congrArg f_all (by have q8 := z_clI (x := y_17) (by omega); omega)
      have hk2 : f_all y_21.toNatClampNeg = f_all (i_d0.toNatClampNeg + (2 + 3 * xdone.toInt.toNat)) := congrArg f_all (by have q8 := z_clI (x := y_21) (by omega); omega)
      have hk3 : f_all y_25.toNatClampNeg = f_all (i_d0.toNatClampNeg + (3 + 3 * xdone.toInt.toNat)) := congrArg f_all (by have q8 := z_clI (x := y_25) (by omega); omega)
      refine z_Vi (bc := [[zO11 mo m_all m_has i_size i_next i_where i_token i_number i_word i_wrong i_farCrossing m_read i_z0 i_crossings i_inns m_posts m_shut m_here xsteps xdone xat xgone m_was m_came m_seenAt m_rowWorth m_farBy m_used i_everywhere i_again0 i_d0 xnever xfirstCame xlongRun xmoved xcrowd i_l0 i_fitMany i_fitLeast i_fitMost m_fitPost m_fitEnd m_keptPosts i_x0], [zAr T 0 m_all 3952 f_all], [zAr T 0 m_posts 7 xposts], [zAr T 0 m_shut 7 xshut], [zAr T 0 m_here 7 xhere], [zAr T 0 m_was 7 xwas]]) (br := []) (As := [.int (f_all y_17.toNatClampNeg), .int (f_all y_21.toNatClampNeg), .int (f_all y_25.toNatClampNeg)]) (rest := []) C G (c_xm_does l T mo m_all m_has i_size i_next i_where i_token i_number i_word i_wrong i_farCrossing m_read i_z0 i_crossings i_inns m_posts m_shut m_here xsteps xdone xat xgone m_was m_came m_seenAt m_rowWorth m_farBy m_used i_everywhere i_again0 i_d0 xnever xfirstCame xlongRun xmoved xcrowd i_l0 i_fitMany i_fitLeast i_fitMost m_fitPost m_fitEnd m_keptPosts i_x0 f_all xposts xshut xhere xwas (f_all y_17.toNatClampNeg) (f_all y_21.toNatClampNeg) (f_all y_25.toNatClampNeg) (by first | with_reducible assumption | with_reducible rfl | omega | assumption | rfl) hQ hVx (zHB_m hHx (by omega)) (by rw [hk1]; exact hDk.1.1) (by rw [hk1]; exact hDk.1.2) (by rw [hk1, hk3]; exact hDk.2) hSx) (kV_RX12_345 C.2.2.2.2 (Nat.le_of_ble_eq_true rfl) (Nat.le_of_ble_eq_true rfl)) [4, 0, 1, 2, 5, 3] [0, 0, 0, 0, 0, 0] rfl rfl (ci := 11) (qc := (RX12, TX12, 43)) rfl rfl (List.mem_flatten.mpr ⟨_, List.mem_of_getElem? (i := 0) rfl, List.mem_cons_self⟩) rfl rfl hl.1 dX12_runs_83 (Nat.le_of_ble_eq_true rfl) (Nat.le_of_ble_eq_true rfl) (fun r_45 b1 H locs hw G => ?_)
      refine zEx11 hw ?_
      intro j_at_27 j_gone_28 j_steps_29 j_moved_30 j_firstCame_31 j_never_32 j_longRun_33 g_posts_34 g_shut_35 g_here_36 g_was_37
      refine zCu8 ?_
      intro hbs9 h_38 h_39 h_40 h_41 h_42 h_43 h_44
      clear hw
      subst hbs9
      have G : zS T A s.heap s [[zO11 mo m_all m_has i_size i_next i_where i_token i_number i_word i_wrong i_farCrossing m_read i_z0 i_crossings i_inns m_posts m_shut m_here j_steps_29 xdone j_at_27 j_gone_28 m_was m_came m_seenAt m_rowWorth m_farBy m_used i_everywhere i_again0 i_d0 j_never_32 j_firstCame_31 j_longRun_33 j_moved_30 xcrowd i_l0 i_fitMany i_fitLeast i_fitMost m_fitPost m_fitEnd m_keptPosts i_x0], [zAr T 0 m_all 3952 f_all], [zAr T 0 m_posts 7 g_posts_34], [zAr T 0 m_shut 7 g_shut_35], [zAr T 0 m_here 7 g_here_36], [zAr T 0 m_was 7 g_was_37]] _ _ := G
      replace h_38 : zHd ((r_45 = 1 ∧ zDe i_crossings i_inns (zWo f_all i_z0 i_inns) (zRo f_all i_z0) (zLo f_all i_z0) (f_all y_17.toNatClampNeg) (f_all y_21.toNatClampNeg) (f_all y_25.toNatClampNeg) (xposts, xshut, xhere, xsteps, xnever) = some (g_posts_34, g_shut_35, g_here_36, j_steps_29, j_never_32) ∨ r_45 = 0 ∧ zDe i_crossings i_inns (zWo f_all i_z0 i_inns) (zRo f_all i_z0) (zLo f_all i_z0) (f_all y_17.toNatClampNeg) (f_all y_21.toNatClampNeg) (f_all y_25.toNatClampNeg) (xposts, xshut, xhere, xsteps, xnever) = none ∧ g_posts_34 = xposts ∧ g_shut_35 = xshut ∧ g_here_36 = xhere ∧ j_steps_29 = xsteps ∧ j_never_32 = xnever)) := h_38
      replace h_44 : zHd ((r_45 = 0 → j_firstCame_31 = xfirstCame ∧ j_longRun_33 = xlongRun ∧ j_moved_30 = xmoved)) := h_44
      have hdo := h_38
      rw [hk1, hk2, hk3] at hdo
      have hdx := h_43
      rw [hk1, hk2] at hdx
      refine lv_if_eq (tgt := 106) hx hb dX12_runs_86 (by decide) (fun c_46 => ?_) (fun c_46 => ?_)
      · have c_46n : r_45.toInt = (0 : Int) := (fa_eq _ _).mp c_46
        have hs := hdo.resolve_left (fun q8 => by have e8 : r_45.toInt = 1 := (by rw [q8.1]; rfl); omega)
        have hE : zDayN (fun k D => zDe i_crossings i_inns (zWo f_all i_z0 i_inns) (zRo f_all i_z0) (zLo f_all i_z0) (f_all (i_d0.toNatClampNeg + (1 + 3 * k))) (f_all (i_d0.toNatClampNeg + (2 + 3 * k))) (f_all (i_d0.toNatClampNeg + (3 + 3 * k))) D) (min (min n_.toInt (f_all i_d0.toNatClampNeg).toInt) 40).toNat 0 (f_posts, f_shut, f_here, i_steps, 0) = (xdone.toInt.toNat, (xposts, xshut, xhere, xsteps, xnever)) := hR.trans (zDayN_n hs.2.1)
        exact z_back hQz_ (z_vret C hr hlocks G (Nat.le_of_ble_eq_true rfl) (Nat.le_of_ble_eq_true rfl) dX12_runs_106 ⟨j_at_27, j_gone_28, j_steps_29, j_moved_30, j_firstCame_31, j_never_32, j_longRun_33, xcrowd, xdone, g_posts_34, g_shut_35, g_here_36, g_was_37, rfl, (by first | with_reducible assumption | omega | trivial | assumption), (by first | with_reducible assumption | omega | trivial | assumption), (by rw [hE]; exact z_nI (by omega) (by omega)), (by rw [hE, hs.2.2.1, hs.2.2.2.1, hs.2.2.2.2.1, hs.2.2.2.2.2.1, hs.2.2.2.2.2.2]), h_40, (by rw [hX.trans (zDayX_n hs.2.1)]; have q7 := h_44 hs.1; rw [q7.1, q7.2.1, q7.2.2])⟩)
      · have c_46n : ¬ r_45.toInt = (0 : Int) := fun q => c_46 ((fa_eq _ _).mpr q)
        have hs := hdo.resolve_right (fun q8 => by have e8 : r_45.toInt = 0 := (by rw [q8.1]; rfl); omega)
        refine lv_aload_n hx hb dX12_runs_89 rfl (lv_at hl 0 rfl) ?_
        refine lv_dup hx hb dX12_runs_90 rfl ?_
        refine z_get C G clX12 0 rfl 18 (by decide) m_fl_RX12_199 rfl dX12_runs_91 ?_
        refine lv_iconst (v := 1) hx hb dX12_runs_94 (by decide) ?_
        refine lv_iadd hx hb dX12_runs_95 ?_
        refine lv_topi (fun y_47 ey_47 => ?_)
        have ey_47i : y_47.toInt = xdone.toInt + (1 : Int) := by rw [ey_47]; exact z_iaddI (x := xdone) (y := (1 : Int32)) (by show -2147483648 ≤ xdone.toInt + (1 : Int); omega) (by show xdone.toInt + (1 : Int) < 2147483648; omega)
        refine z_put C G clX12 0 rfl 18 (by decide) m_fl_RX12_199 rfl rfl rfl (Nat.le_of_ble_eq_true rfl) dX12_runs_96 (fun H locs G => ?_)
        have G : zS T A s.heap s [[zO11 mo m_all m_has i_size i_next i_where i_token i_number i_word i_wrong i_farCrossing m_read i_z0 i_crossings i_inns m_posts m_shut m_here j_steps_29 y_47 j_at_27 j_gone_28 m_was m_came m_seenAt m_rowWorth m_farBy m_used i_everywhere i_again0 i_d0 j_never_32 j_firstCame_31 j_longRun_33 j_moved_30 xcrowd i_l0 i_fitMany i_fitLeast i_fitMost m_fitPost m_fitEnd m_keptPosts i_x0], [zAr T 0 m_all 3952 f_all], [zAr T 0 m_posts 7 g_posts_34], [zAr T 0 m_shut 7 g_shut_35], [zAr T 0 m_here 7 g_here_36], [zAr T 0 m_was 7 g_was_37]] _ _ := G
        refine lv_aload_n hx hb dX12_runs_99 rfl (lv_at hl 0 rfl) ?_
        refine z_Vv (bc := [[zO11 mo m_all m_has i_size i_next i_where i_token i_number i_word i_wrong i_farCrossing m_read i_z0 i_crossings i_inns m_posts m_shut m_here j_steps_29 y_47 j_at_27 j_gone_28 m_was m_came m_seenAt m_rowWorth m_farBy m_used i_everywhere i_again0 i_d0 j_never_32 j_firstCame_31 j_longRun_33 j_moved_30 xcrowd i_l0 i_fitMany i_fitLeast i_fitMost m_fitPost m_fitEnd m_keptPosts i_x0], [zAr T 0 m_here 7 g_here_36]]) (br := [[zAr T 0 m_all 3952 f_all], [zAr T 0 m_posts 7 g_posts_34], [zAr T 0 m_shut 7 g_shut_35], [zAr T 0 m_was 7 g_was_37]]) (As := []) (rest := []) C G (c_x_looks l T mo m_all m_has i_size i_next i_where i_token i_number i_word i_wrong i_farCrossing m_read i_z0 i_crossings i_inns m_posts m_shut m_here j_steps_29 y_47 j_at_27 j_gone_28 m_was m_came m_seenAt m_rowWorth m_farBy m_used i_everywhere i_again0 i_d0 j_never_32 j_firstCame_31 j_longRun_33 j_moved_30 xcrowd i_l0 i_fitMany i_fitLeast i_fitMost m_fitPost m_fitEnd m_keptPosts i_x0 g_here_36 (by first | with_reducible assumption | with_reducible rfl | omega | assumption | rfl)) (kV_RX12_339 C.2.2.2.2 (Nat.le_of_ble_eq_true rfl) (Nat.le_of_ble_eq_true rfl)) [0, 4] [0, 3] rfl rfl (ci := 11) (qc := (RX12, TX12, 43)) rfl rfl (List.mem_flatten.mpr ⟨_, List.mem_of_getElem? (i := 0) rfl, List.mem_cons_self⟩) rfl rfl hl.1 dX12_runs_100 (Nat.le_of_ble_eq_true rfl) (Nat.le_of_ble_eq_true rfl) (fun b1 H locs hw G => ?_)
        refine zEx1 hw ?_
        intro j_crowd_48
        refine zCu2 ?_
        intro hbs9 h_49
        clear hw
        subst hbs9
        have G : zS T A s.heap s [[zAr T 0 m_all 3952 f_all], [zAr T 0 m_posts 7 g_posts_34], [zAr T 0 m_shut 7 g_shut_35], [zAr T 0 m_was 7 g_was_37], [zO11 mo m_all m_has i_size i_next i_where i_token i_number i_word i_wrong i_farCrossing m_read i_z0 i_crossings i_inns m_posts m_shut m_here j_steps_29 y_47 j_at_27 j_gone_28 m_was m_came m_seenAt m_rowWorth m_farBy m_used i_everywhere i_again0 i_d0 j_never_32 j_firstCame_31 j_longRun_33 j_moved_30 j_crowd_48 i_l0 i_fitMany i_fitLeast i_fitMost m_fitPost m_fitEnd m_keptPosts i_x0], [zAr T 0 m_here 7 g_here_36]] _ _ := G
        refine lv_goto (tgt := 4) hx hb dX12_runs_103 (by decide) ?_
        exact ih_4 j_at_27 j_gone_28 j_steps_29 j_moved_30 j_firstCame_31 j_never_32 j_longRun_33 j_crowd_48 y_47 g_posts_34 g_shut_35 g_here_36 g_was_37 (show zMP g_posts_34 ∧ 0 ≤ y_47.toInt ∧ y_47.toInt ≤ 40 ∧ zMV (zRo f_all i_z0) g_posts_34 ∧ zS15 g_shut_35 ∧ zHB (9 + y_47.toInt) g_here_36 ∧ zDayN (fun k D => zDe i_crossings i_inns (zWo f_all i_z0 i_inns) (zRo f_all i_z0) (zLo f_all i_z0) (f_all (i_d0.toNatClampNeg + (1 + 3 * k))) (f_all (i_d0.toNatClampNeg + (2 + 3 * k))) (f_all (i_d0.toNatClampNeg + (3 + 3 * k))) D) (min (min n_.toInt (f_all i_d0.toNatClampNeg).toInt) 40).toNat 0 (f_posts, f_shut, f_here, i_steps, 0) = zDayN (fun k D => zDe i_crossings i_inns (zWo f_all i_z0 i_inns) (zRo f_all i_z0) (zLo f_all i_z0) (f_all (i_d0.toNatClampNeg + (1 + 3 * k))) (f_all (i_d0.toNatClampNeg + (2 + 3 * k))) (f_all (i_d0.toNatClampNeg + (3 + 3 * k))) D) ((min (min n_.toInt (f_all i_d0.toNatClampNeg).toInt) 40).toNat - y_47.toInt.toNat) y_47.toInt.toNat (g_posts_34, g_shut_35, g_here_36, j_steps_29, j_never_32) ∧ zDayA (fun k D => zDe i_crossings i_inns (zWo f_all i_z0 i_inns) (zRo f_all i_z0) (zLo f_all i_z0) (f_all (i_d0.toNatClampNeg + (1 + 3 * k))) (f_all (i_d0.toNatClampNeg + (2 + 3 * k))) (f_all (i_d0.toNatClampNeg + (3 + 3 * k))) D) i_crossings i_inns (zWo f_all i_z0 i_inns) (zLo f_all i_z0) (fun k => f_all (i_d0.toNatClampNeg + (1 + 3 * k))) (fun k => f_all (i_d0.toNatClampNeg + (2 + 3 * k))) (min (min n_.toInt (f_all i_d0.toNatClampNeg).toInt) 40).toNat (f_posts, f_shut, f_here, i_steps, 0) = zDayX (fun k D => zDe i_crossings i_inns (zWo f_all i_z0 i_inns) (zRo f_all i_z0) (zLo f_all i_z0) (f_all (i_d0.toNatClampNeg + (1 + 3 * k))) (f_all (i_d0.toNatClampNeg + (2 + 3 * k))) (f_all (i_d0.toNatClampNeg + (3 + 3 * k))) D) (fun k D E X => zXe i_crossings i_inns (zWo f_all i_z0 i_inns) (zLo f_all i_z0) (f_all (i_d0.toNatClampNeg + (1 + 3 * k))) (f_all (i_d0.toNatClampNeg + (2 + 3 * k))) (nI k) D E X) ((min (min n_.toInt (f_all i_d0.toNatClampNeg).toInt) 40).toNat - y_47.toInt.toNat) y_47.toInt.toNat (g_posts_34, g_shut_35, g_here_36, j_steps_29, j_never_32) (j_firstCame_31, j_longRun_33, j_moved_30, j_crowd_48) from ⟨h_40, by omega, by omega, h_39, h_42, (zHB_m (h_41 (9 + xdone.toInt) (by omega) hHx) (by omega)), (hR.trans (by rw [show (min (min n_.toInt (f_all i_d0.toNatClampNeg).toInt) 40).toNat - xdone.toInt.toNat = ((min (min n_.toInt (f_all i_d0.toNatClampNeg).toInt) 40).toNat - y_47.toInt.toNat) + 1 by omega]; exact (zDayN_s hs.2).trans (by rw [show xdone.toInt.toNat + 1 = y_47.toInt.toNat by omega]))), (hX.trans (by rw [show (min (min n_.toInt (f_all i_d0.toNatClampNeg).toInt) 40).toNat - xdone.toInt.toNat = ((min (min n_.toInt (f_all i_d0.toNatClampNeg).toInt) 40).toNat - y_47.toInt.toNat) + 1 by omega]; exact (zDayX_s hs.2).trans (by rw [show xdone.toInt.toNat + 1 = y_47.toInt.toNat by omega, ← (z_nI (x := xdone) (m := xdone.toInt.toNat) (by omega) (by omega)), ← hdx hs.1 xcrowd, ← h_49])))⟩) (show ((f_all i_d0.toNatClampNeg).toInt - y_47.toInt).toNat < ((f_all i_d0.toNatClampNeg).toInt - xdone.toInt).toNat from by omega) _ _ ls G (lv_sub hl [0, 1] rfl)
set_option maxHeartbeats 4000000 in
set_option maxRecDepth 100000 in
/-- c_x_elsewhere -/
theorem c_x_elsewhere (l : Launch) (T : zTy) (mo : Nat) (m_all : Nat) (m_has : Nat) (i_size : Int32) (i_next : Int32) (i_where : Int32) (i_token : Int32) (i_number : Int32) (i_word : Int32) (i_wrong : Int32) (i_farCrossing : Int32) (m_read : Nat) (i_z0 : Int32) (i_crossings : Int32) (i_inns : Int32) (m_posts : Nat) (m_shut : Nat) (m_here : Nat) (i_steps : Int32) (i_done : Int32) (i_at : Int32) (i_gone : Int32) (m_was : Nat) (m_came : Nat) (m_seenAt : Nat) (m_rowWorth : Nat) (m_farBy : Nat) (m_used : Nat) (i_everywhere : Int32) (i_again0 : Int32) (i_d0 : Int32) (i_never : Int32) (i_firstCame : Int32) (i_longRun : Int32) (i_moved : Int32) (i_crowd : Int32) (i_l0 : Int32) (i_fitMany : Int32) (i_fitLeast : Int32) (i_fitMost : Int32) (m_fitPost : Nat) (m_fitEnd : Nat) (m_keptPosts : Nat) (i_x0 : Int32) (f_all : Nat → Int32) (f_posts : Nat → Int32) (hL : zML f_all i_z0 i_crossings) : zMi l T yX12_elsewhere cX12_elsewhere 3 (some .int) 2 0 0 [.ref mo] [[zO11 mo m_all m_has i_size i_next i_where i_token i_number i_word i_wrong i_farCrossing m_read i_z0 i_crossings i_inns m_posts m_shut m_here i_steps i_done i_at i_gone m_was m_came m_seenAt m_rowWorth m_farBy m_used i_everywhere i_again0 i_d0 i_never i_firstCame i_longRun i_moved i_crowd i_l0 i_fitMany i_fitLeast i_fitMost m_fitPost m_fitEnd m_keptPosts i_x0], [zAr T 0 m_all 3952 f_all], [zAr T 0 m_posts 7 f_posts]] (fun (r : Int32) bs => bs = [[zO11 mo m_all m_has i_size i_next i_where i_token i_number i_word i_wrong i_farCrossing m_read i_z0 i_crossings i_inns m_posts m_shut m_here i_steps i_done i_at i_gone m_was m_came m_seenAt m_rowWorth m_farBy m_used i_everywhere i_again0 i_d0 i_never i_firstCame i_longRun i_moved i_crowd i_l0 i_fitMany i_fitLeast i_fitMost m_fitPost m_fitEnd m_keptPosts i_x0], [zAr T 0 m_all 3952 f_all], [zAr T 0 m_posts 7 f_posts]] ∧ r = zUn f_posts (zPo f_all i_z0) i_crossings.toInt.toNat) := by
  refine zMi_of (own := RX12) (by decide) rfl (Nat.le_of_ble_eq_true rfl) ?_
  intro p e s m args below meth c A ls C hr hlocks hnm hAe G hl
  refine zHide (fun Qz_ hQz_ => ?_)
  have hx := C.1
  have hb := C.2.1
  have hl : lv_has ls 3 [(0, .ref mo)] := hl
  have hz := hL.1
  have hcr := hL.cr
  refine lv_iconst (v := 0) hx hb dX12_elsewhere_0 (by decide) ?_
  refine lv_istore_n (lv' := [(1, .int 0), (0, .ref mo)]) hx hb dX12_elsewhere_1 rfl hl (by decide) (zLvf_h rfl) (fun ls hl => ?_)
  refine lv_iconst (v := 0) hx hb dX12_elsewhere_2 (by decide) ?_
  refine lv_istore_n (lv' := [(2, .int 0), (1, .int 0), (0, .ref mo)]) hx hb dX12_elsewhere_3 rfl hl (by decide) (zLvf_h rfl) (fun ls hl => ?_)
  refine z_lp2 (T := T) 4 (fun (i : Nat) (u : Int32) => [[zO11 mo m_all m_has i_size i_next i_where i_token i_number i_word i_wrong i_farCrossing m_read i_z0 i_crossings i_inns m_posts m_shut m_here i_steps i_done i_at i_gone m_was m_came m_seenAt m_rowWorth m_farBy m_used i_everywhere i_again0 i_d0 i_never i_firstCame i_longRun i_moved i_crowd i_l0 i_fitMany i_fitLeast i_fitMost m_fitPost m_fitEnd m_keptPosts i_x0], [zAr T 0 m_all 3952 f_all], [zAr T 0 m_posts 7 f_posts]]) (fun (i : Nat) (u : Int32) => [(2, .int (nI i)), (1, .int u), (0, .ref mo)]) (fun (i : Nat) (u : Int32) => i ≤ 7 ∧ (i : Int) ≤ i_crossings.toInt ∧ u = zUn f_posts (zPo f_all i_z0) i) (fun (i : Nat) (u : Int32) => 7 - i) ?_ 0 0 (show 0 ≤ 7 ∧ (0 : Int) ≤ i_crossings.toInt ∧ 0 = zUn f_posts (zPo f_all i_z0) 0 from ⟨by omega, by omega, rfl⟩) G (lv_sub hl [0, 1, 2] rfl)
  intro i u hI9 ih_4 H locs ls G hl
  replace hI9 : i ≤ 7 ∧ (i : Int) ≤ i_crossings.toInt ∧ u = zUn f_posts (zPo f_all i_z0) i := hI9
  refine zAn3 hI9 ?_
  intro hi hic hU
  clear hI9
  replace G : zS T A s.heap s [[zO11 mo m_all m_has i_size i_next i_where i_token i_number i_word i_wrong i_farCrossing m_read i_z0 i_crossings i_inns m_posts m_shut m_here i_steps i_done i_at i_gone m_was m_came m_seenAt m_rowWorth m_farBy m_used i_everywhere i_again0 i_d0 i_never i_firstCame i_longRun i_moved i_crowd i_l0 i_fitMany i_fitLeast i_fitMost m_fitPost m_fitEnd m_keptPosts i_x0], [zAr T 0 m_all 3952 f_all], [zAr T 0 m_posts 7 f_posts]] _ _ := G
  replace hl : lv_has ls 3 [(2, .int (nI i)), (1, .int u), (0, .ref mo)] := hl
  refine lv_iload_n hx hb dX12_elsewhere_4 rfl (lv_at hl 0 rfl) ?_
  refine lv_aload_n hx hb dX12_elsewhere_5 rfl (lv_at hl 2 rfl) ?_
  refine z_get C G clX12 0 rfl 12 (by decide) m_fl_RX12_169 rfl dX12_elsewhere_6 ?_
  refine lv_icmp_ge (tgt := 42) hx hb dX12_elsewhere_9 (by decide) (fun c_1 => ?_) (fun c_1 => ?_)
  · have c_1n : i_crossings.toInt ≤ (i : Int) := by have q := (fa_le _ _).mp c_1; rw [nI_toInt (n := i) (by omega)] at q; exact q
    refine lv_iload_n hx hb dX12_elsewhere_42 rfl (lv_at hl 1 rfl) ?_
    exact z_back hQz_ (z_iret C hr hlocks G (Nat.le_of_ble_eq_true rfl) (Nat.le_of_ble_eq_true rfl) dX12_elsewhere_43 ⟨rfl, (by rw [hU, show i = i_crossings.toInt.toNat by omega])⟩)
  · have c_1n : ¬ i_crossings.toInt ≤ (i : Int) := fun q => c_1 ((fa_le _ _).mpr (by rw [nI_toInt (n := i) (by omega)]; exact q))
    refine lv_iload_n hx hb dX12_elsewhere_12 rfl (lv_at hl 1 rfl) ?_
    refine lv_aload_n hx hb dX12_elsewhere_13 rfl (lv_at hl 2 rfl) ?_
    refine z_get C G clX12 0 rfl 14 (by decide) m_fl_RX12_20 rfl dX12_elsewhere_14 ?_
    refine lv_iload_n hx hb dX12_elsewhere_17 rfl (lv_at hl 0 rfl) ?_
    refine z_ild C G 2 rfl (vp_in_nI (by omega) (by decide)) dX12_elsewhere_18 ?_
    refine lv_topi (fun v_2 ev_2 => ?_)
    rw [nI_clamp (by omega)] at ev_2
    subst ev_2
    refine lv_aload_n hx hb dX12_elsewhere_19 rfl (lv_at hl 2 rfl) ?_
    refine lv_iload_n hx hb dX12_elsewhere_20 rfl (lv_at hl 0 rfl) ?_
    refine z_Vi (bc := [[zO11 mo m_all m_has i_size i_next i_where i_token i_number i_word i_wrong i_farCrossing m_read i_z0 i_crossings i_inns m_posts m_shut m_here i_steps i_done i_at i_gone m_was m_came m_seenAt m_rowWorth m_farBy m_used i_everywhere i_again0 i_d0 i_never i_firstCame i_longRun i_moved i_crowd i_l0 i_fitMany i_fitLeast i_fitMost m_fitPost m_fitEnd m_keptPosts i_x0], [zAr T 0 m_all 3952 f_all]]) (br := [[zAr T 0 m_posts 7 f_posts]]) (As := [.int (nI i)]) (rest := [.int (f_posts i), .int u]) C G (c_m_postTold l T mo m_all m_has i_size i_next i_where i_token i_number i_word i_wrong i_farCrossing m_read i_z0 i_crossings i_inns m_posts m_shut m_here i_steps i_done i_at i_gone m_was m_came m_seenAt m_rowWorth m_farBy m_used i_everywhere i_again0 i_d0 i_never i_firstCame i_longRun i_moved i_crowd i_l0 i_fitMany i_fitLeast i_fitMost m_fitPost m_fitEnd m_keptPosts i_x0 f_all (nI i) (by first | with_reducible assumption | with_reducible rfl | omega | assumption | rfl) (by rw [nI_toInt (by omega)]; omega) (by rw [nI_toInt (by omega)]; omega)) (kV_RX12_193 C.2.2.2.2 (Nat.le_of_ble_eq_true rfl) (Nat.le_of_ble_eq_true rfl)) [0, 1] [0, 0] rfl rfl (ci := 11) (qc := (RX12, TX12, 43)) rfl rfl (List.mem_flatten.mpr ⟨_, List.mem_of_getElem? (i := 0) rfl, List.mem_cons_self⟩) rfl rfl hl.1 dX12_elsewhere_21 (Nat.le_of_ble_eq_true rfl) (Nat.le_of_ble_eq_true rfl) (fun r_6 b1 H locs hw G => ?_)
    refine zAn4 hw ?_
    intro hbs9 h_3 h_4 h_5
    clear hw
    subst hbs9
    have G : zS T A s.heap s [[zAr T 0 m_posts 7 f_posts], [zO11 mo m_all m_has i_size i_next i_where i_token i_number i_word i_wrong i_farCrossing m_read i_z0 i_crossings i_inns m_posts m_shut m_here i_steps i_done i_at i_gone m_was m_came m_seenAt m_rowWorth m_farBy m_used i_everywhere i_again0 i_d0 i_never i_firstCame i_longRun i_moved i_crowd i_l0 i_fitMany i_fitLeast i_fitMost m_fitPost m_fitEnd m_keptPosts i_x0], [zAr T 0 m_all 3952 f_all]] _ _ := G
    subst h_3
    have hpt : zPt f_all i_z0 (nI i) = zPo f_all i_z0 i := congrArg f_all (by have q8 := nI_toInt (n := i) (by omega); omega)
    refine lv_icmp_ne (tgt := 31) hx hb dX12_elsewhere_24 (by decide) (fun c_7 => ?_) (fun c_7 => ?_)
    · have c_7n : ¬ (f_posts i).toInt = (zPt f_all i_z0 (nI i)).toInt := fun q => c_7 ((fa_eq _ _).mpr q)
      refine lv_iconst (v := 1) hx hb dX12_elsewhere_31 (by decide) ?_
      refine lv_iload_n hx hb dX12_elsewhere_32 rfl (lv_at hl 0 rfl) ?_
      refine lv_ishl hx hb dX12_elsewhere_33 ?_
      refine lv_ior hx hb dX12_elsewhere_34 ?_
      refine lv_istore_n (lv' := [(1, .int (u ||| (1 <<< ((nI i) &&& 31)))), (2, .int (nI i)), (0, .ref mo)]) hx hb dX12_elsewhere_35 rfl hl (by decide) (zLvf_h rfl) (fun ls hl => ?_)
      refine lv_iinc (v := nI (i + 1)) (lv' := [(2, .int (nI (i + 1))), (1, .int (u ||| (1 <<< ((nI i) &&& 31)))), (0, .ref mo)]) hx hb dX12_elsewhere_36 hl (k := 1) rfl (z_inc i 1) (by decide) (zLvf_h rfl) (fun ls hl => ?_)
      refine lv_goto (tgt := 4) hx hb dX12_elsewhere_39 (by decide) ?_
      have G := G.sub (bs' := [[zO11 mo m_all m_has i_size i_next i_where i_token i_number i_word i_wrong i_farCrossing m_read i_z0 i_crossings i_inns m_posts m_shut m_here i_steps i_done i_at i_gone m_was m_came m_seenAt m_rowWorth m_farBy m_used i_everywhere i_again0 i_d0 i_never i_firstCame i_longRun i_moved i_crowd i_l0 i_fitMany i_fitLeast i_fitMost m_fitPost m_fitEnd m_keptPosts i_x0], [zAr T 0 m_all 3952 f_all], [zAr T 0 m_posts 7 f_posts]]) [1, 2, 0] rfl
      exact ih_4 (i + 1) (u ||| (1 <<< ((nI i) &&& 31))) (show (i + 1) ≤ 7 ∧ ((i + 1) : Int) ≤ i_crossings.toInt ∧ (u ||| (1 <<< ((nI i) &&& 31))) = zUn f_posts (zPo f_all i_z0) (i + 1) from ⟨by omega, by omega, (zUn_n hU (by rw [← hpt]; assumption))⟩) (show 7 - (i + 1) < 7 - i from by omega) _ _ ls G (lv_sub hl [0, 1, 2] rfl)
    · have c_7n : (f_posts i).toInt = (zPt f_all i_z0 (nI i)).toInt := (fa_eq _ _).mp c_7
      refine lv_iconst (v := 0) hx hb dX12_elsewhere_27 (by decide) ?_
      refine lv_goto (tgt := 34) hx hb dX12_elsewhere_28 (by decide) ?_
      refine lv_ior hx hb dX12_elsewhere_34 ?_
      refine lv_istore_n (lv' := [(1, .int (u ||| 0)), (2, .int (nI i)), (0, .ref mo)]) hx hb dX12_elsewhere_35 rfl hl (by decide) (zLvf_h rfl) (fun ls hl => ?_)
      refine lv_iinc (v := nI (i + 1)) (lv' := [(2, .int (nI (i + 1))), (1, .int (u ||| 0)), (0, .ref mo)]) hx hb dX12_elsewhere_36 hl (k := 1) rfl (z_inc i 1) (by decide) (zLvf_h rfl) (fun ls hl => ?_)
      refine lv_goto (tgt := 4) hx hb dX12_elsewhere_39 (by decide) ?_
      have G := G.sub (bs' := [[zO11 mo m_all m_has i_size i_next i_where i_token i_number i_word i_wrong i_farCrossing m_read i_z0 i_crossings i_inns m_posts m_shut m_here i_steps i_done i_at i_gone m_was m_came m_seenAt m_rowWorth m_farBy m_used i_everywhere i_again0 i_d0 i_never i_firstCame i_longRun i_moved i_crowd i_l0 i_fitMany i_fitLeast i_fitMost m_fitPost m_fitEnd m_keptPosts i_x0], [zAr T 0 m_all 3952 f_all], [zAr T 0 m_posts 7 f_posts]]) [1, 2, 0] rfl
      exact ih_4 (i + 1) (u ||| 0) (show (i + 1) ≤ 7 ∧ ((i + 1) : Int) ≤ i_crossings.toInt ∧ (u ||| 0) = zUn f_posts (zPo f_all i_z0) (i + 1) from ⟨by omega, by omega, (zUn_y hU (by rw [← hpt]; assumption))⟩) (show 7 - (i + 1) < 7 - i from by omega) _ _ ls G (lv_sub hl [0, 1, 2] rfl)
set_option maxHeartbeats 4000000 in
set_option maxRecDepth 100000 in
/-- c_f_after_m -/
theorem c_f_after_m (l : Launch) (T : zTy) (mo : Nat) (m_all : Nat) (m_has : Nat) (i_size : Int32) (i_next : Int32) (i_where : Int32) (i_token : Int32) (i_number : Int32) (i_word : Int32) (i_wrong : Int32) (i_farCrossing : Int32) (m_read : Nat) (i_z0 : Int32) (i_crossings : Int32) (i_inns : Int32) (m_posts : Nat) (m_shut : Nat) (m_here : Nat) (i_steps : Int32) (i_done : Int32) (i_at : Int32) (i_gone : Int32) (m_was : Nat) (m_came : Nat) (m_seenAt : Nat) (m_rowWorth : Nat) (m_farBy : Nat) (m_used : Nat) (i_everywhere : Int32) (i_again0 : Int32) (i_d0 : Int32) (i_never : Int32) (i_firstCame : Int32) (i_longRun : Int32) (i_moved : Int32) (i_crowd : Int32) (i_l0 : Int32) (i_fitMany : Int32) (i_fitLeast : Int32) (i_fitMost : Int32) (m_fitPost : Nat) (m_fitEnd : Nat) (m_keptPosts : Nat) (i_x0 : Int32) (f_all : Nat → Int32) (f_posts : Nat → Int32) (f_shut : Nat → Int32) (f_here : Nat → Int32) (f_was : Nat → Int32) (l_ : Int32) (k_ : Int32) (w_ : Int32) (hB : zBI f_all) (hVA : zVA f_all) (hVD : zVD f_all) : zMi l T yX12_after cX12_after 4 (some .int) 8 0 0 [.ref mo, .int l_, .int k_, .int w_] [[zO11 mo m_all m_has i_size i_next i_where i_token i_number i_word i_wrong i_farCrossing m_read i_z0 i_crossings i_inns m_posts m_shut m_here i_steps i_done i_at i_gone m_was m_came m_seenAt m_rowWorth m_farBy m_used i_everywhere i_again0 i_d0 i_never i_firstCame i_longRun i_moved i_crowd i_l0 i_fitMany i_fitLeast i_fitMost m_fitPost m_fitEnd m_keptPosts i_x0], [zAr T 0 m_all 3952 f_all], [zAr T 0 m_posts 7 f_posts], [zAr T 0 m_shut 7 f_shut], [zAr T 0 m_here 7 f_here], [zAr T 0 m_was 7 f_was]] (fun (r : Int32) bs => ∃ (j_z0 : Int32) (j_crossings : Int32) (j_inns : Int32) (j_steps : Int32) (j_done : Int32) (j_at : Int32) (j_gone : Int32) (j_d0 : Int32) (j_never : Int32) (j_firstCame : Int32) (j_longRun : Int32) (j_moved : Int32) (j_crowd : Int32) (g_posts : Nat → Int32) (g_shut : Nat → Int32) (g_here : Nat → Int32) (g_was : Nat → Int32), bs = [[zO11 mo m_all m_has i_size i_next i_where i_token i_number i_word i_wrong i_farCrossing m_read j_z0 j_crossings j_inns m_posts m_shut m_here j_steps j_done j_at j_gone m_was m_came m_seenAt m_rowWorth m_farBy m_used i_everywhere i_again0 j_d0 j_never j_firstCame j_longRun j_moved j_crowd i_l0 i_fitMany i_fitLeast i_fitMost m_fitPost m_fitEnd m_keptPosts i_x0], [zAr T 0 m_all 3952 f_all], [zAr T 0 m_posts 7 g_posts], [zAr T 0 m_shut 7 g_shut], [zAr T 0 m_here 7 g_here], [zAr T 0 m_was 7 g_was]] ∧ (((l_.toInt < 0 ∨ (f_all 0).toInt ≤ l_.toInt) ∨ (k_.toInt < 0 ∨ (f_all 1).toInt ≤ k_.toInt)) ∧ r = -2 ∨ (l_.toInt = 0 ∧ 0 < (f_all 0).toInt) ∧ (k_.toInt = 0 ∧ 0 < (f_all 1).toInt) ∧ pAfter f_all 610 712 w_ r ∨ (l_.toInt = 0 ∧ 0 < (f_all 0).toInt) ∧ (k_.toInt = 1 ∧ 1 < (f_all 1).toInt) ∧ pAfter f_all 610 833 w_ r ∨ (l_.toInt = 1 ∧ 1 < (f_all 0).toInt) ∧ (k_.toInt = 0 ∧ 0 < (f_all 1).toInt) ∧ pAfter f_all 661 712 w_ r ∨ (l_.toInt = 1 ∧ 1 < (f_all 0).toInt) ∧ (k_.toInt = 1 ∧ 1 < (f_all 1).toInt) ∧ pAfter f_all 661 833 w_ r)) := by
  refine zMi_of (own := RX12) (by decide) rfl (Nat.le_of_ble_eq_true rfl) ?_
  intro p e s m args below meth c A ls C hr hlocks hnm hAe G hl
  refine zHide (fun Qz_ hQz_ => ?_)
  have hx := C.1
  have hb := C.2.1
  have hl : lv_has ls 4 [(0, .ref mo), (1, .int l_), (2, .int k_), (3, .int w_)] := hl
  refine lv_aload_n hx hb dX12_after_0 rfl (lv_at hl 0 rfl) ?_
  refine lv_iload_n hx hb dX12_after_1 rfl (lv_at hl 1 rfl) ?_
  refine z_Vi (bc := [[zO11 mo m_all m_has i_size i_next i_where i_token i_number i_word i_wrong i_farCrossing m_read i_z0 i_crossings i_inns m_posts m_shut m_here i_steps i_done i_at i_gone m_was m_came m_seenAt m_rowWorth m_farBy m_used i_everywhere i_again0 i_d0 i_never i_firstCame i_longRun i_moved i_crowd i_l0 i_fitMany i_fitLeast i_fitMost m_fitPost m_fitEnd m_keptPosts i_x0], [zAr T 0 m_all 3952 f_all], [zAr T 0 m_posts 7 f_posts], [zAr T 0 m_shut 7 f_shut], [zAr T 0 m_here 7 f_here]]) (br := [[zAr T 0 m_was 7 f_was]]) (As := [.int l_]) (rest := []) C G (c_m_isLand l T mo m_all m_has i_size i_next i_where i_token i_number i_word i_wrong i_farCrossing m_read i_z0 i_crossings i_inns m_posts m_shut m_here i_steps i_done i_at i_gone m_was m_came m_seenAt m_rowWorth m_farBy m_used i_everywhere i_again0 i_d0 i_never i_firstCame i_longRun i_moved i_crowd i_l0 i_fitMany i_fitLeast i_fitMost m_fitPost m_fitEnd m_keptPosts i_x0 f_all f_posts f_shut f_here l_ (by first | with_reducible assumption | with_reducible rfl | omega | assumption | rfl)) (kV_RX12_184 C.2.2.2.2 (Nat.le_of_ble_eq_true rfl) (Nat.le_of_ble_eq_true rfl)) [0, 1, 2, 3, 4] [0, 0, 0, 0, 0] rfl rfl (ci := 11) (qc := (RX12, TX12, 43)) rfl rfl (List.mem_flatten.mpr ⟨_, List.mem_of_getElem? (i := 0) rfl, List.mem_cons_self⟩) rfl rfl hl.1 dX12_after_2 (Nat.le_of_ble_eq_true rfl) (Nat.le_of_ble_eq_true rfl) (fun r_10 b1 H locs hw G => ?_)
  refine zEx8 hw ?_
  intro j_z0_1 j_crossings_2 j_inns_3 j_steps_4 j_done_5 g_posts_6 g_shut_7 g_here_8
  refine zCu2 ?_
  intro hbs9 hc_9
  clear hw
  subst hbs9
  have G : zS T A s.heap s [[zAr T 0 m_was 7 f_was], [zO11 mo m_all m_has i_size i_next i_where i_token i_number i_word i_wrong i_farCrossing m_read j_z0_1 j_crossings_2 j_inns_3 m_posts m_shut m_here j_steps_4 j_done_5 i_at i_gone m_was m_came m_seenAt m_rowWorth m_farBy m_used i_everywhere i_again0 i_d0 i_never i_firstCame i_longRun i_moved i_crowd i_l0 i_fitMany i_fitLeast i_fitMost m_fitPost m_fitEnd m_keptPosts i_x0], [zAr T 0 m_all 3952 f_all], [zAr T 0 m_posts 7 g_posts_6], [zAr T 0 m_shut 7 g_shut_7], [zAr T 0 m_here 7 g_here_8]] _ _ := G
  rcases hc_9 with ⟨rfl, h_11, h_12, h_13, h_14, h_15, h_16, h_17, h_18, h_19, h_20, h_21, h_22⟩ | ⟨rfl, h_23⟩
  · have h_11 : 0 ≤ l_.toInt := h_11
    have h_12 : l_.toInt ≤ 1 := h_12
    have h_13 : l_.toInt < (f_all 0).toInt := h_13
    have h_14 : j_z0_1.toInt = 610 + 51 * l_.toInt := h_14
    have h_15 : zML f_all j_z0_1 j_crossings_2 := h_15
    have h_16 : zMP g_posts_6 := h_16
    have h_17 : j_inns_3 = f_all (j_z0_1.toInt.toNat + 1) := h_17
    have h_18 : j_steps_4 = 0 := h_18
    have h_19 : j_done_5 = 0 := h_19
    have h_20 : (∀ j, j < 7 → g_posts_6 j = zPt f_all j_z0_1 (nI j)) := h_20
    have h_21 : (∀ j, j < 7 → g_shut_7 j = 0) := h_21
    have h_22 : (∀ j, j < 7 → g_here_8 j = zWk f_all j_z0_1 j) := h_22
    have hLx := h_15
    have hcr := hLx.cr
    have hzx := hLx.1
    have hPx := h_16
    have hVx : zMV (zRo f_all j_z0_1) g_posts_6 := zVA_z hVA hzx h_20
    refine lv_if_eq (tgt := 16) hx hb dX12_after_5 (by decide) (fun q => absurd q (by decide)) (fun _ => ?_)
    rcases (show l_.toInt = 0 ∨ l_.toInt = 1 from by have hq9 := hB.2.1 0 (by decide); omega) with hkk | hkk
    · obtain rfl : j_z0_1 = 610 := Int32.toInt_inj.mp (by show j_z0_1.toInt = 610; omega)
      have hcx : j_crossings_2.toInt = (f_all 610).toInt := by rw [hLx.2.1]; rfl
      have hQP : zP3 g_posts_6 (zWo f_all 610 j_inns_3) := zP3_m hLx hPx
      refine lv_aload_n hx hb dX12_after_8 rfl (lv_at hl 0 rfl) ?_
      refine lv_iload_n hx hb dX12_after_9 rfl (lv_at hl 2 rfl) ?_
      refine z_Vi (bc := [[zO11 mo m_all m_has i_size i_next i_where i_token i_number i_word i_wrong i_farCrossing m_read 610 j_crossings_2 j_inns_3 m_posts m_shut m_here j_steps_4 j_done_5 i_at i_gone m_was m_came m_seenAt m_rowWorth m_farBy m_used i_everywhere i_again0 i_d0 i_never i_firstCame i_longRun i_moved i_crowd i_l0 i_fitMany i_fitLeast i_fitMost m_fitPost m_fitEnd m_keptPosts i_x0], [zAr T 0 m_all 3952 f_all]]) (br := [[zAr T 0 m_was 7 f_was], [zAr T 0 m_posts 7 g_posts_6], [zAr T 0 m_shut 7 g_shut_7], [zAr T 0 m_here 7 g_here_8]]) (As := [.int k_]) (rest := []) C G (c_m_isDay l T mo m_all m_has i_size i_next i_where i_token i_number i_word i_wrong i_farCrossing m_read 610 j_crossings_2 j_inns_3 m_posts m_shut m_here j_steps_4 j_done_5 i_at i_gone m_was m_came m_seenAt m_rowWorth m_farBy m_used i_everywhere i_again0 i_d0 i_never i_firstCame i_longRun i_moved i_crowd i_l0 i_fitMany i_fitLeast i_fitMost m_fitPost m_fitEnd m_keptPosts i_x0 f_all k_ (by first | with_reducible assumption | with_reducible rfl | omega | assumption | rfl)) (kV_RX12_305 C.2.2.2.2 (Nat.le_of_ble_eq_true rfl) (Nat.le_of_ble_eq_true rfl)) [1, 2] [1, 0] rfl rfl (ci := 11) (qc := (RX12, TX12, 43)) rfl rfl (List.mem_flatten.mpr ⟨_, List.mem_of_getElem? (i := 0) rfl, List.mem_cons_self⟩) rfl rfl hl.1 dX12_after_10 (Nat.le_of_ble_eq_true rfl) (Nat.le_of_ble_eq_true rfl) (fun r_26 b1 H locs hw G => ?_)
      refine zEx1 hw ?_
      intro j_d0_24
      refine zCu2 ?_
      intro hbs9 hc_25
      clear hw
      subst hbs9
      have G : zS T A s.heap s [[zAr T 0 m_was 7 f_was], [zAr T 0 m_posts 7 g_posts_6], [zAr T 0 m_shut 7 g_shut_7], [zAr T 0 m_here 7 g_here_8], [zO11 mo m_all m_has i_size i_next i_where i_token i_number i_word i_wrong i_farCrossing m_read 610 j_crossings_2 j_inns_3 m_posts m_shut m_here j_steps_4 j_done_5 i_at i_gone m_was m_came m_seenAt m_rowWorth m_farBy m_used i_everywhere i_again0 j_d0_24 i_never i_firstCame i_longRun i_moved i_crowd i_l0 i_fitMany i_fitLeast i_fitMost m_fitPost m_fitEnd m_keptPosts i_x0], [zAr T 0 m_all 3952 f_all]] _ _ := G
      rcases hc_25 with ⟨rfl, h_27, h_28, h_29, h_30⟩ | ⟨rfl, h_31⟩
      · have h_27 : 0 ≤ k_.toInt := h_27
        have h_28 : k_.toInt < (f_all 1).toInt := h_28
        have h_29 : j_d0_24.toInt = 712 + 121 * k_.toInt := h_29
        have h_30 : zMD f_all j_d0_24 := h_30
        have hD := h_30
        have hDa := hD.1
        have hDb := hD.2
        refine lv_if_ne (tgt := 19) hx hb dX12_after_13 (by decide) (fun _ => ?_) (fun q => absurd q (by decide))
        rcases (show k_.toInt = 0 ∨ k_.toInt = 1 from by have hq9 := hB.2.1 1 (by decide); omega) with hkd | hkd
        · obtain rfl : j_d0_24 = 712 := Int32.toInt_inj.mp (by show j_d0_24.toInt = 712; omega)
          have hDv : zDyv f_all 712 := zVD_0 hVD 0 (by decide)
          refine lv_aload_n hx hb dX12_after_19 rfl (lv_at hl 0 rfl) ?_
          refine lv_bipush (v := 40) hx hb dX12_after_20 (by decide) ?_
          refine z_Vv (bc := [[zO11 mo m_all m_has i_size i_next i_where i_token i_number i_word i_wrong i_farCrossing m_read 610 j_crossings_2 j_inns_3 m_posts m_shut m_here j_steps_4 j_done_5 i_at i_gone m_was m_came m_seenAt m_rowWorth m_farBy m_used i_everywhere i_again0 712 i_never i_firstCame i_longRun i_moved i_crowd i_l0 i_fitMany i_fitLeast i_fitMost m_fitPost m_fitEnd m_keptPosts i_x0], [zAr T 0 m_all 3952 f_all], [zAr T 0 m_posts 7 g_posts_6], [zAr T 0 m_shut 7 g_shut_7], [zAr T 0 m_here 7 g_here_8], [zAr T 0 m_was 7 f_was]]) (br := []) (As := [.int 40]) (rest := []) C G (c_x_runs l T mo m_all m_has i_size i_next i_where i_token i_number i_word i_wrong i_farCrossing m_read 610 j_crossings_2 j_inns_3 m_posts m_shut m_here j_steps_4 j_done_5 i_at i_gone m_was m_came m_seenAt m_rowWorth m_farBy m_used i_everywhere i_again0 712 i_never i_firstCame i_longRun i_moved i_crowd i_l0 i_fitMany i_fitLeast i_fitMost m_fitPost m_fitEnd m_keptPosts i_x0 f_all g_posts_6 g_shut_7 g_here_8 f_was 40 (by first | with_reducible assumption | with_reducible rfl | omega | assumption | rfl) (by first | with_reducible assumption | with_reducible rfl | omega | assumption | rfl) hVx hD h_19 (zWk_b hLx h_22) (zS0_b h_21) hDv) (kV_RX12_348 C.2.2.2.2 (Nat.le_of_ble_eq_true rfl) (Nat.le_of_ble_eq_true rfl)) [4, 5, 1, 2, 3, 0] [0, 0, 0, 0, 0, 0] rfl rfl (ci := 11) (qc := (RX12, TX12, 43)) rfl rfl (List.mem_flatten.mpr ⟨_, List.mem_of_getElem? (i := 0) rfl, List.mem_cons_self⟩) rfl rfl hl.1 dX12_after_22 (Nat.le_of_ble_eq_true rfl) (Nat.le_of_ble_eq_true rfl) (fun b1 H locs hw G => ?_)
          refine zEx13 hw ?_
          intro j_at_32 j_gone_33 j_steps_34 j_moved_35 j_firstCame_36 j_never_37 j_longRun_38 j_crowd_39 j_done_40 g_posts_41 g_shut_42 g_here_43 g_was_44
          refine zCu7 ?_
          intro hbs9 h_45 h_46 h_47 h_48 h_49 h_50
          clear hw
          subst hbs9
          have G : zS T A s.heap s [[zO11 mo m_all m_has i_size i_next i_where i_token i_number i_word i_wrong i_farCrossing m_read 610 j_crossings_2 j_inns_3 m_posts m_shut m_here j_steps_34 j_done_40 j_at_32 j_gone_33 m_was m_came m_seenAt m_rowWorth m_farBy m_used i_everywhere i_again0 712 j_never_37 j_firstCame_36 j_longRun_38 j_moved_35 j_crowd_39 i_l0 i_fitMany i_fitLeast i_fitMost m_fitPost m_fitEnd m_keptPosts i_x0], [zAr T 0 m_all 3952 f_all], [zAr T 0 m_posts 7 g_posts_41], [zAr T 0 m_shut 7 g_shut_42], [zAr T 0 m_here 7 g_here_43], [zAr T 0 m_was 7 g_was_44]] _ _ := G
          refine lv_iload_n hx hb dX12_after_25 rfl (lv_at hl 3 rfl) ?_
          by_cases c_52o : w_.toInt < 0 ∨ 4 < w_.toInt
          · refine lv_tableOut (tgt := 85) hx hb dX12_after_26 c_52o (by decide) ?_
            refine lv_bipush (v := (-2)) hx hb dX12_after_85 (by decide) ?_
            exact z_back hQz_ (z_iret C hr hlocks G (Nat.le_of_ble_eq_true rfl) (Nat.le_of_ble_eq_true rfl) dX12_after_87 ⟨610, j_crossings_2, j_inns_3, j_steps_34, j_done_40, j_at_32, j_gone_33, 712, j_never_37, j_firstCame_36, j_longRun_38, j_moved_35, j_crowd_39, g_posts_41, g_shut_42, g_here_43, g_was_44, rfl, (Or.inr (Or.inl ⟨⟨by first | with_reducible assumption | assumption, by omega⟩, ⟨by first | with_reducible assumption | assumption, by omega⟩, ⟨g_posts_6, g_shut_7, g_here_8, ⟨zPt_o h_20, h_21, fun j hj => (h_22 j hj).trans rfl⟩, by rw [show pW f_all 610 = zWo f_all 610 j_inns_3 from congrArg (zWo f_all 610) h_17.symm]; rw [show f_all ((610 : Int32).toInt.toNat) = j_crossings_2 from hLx.2.1.symm, show f_all ((610 : Int32).toInt.toNat + 1) = j_inns_3 from h_17.symm]; have q7 := h_48; have q6 := h_50; rw [h_18] at q7 q6; refine Eq.mp (congr (congrArg (zAft _ _ _ _) q7) q6) ?_; exact Or.inr (Or.inr (Or.inr (Or.inr (Or.inr ⟨by omega, rfl⟩))))⟩⟩))⟩)
          · have c_52r : w_.toInt = 0 ∨ w_.toInt = 1 ∨ w_.toInt = 2 ∨ w_.toInt = 3 ∨ w_.toInt = 4 := by omega
            rcases c_52r with c_52 | c_52 | c_52 | c_52 | c_52
            · refine lv_tableIn (tgt := 60) hx hb dX12_after_26 (by first | (rw [c_52]; decide) | omega) (by first | (rw [c_52]; decide) | omega) (by rw [c_52]; rfl) (by decide) ?_
              refine lv_aload_n hx hb dX12_after_60 rfl (lv_at hl 0 rfl) ?_
              refine z_get C G clX12 0 rfl 31 (by decide) m_fl_RX12_314 rfl dX12_after_61 ?_
              exact z_back hQz_ (z_iret C hr hlocks G (Nat.le_of_ble_eq_true rfl) (Nat.le_of_ble_eq_true rfl) dX12_after_64 ⟨610, j_crossings_2, j_inns_3, j_steps_34, j_done_40, j_at_32, j_gone_33, 712, j_never_37, j_firstCame_36, j_longRun_38, j_moved_35, j_crowd_39, g_posts_41, g_shut_42, g_here_43, g_was_44, rfl, (Or.inr (Or.inl ⟨⟨by first | with_reducible assumption | assumption, by omega⟩, ⟨by first | with_reducible assumption | assumption, by omega⟩, ⟨g_posts_6, g_shut_7, g_here_8, ⟨zPt_o h_20, h_21, fun j hj => (h_22 j hj).trans rfl⟩, by rw [show pW f_all 610 = zWo f_all 610 j_inns_3 from congrArg (zWo f_all 610) h_17.symm]; rw [show f_all ((610 : Int32).toInt.toNat) = j_crossings_2 from hLx.2.1.symm, show f_all ((610 : Int32).toInt.toNat + 1) = j_inns_3 from h_17.symm]; have q7 := h_48; have q6 := h_50; rw [h_18] at q7 q6; refine Eq.mp (congr (congrArg (zAft _ _ _ _) q7) q6) ?_; exact Or.inl ⟨by omega, rfl⟩⟩⟩))⟩)
            · refine lv_tableIn (tgt := 65) hx hb dX12_after_26 (by first | (rw [c_52]; decide) | omega) (by first | (rw [c_52]; decide) | omega) (by rw [c_52]; rfl) (by decide) ?_
              refine lv_aload_n hx hb dX12_after_65 rfl (lv_at hl 0 rfl) ?_
              refine z_get C G clX12 0 rfl 32 (by decide) m_fl_RX12_323 rfl dX12_after_66 ?_
              exact z_back hQz_ (z_iret C hr hlocks G (Nat.le_of_ble_eq_true rfl) (Nat.le_of_ble_eq_true rfl) dX12_after_69 ⟨610, j_crossings_2, j_inns_3, j_steps_34, j_done_40, j_at_32, j_gone_33, 712, j_never_37, j_firstCame_36, j_longRun_38, j_moved_35, j_crowd_39, g_posts_41, g_shut_42, g_here_43, g_was_44, rfl, (Or.inr (Or.inl ⟨⟨by first | with_reducible assumption | assumption, by omega⟩, ⟨by first | with_reducible assumption | assumption, by omega⟩, ⟨g_posts_6, g_shut_7, g_here_8, ⟨zPt_o h_20, h_21, fun j hj => (h_22 j hj).trans rfl⟩, by rw [show pW f_all 610 = zWo f_all 610 j_inns_3 from congrArg (zWo f_all 610) h_17.symm]; rw [show f_all ((610 : Int32).toInt.toNat) = j_crossings_2 from hLx.2.1.symm, show f_all ((610 : Int32).toInt.toNat + 1) = j_inns_3 from h_17.symm]; have q7 := h_48; have q6 := h_50; rw [h_18] at q7 q6; refine Eq.mp (congr (congrArg (zAft _ _ _ _) q7) q6) ?_; exact Or.inr (Or.inl ⟨by omega, rfl⟩)⟩⟩))⟩)
            · refine lv_tableIn (tgt := 70) hx hb dX12_after_26 (by first | (rw [c_52]; decide) | omega) (by first | (rw [c_52]; decide) | omega) (by rw [c_52]; rfl) (by decide) ?_
              refine lv_aload_n hx hb dX12_after_70 rfl (lv_at hl 0 rfl) ?_
              refine z_get C G clX12 0 rfl 33 (by decide) m_fl_RX12_311 rfl dX12_after_71 ?_
              exact z_back hQz_ (z_iret C hr hlocks G (Nat.le_of_ble_eq_true rfl) (Nat.le_of_ble_eq_true rfl) dX12_after_74 ⟨610, j_crossings_2, j_inns_3, j_steps_34, j_done_40, j_at_32, j_gone_33, 712, j_never_37, j_firstCame_36, j_longRun_38, j_moved_35, j_crowd_39, g_posts_41, g_shut_42, g_here_43, g_was_44, rfl, (Or.inr (Or.inl ⟨⟨by first | with_reducible assumption | assumption, by omega⟩, ⟨by first | with_reducible assumption | assumption, by omega⟩, ⟨g_posts_6, g_shut_7, g_here_8, ⟨zPt_o h_20, h_21, fun j hj => (h_22 j hj).trans rfl⟩, by rw [show pW f_all 610 = zWo f_all 610 j_inns_3 from congrArg (zWo f_all 610) h_17.symm]; rw [show f_all ((610 : Int32).toInt.toNat) = j_crossings_2 from hLx.2.1.symm, show f_all ((610 : Int32).toInt.toNat + 1) = j_inns_3 from h_17.symm]; have q7 := h_48; have q6 := h_50; rw [h_18] at q7 q6; refine Eq.mp (congr (congrArg (zAft _ _ _ _) q7) q6) ?_; exact Or.inr (Or.inr (Or.inl ⟨by omega, rfl⟩))⟩⟩))⟩)
            · refine lv_tableIn (tgt := 75) hx hb dX12_after_26 (by first | (rw [c_52]; decide) | omega) (by first | (rw [c_52]; decide) | omega) (by rw [c_52]; rfl) (by decide) ?_
              refine lv_aload_n hx hb dX12_after_75 rfl (lv_at hl 0 rfl) ?_
              refine z_get C G clX12 0 rfl 34 (by decide) m_fl_RX12_308 rfl dX12_after_76 ?_
              exact z_back hQz_ (z_iret C hr hlocks G (Nat.le_of_ble_eq_true rfl) (Nat.le_of_ble_eq_true rfl) dX12_after_79 ⟨610, j_crossings_2, j_inns_3, j_steps_34, j_done_40, j_at_32, j_gone_33, 712, j_never_37, j_firstCame_36, j_longRun_38, j_moved_35, j_crowd_39, g_posts_41, g_shut_42, g_here_43, g_was_44, rfl, (Or.inr (Or.inl ⟨⟨by first | with_reducible assumption | assumption, by omega⟩, ⟨by first | with_reducible assumption | assumption, by omega⟩, ⟨g_posts_6, g_shut_7, g_here_8, ⟨zPt_o h_20, h_21, fun j hj => (h_22 j hj).trans rfl⟩, by rw [show pW f_all 610 = zWo f_all 610 j_inns_3 from congrArg (zWo f_all 610) h_17.symm]; rw [show f_all ((610 : Int32).toInt.toNat) = j_crossings_2 from hLx.2.1.symm, show f_all ((610 : Int32).toInt.toNat + 1) = j_inns_3 from h_17.symm]; have q7 := h_48; have q6 := h_50; rw [h_18] at q7 q6; refine Eq.mp (congr (congrArg (zAft _ _ _ _) q7) q6) ?_; exact Or.inr (Or.inr (Or.inr (Or.inl ⟨by omega, rfl⟩)))⟩⟩))⟩)
            · refine lv_tableIn (tgt := 80) hx hb dX12_after_26 (by first | (rw [c_52]; decide) | omega) (by first | (rw [c_52]; decide) | omega) (by rw [c_52]; rfl) (by decide) ?_
              refine lv_aload_n hx hb dX12_after_80 rfl (lv_at hl 0 rfl) ?_
              refine z_Vi (bc := [[zO11 mo m_all m_has i_size i_next i_where i_token i_number i_word i_wrong i_farCrossing m_read 610 j_crossings_2 j_inns_3 m_posts m_shut m_here j_steps_34 j_done_40 j_at_32 j_gone_33 m_was m_came m_seenAt m_rowWorth m_farBy m_used i_everywhere i_again0 712 j_never_37 j_firstCame_36 j_longRun_38 j_moved_35 j_crowd_39 i_l0 i_fitMany i_fitLeast i_fitMost m_fitPost m_fitEnd m_keptPosts i_x0], [zAr T 0 m_all 3952 f_all], [zAr T 0 m_posts 7 g_posts_41]]) (br := [[zAr T 0 m_shut 7 g_shut_42], [zAr T 0 m_here 7 g_here_43], [zAr T 0 m_was 7 g_was_44]]) (As := []) (rest := []) C G (c_x_elsewhere l T mo m_all m_has i_size i_next i_where i_token i_number i_word i_wrong i_farCrossing m_read 610 j_crossings_2 j_inns_3 m_posts m_shut m_here j_steps_34 j_done_40 j_at_32 j_gone_33 m_was m_came m_seenAt m_rowWorth m_farBy m_used i_everywhere i_again0 712 j_never_37 j_firstCame_36 j_longRun_38 j_moved_35 j_crowd_39 i_l0 i_fitMany i_fitLeast i_fitMost m_fitPost m_fitEnd m_keptPosts i_x0 f_all g_posts_41 (by first | with_reducible assumption | with_reducible rfl | omega | assumption | rfl)) (kV_RX12_357 C.2.2.2.2 (Nat.le_of_ble_eq_true rfl) (Nat.le_of_ble_eq_true rfl)) [0, 1, 2] [0, 0, 0] rfl rfl (ci := 11) (qc := (RX12, TX12, 43)) rfl rfl (List.mem_flatten.mpr ⟨_, List.mem_of_getElem? (i := 0) rfl, List.mem_cons_self⟩) rfl rfl hl.1 dX12_after_81 (Nat.le_of_ble_eq_true rfl) (Nat.le_of_ble_eq_true rfl) (fun r_54 b1 H locs hw G => ?_)
              refine zAn2 hw ?_
              intro hbs9 h_53
              clear hw
              subst hbs9
              have G : zS T A s.heap s [[zAr T 0 m_shut 7 g_shut_42], [zAr T 0 m_here 7 g_here_43], [zAr T 0 m_was 7 g_was_44], [zO11 mo m_all m_has i_size i_next i_where i_token i_number i_word i_wrong i_farCrossing m_read 610 j_crossings_2 j_inns_3 m_posts m_shut m_here j_steps_34 j_done_40 j_at_32 j_gone_33 m_was m_came m_seenAt m_rowWorth m_farBy m_used i_everywhere i_again0 712 j_never_37 j_firstCame_36 j_longRun_38 j_moved_35 j_crowd_39 i_l0 i_fitMany i_fitLeast i_fitMost m_fitPost m_fitEnd m_keptPosts i_x0], [zAr T 0 m_all 3952 f_all], [zAr T 0 m_posts 7 g_posts_41]] _ _ := G
              have G := G.sub (bs' := [[zO11 mo m_all m_has i_size i_next i_where i_token i_number i_word i_wrong i_farCrossing m_read 610 j_crossings_2 j_inns_3 m_posts m_shut m_here j_steps_34 j_done_40 j_at_32 j_gone_33 m_was m_came m_seenAt m_rowWorth m_farBy m_used i_everywhere i_again0 712 j_never_37 j_firstCame_36 j_longRun_38 j_moved_35 j_crowd_39 i_l0 i_fitMany i_fitLeast i_fitMost m_fitPost m_fitEnd m_keptPosts i_x0], [zAr T 0 m_all 3952 f_all], [zAr T 0 m_posts 7 g_posts_41], [zAr T 0 m_shut 7 g_shut_42], [zAr T 0 m_here 7 g_here_43], [zAr T 0 m_was 7 g_was_44]]) [3, 4, 5, 0, 1, 2] rfl
              exact z_back hQz_ (z_iret C hr hlocks G (Nat.le_of_ble_eq_true rfl) (Nat.le_of_ble_eq_true rfl) dX12_after_84 ⟨610, j_crossings_2, j_inns_3, j_steps_34, j_done_40, j_at_32, j_gone_33, 712, j_never_37, j_firstCame_36, j_longRun_38, j_moved_35, j_crowd_39, g_posts_41, g_shut_42, g_here_43, g_was_44, rfl, (Or.inr (Or.inl ⟨⟨by first | with_reducible assumption | assumption, by omega⟩, ⟨by first | with_reducible assumption | assumption, by omega⟩, ⟨g_posts_6, g_shut_7, g_here_8, ⟨zPt_o h_20, h_21, fun j hj => (h_22 j hj).trans rfl⟩, by rw [show pW f_all 610 = zWo f_all 610 j_inns_3 from congrArg (zWo f_all 610) h_17.symm]; rw [show f_all ((610 : Int32).toInt.toNat) = j_crossings_2 from hLx.2.1.symm, show f_all ((610 : Int32).toInt.toNat + 1) = j_inns_3 from h_17.symm]; have q7 := h_48; have q6 := h_50; rw [h_18] at q7 q6; refine Eq.mp (congr (congrArg (zAft _ _ _ _) q7) q6) ?_; exact Or.inr (Or.inr (Or.inr (Or.inr (Or.inl ⟨by omega, h_53⟩))))⟩⟩))⟩)
        · obtain rfl : j_d0_24 = 833 := Int32.toInt_inj.mp (by show j_d0_24.toInt = 833; omega)
          have hDv : zDyv f_all 833 := zVD_0 hVD 1 (by decide)
          refine lv_aload_n hx hb dX12_after_19 rfl (lv_at hl 0 rfl) ?_
          refine lv_bipush (v := 40) hx hb dX12_after_20 (by decide) ?_
          refine z_Vv (bc := [[zO11 mo m_all m_has i_size i_next i_where i_token i_number i_word i_wrong i_farCrossing m_read 610 j_crossings_2 j_inns_3 m_posts m_shut m_here j_steps_4 j_done_5 i_at i_gone m_was m_came m_seenAt m_rowWorth m_farBy m_used i_everywhere i_again0 833 i_never i_firstCame i_longRun i_moved i_crowd i_l0 i_fitMany i_fitLeast i_fitMost m_fitPost m_fitEnd m_keptPosts i_x0], [zAr T 0 m_all 3952 f_all], [zAr T 0 m_posts 7 g_posts_6], [zAr T 0 m_shut 7 g_shut_7], [zAr T 0 m_here 7 g_here_8], [zAr T 0 m_was 7 f_was]]) (br := []) (As := [.int 40]) (rest := []) C G (c_x_runs l T mo m_all m_has i_size i_next i_where i_token i_number i_word i_wrong i_farCrossing m_read 610 j_crossings_2 j_inns_3 m_posts m_shut m_here j_steps_4 j_done_5 i_at i_gone m_was m_came m_seenAt m_rowWorth m_farBy m_used i_everywhere i_again0 833 i_never i_firstCame i_longRun i_moved i_crowd i_l0 i_fitMany i_fitLeast i_fitMost m_fitPost m_fitEnd m_keptPosts i_x0 f_all g_posts_6 g_shut_7 g_here_8 f_was 40 (by first | with_reducible assumption | with_reducible rfl | omega | assumption | rfl) (by first | with_reducible assumption | with_reducible rfl | omega | assumption | rfl) hVx hD h_19 (zWk_b hLx h_22) (zS0_b h_21) hDv) (kV_RX12_348 C.2.2.2.2 (Nat.le_of_ble_eq_true rfl) (Nat.le_of_ble_eq_true rfl)) [4, 5, 1, 2, 3, 0] [0, 0, 0, 0, 0, 0] rfl rfl (ci := 11) (qc := (RX12, TX12, 43)) rfl rfl (List.mem_flatten.mpr ⟨_, List.mem_of_getElem? (i := 0) rfl, List.mem_cons_self⟩) rfl rfl hl.1 dX12_after_22 (Nat.le_of_ble_eq_true rfl) (Nat.le_of_ble_eq_true rfl) (fun b1 H locs hw G => ?_)
          refine zEx13 hw ?_
          intro j_at_55 j_gone_56 j_steps_57 j_moved_58 j_firstCame_59 j_never_60 j_longRun_61 j_crowd_62 j_done_63 g_posts_64 g_shut_65 g_here_66 g_was_67
          refine zCu7 ?_
          intro hbs9 h_68 h_69 h_70 h_71 h_72 h_73
          clear hw
          subst hbs9
          have G : zS T A s.heap s [[zO11 mo m_all m_has i_size i_next i_where i_token i_number i_word i_wrong i_farCrossing m_read 610 j_crossings_2 j_inns_3 m_posts m_shut m_here j_steps_57 j_done_63 j_at_55 j_gone_56 m_was m_came m_seenAt m_rowWorth m_farBy m_used i_everywhere i_again0 833 j_never_60 j_firstCame_59 j_longRun_61 j_moved_58 j_crowd_62 i_l0 i_fitMany i_fitLeast i_fitMost m_fitPost m_fitEnd m_keptPosts i_x0], [zAr T 0 m_all 3952 f_all], [zAr T 0 m_posts 7 g_posts_64], [zAr T 0 m_shut 7 g_shut_65], [zAr T 0 m_here 7 g_here_66], [zAr T 0 m_was 7 g_was_67]] _ _ := G
          refine lv_iload_n hx hb dX12_after_25 rfl (lv_at hl 3 rfl) ?_
          by_cases c_75o : w_.toInt < 0 ∨ 4 < w_.toInt
          · refine lv_tableOut (tgt := 85) hx hb dX12_after_26 c_75o (by decide) ?_
            refine lv_bipush (v := (-2)) hx hb dX12_after_85 (by decide) ?_
            exact z_back hQz_ (z_iret C hr hlocks G (Nat.le_of_ble_eq_true rfl) (Nat.le_of_ble_eq_true rfl) dX12_after_87 ⟨610, j_crossings_2, j_inns_3, j_steps_57, j_done_63, j_at_55, j_gone_56, 833, j_never_60, j_firstCame_59, j_longRun_61, j_moved_58, j_crowd_62, g_posts_64, g_shut_65, g_here_66, g_was_67, rfl, (Or.inr (Or.inr (Or.inl ⟨⟨by first | with_reducible assumption | assumption, by omega⟩, ⟨by first | with_reducible assumption | assumption, by omega⟩, ⟨g_posts_6, g_shut_7, g_here_8, ⟨zPt_o h_20, h_21, fun j hj => (h_22 j hj).trans rfl⟩, by rw [show pW f_all 610 = zWo f_all 610 j_inns_3 from congrArg (zWo f_all 610) h_17.symm]; rw [show f_all ((610 : Int32).toInt.toNat) = j_crossings_2 from hLx.2.1.symm, show f_all ((610 : Int32).toInt.toNat + 1) = j_inns_3 from h_17.symm]; have q7 := h_71; have q6 := h_73; rw [h_18] at q7 q6; refine Eq.mp (congr (congrArg (zAft _ _ _ _) q7) q6) ?_; exact Or.inr (Or.inr (Or.inr (Or.inr (Or.inr ⟨by omega, rfl⟩))))⟩⟩)))⟩)
          · have c_75r : w_.toInt = 0 ∨ w_.toInt = 1 ∨ w_.toInt = 2 ∨ w_.toInt = 3 ∨ w_.toInt = 4 := by omega
            rcases c_75r with c_75 | c_75 | c_75 | c_75 | c_75
            · refine lv_tableIn (tgt := 60) hx hb dX12_after_26 (by first | (rw [c_75]; decide) | omega) (by first | (rw [c_75]; decide) | omega) (by rw [c_75]; rfl) (by decide) ?_
              refine lv_aload_n hx hb dX12_after_60 rfl (lv_at hl 0 rfl) ?_
              refine z_get C G clX12 0 rfl 31 (by decide) m_fl_RX12_314 rfl dX12_after_61 ?_
              exact z_back hQz_ (z_iret C hr hlocks G (Nat.le_of_ble_eq_true rfl) (Nat.le_of_ble_eq_true rfl) dX12_after_64 ⟨610, j_crossings_2, j_inns_3, j_steps_57, j_done_63, j_at_55, j_gone_56, 833, j_never_60, j_firstCame_59, j_longRun_61, j_moved_58, j_crowd_62, g_posts_64, g_shut_65, g_here_66, g_was_67, rfl, (Or.inr (Or.inr (Or.inl ⟨⟨by first | with_reducible assumption | assumption, by omega⟩, ⟨by first | with_reducible assumption | assumption, by omega⟩, ⟨g_posts_6, g_shut_7, g_here_8, ⟨zPt_o h_20, h_21, fun j hj => (h_22 j hj).trans rfl⟩, by rw [show pW f_all 610 = zWo f_all 610 j_inns_3 from congrArg (zWo f_all 610) h_17.symm]; rw [show f_all ((610 : Int32).toInt.toNat) = j_crossings_2 from hLx.2.1.symm, show f_all ((610 : Int32).toInt.toNat + 1) = j_inns_3 from h_17.symm]; have q7 := h_71; have q6 := h_73; rw [h_18] at q7 q6; refine Eq.mp (congr (congrArg (zAft _ _ _ _) q7) q6) ?_; exact Or.inl ⟨by omega, rfl⟩⟩⟩)))⟩)
            · refine lv_tableIn (tgt := 65) hx hb dX12_after_26 (by first | (rw [c_75]; decide) | omega) (by first | (rw [c_75]; decide) | omega) (by rw [c_75]; rfl) (by decide) ?_
              refine lv_aload_n hx hb dX12_after_65 rfl (lv_at hl 0 rfl) ?_
              refine z_get C G clX12 0 rfl 32 (by decide) m_fl_RX12_323 rfl dX12_after_66 ?_
              exact z_back hQz_ (z_iret C hr hlocks G (Nat.le_of_ble_eq_true rfl) (Nat.le_of_ble_eq_true rfl) dX12_after_69 ⟨610, j_crossings_2, j_inns_3, j_steps_57, j_done_63, j_at_55, j_gone_56, 833, j_never_60, j_firstCame_59, j_longRun_61, j_moved_58, j_crowd_62, g_posts_64, g_shut_65, g_here_66, g_was_67, rfl, (Or.inr (Or.inr (Or.inl ⟨⟨by first | with_reducible assumption | assumption, by omega⟩, ⟨by first | with_reducible assumption | assumption, by omega⟩, ⟨g_posts_6, g_shut_7, g_here_8, ⟨zPt_o h_20, h_21, fun j hj => (h_22 j hj).trans rfl⟩, by rw [show pW f_all 610 = zWo f_all 610 j_inns_3 from congrArg (zWo f_all 610) h_17.symm]; rw [show f_all ((610 : Int32).toInt.toNat) = j_crossings_2 from hLx.2.1.symm, show f_all ((610 : Int32).toInt.toNat + 1) = j_inns_3 from h_17.symm]; have q7 := h_71; have q6 := h_73; rw [h_18] at q7 q6; refine Eq.mp (congr (congrArg (zAft _ _ _ _) q7) q6) ?_; exact Or.inr (Or.inl ⟨by omega, rfl⟩)⟩⟩)))⟩)
            · refine lv_tableIn (tgt := 70) hx hb dX12_after_26 (by first | (rw [c_75]; decide) | omega) (by first | (rw [c_75]; decide) | omega) (by rw [c_75]; rfl) (by decide) ?_
              refine lv_aload_n hx hb dX12_after_70 rfl (lv_at hl 0 rfl) ?_
              refine z_get C G clX12 0 rfl 33 (by decide) m_fl_RX12_311 rfl dX12_after_71 ?_
              exact z_back hQz_ (z_iret C hr hlocks G (Nat.le_of_ble_eq_true rfl) (Nat.le_of_ble_eq_true rfl) dX12_after_74 ⟨610, j_crossings_2, j_inns_3, j_steps_57, j_done_63, j_at_55, j_gone_56, 833, j_never_60, j_firstCame_59, j_longRun_61, j_moved_58, j_crowd_62, g_posts_64, g_shut_65, g_here_66, g_was_67, rfl, (Or.inr (Or.inr (Or.inl ⟨⟨by first | with_reducible assumption | assumption, by omega⟩, ⟨by first | with_reducible assumption | assumption, by omega⟩, ⟨g_posts_6, g_shut_7, g_here_8, ⟨zPt_o h_20, h_21, fun j hj => (h_22 j hj).trans rfl⟩, by rw [show pW f_all 610 = zWo f_all 610 j_inns_3 from congrArg (zWo f_all 610) h_17.symm]; rw [show f_all ((610 : Int32).toInt.toNat) = j_crossings_2 from hLx.2.1.symm, show f_all ((610 : Int32).toInt.toNat + 1) = j_inns_3 from h_17.symm]; have q7 := h_71; have q6 := h_73; rw [h_18] at q7 q6; refine Eq.mp (congr (congrArg (zAft _ _ _ _) q7) q6) ?_; exact Or.inr (Or.inr (Or.inl ⟨by omega, rfl⟩))⟩⟩)))⟩)
            · refine lv_tableIn (tgt := 75) hx hb dX12_after_26 (by first | (rw [c_75]; decide) | omega) (by first | (rw [c_75]; decide) | omega) (by rw [c_75]; rfl) (by decide) ?_
              refine lv_aload_n hx hb dX12_after_75 rfl (lv_at hl 0 rfl) ?_
              refine z_get C G clX12 0 rfl 34 (by decide) m_fl_RX12_308 rfl dX12_after_76 ?_
              exact z_back hQz_ (z_iret C hr hlocks G (Nat.le_of_ble_eq_true rfl) (Nat.le_of_ble_eq_true rfl) dX12_after_79 ⟨610, j_crossings_2, j_inns_3, j_steps_57, j_done_63, j_at_55, j_gone_56, 833, j_never_60, j_firstCame_59, j_longRun_61, j_moved_58, j_crowd_62, g_posts_64, g_shut_65, g_here_66, g_was_67, rfl, (Or.inr (Or.inr (Or.inl ⟨⟨by first | with_reducible assumption | assumption, by omega⟩, ⟨by first | with_reducible assumption | assumption, by omega⟩, ⟨g_posts_6, g_shut_7, g_here_8, ⟨zPt_o h_20, h_21, fun j hj => (h_22 j hj).trans rfl⟩, by rw [show pW f_all 610 = zWo f_all 610 j_inns_3 from congrArg (zWo f_all 610) h_17.symm]; rw [show f_all ((610 : Int32).toInt.toNat) = j_crossings_2 from hLx.2.1.symm, show f_all ((610 : Int32).toInt.toNat + 1) = j_inns_3 from h_17.symm]; have q7 := h_71; have q6 := h_73; rw [h_18] at q7 q6; refine Eq.mp (congr (congrArg (zAft _ _ _ _) q7) q6) ?_; exact Or.inr (Or.inr (Or.inr (Or.inl ⟨by omega, rfl⟩)))⟩⟩)))⟩)
            · refine lv_tableIn (tgt := 80) hx hb dX12_after_26 (by first | (rw [c_75]; decide) | omega) (by first | (rw [c_75]; decide) | omega) (by rw [c_75]; rfl) (by decide) ?_
              refine lv_aload_n hx hb dX12_after_80 rfl (lv_at hl 0 rfl) ?_
              refine z_Vi (bc := [[zO11 mo m_all m_has i_size i_next i_where i_token i_number i_word i_wrong i_farCrossing m_read 610 j_crossings_2 j_inns_3 m_posts m_shut m_here j_steps_57 j_done_63 j_at_55 j_gone_56 m_was m_came m_seenAt m_rowWorth m_farBy m_used i_everywhere i_again0 833 j_never_60 j_firstCame_59 j_longRun_61 j_moved_58 j_crowd_62 i_l0 i_fitMany i_fitLeast i_fitMost m_fitPost m_fitEnd m_keptPosts i_x0], [zAr T 0 m_all 3952 f_all], [zAr T 0 m_posts 7 g_posts_64]]) (br := [[zAr T 0 m_shut 7 g_shut_65], [zAr T 0 m_here 7 g_here_66], [zAr T 0 m_was 7 g_was_67]]) (As := []) (rest := []) C G (c_x_elsewhere l T mo m_all m_has i_size i_next i_where i_token i_number i_word i_wrong i_farCrossing m_read 610 j_crossings_2 j_inns_3 m_posts m_shut m_here j_steps_57 j_done_63 j_at_55 j_gone_56 m_was m_came m_seenAt m_rowWorth m_farBy m_used i_everywhere i_again0 833 j_never_60 j_firstCame_59 j_longRun_61 j_moved_58 j_crowd_62 i_l0 i_fitMany i_fitLeast i_fitMost m_fitPost m_fitEnd m_keptPosts i_x0 f_all g_posts_64 (by first | with_reducible assumption | with_reducible rfl | omega | assumption | rfl)) (kV_RX12_357 C.2.2.2.2 (Nat.le_of_ble_eq_true rfl) (Nat.le_of_ble_eq_true rfl)) [0, 1, 2] [0, 0, 0] rfl rfl (ci := 11) (qc := (RX12, TX12, 43)) rfl rfl (List.mem_flatten.mpr ⟨_, List.mem_of_getElem? (i := 0) rfl, List.mem_cons_self⟩) rfl rfl hl.1 dX12_after_81 (Nat.le_of_ble_eq_true rfl) (Nat.le_of_ble_eq_true rfl) (fun r_77 b1 H locs hw G => ?_)
              refine zAn2 hw ?_
              intro hbs9 h_76
              clear hw
              subst hbs9
              have G : zS T A s.heap s [[zAr T 0 m_shut 7 g_shut_65], [zAr T 0 m_here 7 g_here_66], [zAr T 0 m_was 7 g_was_67], [zO11 mo m_all m_has i_size i_next i_where i_token i_number i_word i_wrong i_farCrossing m_read 610 j_crossings_2 j_inns_3 m_posts m_shut m_here j_steps_57 j_done_63 j_at_55 j_gone_56 m_was m_came m_seenAt m_rowWorth m_farBy m_used i_everywhere i_again0 833 j_never_60 j_firstCame_59 j_longRun_61 j_moved_58 j_crowd_62 i_l0 i_fitMany i_fitLeast i_fitMost m_fitPost m_fitEnd m_keptPosts i_x0], [zAr T 0 m_all 3952 f_all], [zAr T 0 m_posts 7 g_posts_64]] _ _ := G
              have G := G.sub (bs' := [[zO11 mo m_all m_has i_size i_next i_where i_token i_number i_word i_wrong i_farCrossing m_read 610 j_crossings_2 j_inns_3 m_posts m_shut m_here j_steps_57 j_done_63 j_at_55 j_gone_56 m_was m_came m_seenAt m_rowWorth m_farBy m_used i_everywhere i_again0 833 j_never_60 j_firstCame_59 j_longRun_61 j_moved_58 j_crowd_62 i_l0 i_fitMany i_fitLeast i_fitMost m_fitPost m_fitEnd m_keptPosts i_x0], [zAr T 0 m_all 3952 f_all], [zAr T 0 m_posts 7 g_posts_64], [zAr T 0 m_shut 7 g_shut_65], [zAr T 0 m_here 7 g_here_66], [zAr T 0 m_was 7 g_was_67]]) [3, 4, 5, 0, 1, 2] rfl
              exact z_back hQz_ (z_iret C hr hlocks G (Nat.le_of_ble_eq_true rfl) (Nat.le_of_ble_eq_true rfl) dX12_after_84 ⟨610, j_crossings_2, j_inns_3, j_steps_57, j_done_63, j_at_55, j_gone_56, 833, j_never_60, j_firstCame_59, j_longRun_61, j_moved_58, j_crowd_62, g_posts_64, g_shut_65, g_here_66, g_was_67, rfl, (Or.inr (Or.inr (Or.inl ⟨⟨by first | with_reducible assumption | assumption, by omega⟩, ⟨by first | with_reducible assumption | assumption, by omega⟩, ⟨g_posts_6, g_shut_7, g_here_8, ⟨zPt_o h_20, h_21, fun j hj => (h_22 j hj).trans rfl⟩, by rw [show pW f_all 610 = zWo f_all 610 j_inns_3 from congrArg (zWo f_all 610) h_17.symm]; rw [show f_all ((610 : Int32).toInt.toNat) = j_crossings_2 from hLx.2.1.symm, show f_all ((610 : Int32).toInt.toNat + 1) = j_inns_3 from h_17.symm]; have q7 := h_71; have q6 := h_73; rw [h_18] at q7 q6; refine Eq.mp (congr (congrArg (zAft _ _ _ _) q7) q6) ?_; exact Or.inr (Or.inr (Or.inr (Or.inr (Or.inl ⟨by omega, h_76⟩))))⟩⟩)))⟩)
      · have h_31 : (k_.toInt < 0 ∨ (f_all 1).toInt ≤ k_.toInt) := h_31
        refine lv_if_ne (tgt := 19) hx hb dX12_after_13 (by decide) (fun q => absurd (by decide) q) (fun _ => ?_)
        refine lv_bipush (v := (-2)) hx hb dX12_after_16 (by decide) ?_
        have G := G.sub (bs' := [[zO11 mo m_all m_has i_size i_next i_where i_token i_number i_word i_wrong i_farCrossing m_read 610 j_crossings_2 j_inns_3 m_posts m_shut m_here j_steps_4 j_done_5 i_at i_gone m_was m_came m_seenAt m_rowWorth m_farBy m_used i_everywhere i_again0 j_d0_24 i_never i_firstCame i_longRun i_moved i_crowd i_l0 i_fitMany i_fitLeast i_fitMost m_fitPost m_fitEnd m_keptPosts i_x0], [zAr T 0 m_all 3952 f_all], [zAr T 0 m_posts 7 g_posts_6], [zAr T 0 m_shut 7 g_shut_7], [zAr T 0 m_here 7 g_here_8], [zAr T 0 m_was 7 f_was]]) [4, 5, 1, 2, 3, 0] rfl
        exact z_back hQz_ (z_iret C hr hlocks G (Nat.le_of_ble_eq_true rfl) (Nat.le_of_ble_eq_true rfl) dX12_after_18 ⟨610, j_crossings_2, j_inns_3, j_steps_4, j_done_5, i_at, i_gone, j_d0_24, i_never, i_firstCame, i_longRun, i_moved, i_crowd, g_posts_6, g_shut_7, g_here_8, f_was, rfl, (Or.inl ⟨Or.inr (by first | with_reducible assumption | assumption), rfl⟩)⟩)
    · obtain rfl : j_z0_1 = 661 := Int32.toInt_inj.mp (by show j_z0_1.toInt = 661; omega)
      have hcx : j_crossings_2.toInt = (f_all 661).toInt := by rw [hLx.2.1]; rfl
      have hQP : zP3 g_posts_6 (zWo f_all 661 j_inns_3) := zP3_m hLx hPx
      refine lv_aload_n hx hb dX12_after_8 rfl (lv_at hl 0 rfl) ?_
      refine lv_iload_n hx hb dX12_after_9 rfl (lv_at hl 2 rfl) ?_
      refine z_Vi (bc := [[zO11 mo m_all m_has i_size i_next i_where i_token i_number i_word i_wrong i_farCrossing m_read 661 j_crossings_2 j_inns_3 m_posts m_shut m_here j_steps_4 j_done_5 i_at i_gone m_was m_came m_seenAt m_rowWorth m_farBy m_used i_everywhere i_again0 i_d0 i_never i_firstCame i_longRun i_moved i_crowd i_l0 i_fitMany i_fitLeast i_fitMost m_fitPost m_fitEnd m_keptPosts i_x0], [zAr T 0 m_all 3952 f_all]]) (br := [[zAr T 0 m_was 7 f_was], [zAr T 0 m_posts 7 g_posts_6], [zAr T 0 m_shut 7 g_shut_7], [zAr T 0 m_here 7 g_here_8]]) (As := [.int k_]) (rest := []) C G (c_m_isDay l T mo m_all m_has i_size i_next i_where i_token i_number i_word i_wrong i_farCrossing m_read 661 j_crossings_2 j_inns_3 m_posts m_shut m_here j_steps_4 j_done_5 i_at i_gone m_was m_came m_seenAt m_rowWorth m_farBy m_used i_everywhere i_again0 i_d0 i_never i_firstCame i_longRun i_moved i_crowd i_l0 i_fitMany i_fitLeast i_fitMost m_fitPost m_fitEnd m_keptPosts i_x0 f_all k_ (by first | with_reducible assumption | with_reducible rfl | omega | assumption | rfl)) (kV_RX12_305 C.2.2.2.2 (Nat.le_of_ble_eq_true rfl) (Nat.le_of_ble_eq_true rfl)) [1, 2] [1, 0] rfl rfl (ci := 11) (qc := (RX12, TX12, 43)) rfl rfl (List.mem_flatten.mpr ⟨_, List.mem_of_getElem? (i := 0) rfl, List.mem_cons_self⟩) rfl rfl hl.1 dX12_after_10 (Nat.le_of_ble_eq_true rfl) (Nat.le_of_ble_eq_true rfl) (fun r_80 b1 H locs hw G => ?_)
      refine zEx1 hw ?_
      intro j_d0_78
      refine zCu2 ?_
      intro hbs9 hc_79
      clear hw
      subst hbs9
      have G : zS T A s.heap s [[zAr T 0 m_was 7 f_was], [zAr T 0 m_posts 7 g_posts_6], [zAr T 0 m_shut 7 g_shut_7], [zAr T 0 m_here 7 g_here_8], [zO11 mo m_all m_has i_size i_next i_where i_token i_number i_word i_wrong i_farCrossing m_read 661 j_crossings_2 j_inns_3 m_posts m_shut m_here j_steps_4 j_done_5 i_at i_gone m_was m_came m_seenAt m_rowWorth m_farBy m_used i_everywhere i_again0 j_d0_78 i_never i_firstCame i_longRun i_moved i_crowd i_l0 i_fitMany i_fitLeast i_fitMost m_fitPost m_fitEnd m_keptPosts i_x0], [zAr T 0 m_all 3952 f_all]] _ _ := G
      rcases hc_79 with ⟨rfl, h_81, h_82, h_83, h_84⟩ | ⟨rfl, h_85⟩
      · have h_81 : 0 ≤ k_.toInt := h_81
        have h_82 : k_.toInt < (f_all 1).toInt := h_82
        have h_83 : j_d0_78.toInt = 712 + 121 * k_.toInt := h_83
        have h_84 : zMD f_all j_d0_78 := h_84
        have hD := h_84
        have hDa := hD.1
        have hDb := hD.2
        refine lv_if_ne (tgt := 19) hx hb dX12_after_13 (by decide) (fun _ => ?_) (fun q => absurd q (by decide))
        rcases (show k_.toInt = 0 ∨ k_.toInt = 1 from by have hq9 := hB.2.1 1 (by decide); omega) with hkd | hkd
        · obtain rfl : j_d0_78 = 712 := Int32.toInt_inj.mp (by show j_d0_78.toInt = 712; omega)
          have hDv : zDyv f_all 712 := zVD_0 hVD 0 (by decide)
          refine lv_aload_n hx hb dX12_after_19 rfl (lv_at hl 0 rfl) ?_
          refine lv_bipush (v := 40) hx hb dX12_after_20 (by decide) ?_
          refine z_Vv (bc := [[zO11 mo m_all m_has i_size i_next i_where i_token i_number i_word i_wrong i_farCrossing m_read 661 j_crossings_2 j_inns_3 m_posts m_shut m_here j_steps_4 j_done_5 i_at i_gone m_was m_came m_seenAt m_rowWorth m_farBy m_used i_everywhere i_again0 712 i_never i_firstCame i_longRun i_moved i_crowd i_l0 i_fitMany i_fitLeast i_fitMost m_fitPost m_fitEnd m_keptPosts i_x0], [zAr T 0 m_all 3952 f_all], [zAr T 0 m_posts 7 g_posts_6], [zAr T 0 m_shut 7 g_shut_7], [zAr T 0 m_here 7 g_here_8], [zAr T 0 m_was 7 f_was]]) (br := []) (As := [.int 40]) (rest := []) C G (c_x_runs l T mo m_all m_has i_size i_next i_where i_token i_number i_word i_wrong i_farCrossing m_read 661 j_crossings_2 j_inns_3 m_posts m_shut m_here j_steps_4 j_done_5 i_at i_gone m_was m_came m_seenAt m_rowWorth m_farBy m_used i_everywhere i_again0 712 i_never i_firstCame i_longRun i_moved i_crowd i_l0 i_fitMany i_fitLeast i_fitMost m_fitPost m_fitEnd m_keptPosts i_x0 f_all g_posts_6 g_shut_7 g_here_8 f_was 40 (by first | with_reducible assumption | with_reducible rfl | omega | assumption | rfl) (by first | with_reducible assumption | with_reducible rfl | omega | assumption | rfl) hVx hD h_19 (zWk_b hLx h_22) (zS0_b h_21) hDv) (kV_RX12_348 C.2.2.2.2 (Nat.le_of_ble_eq_true rfl) (Nat.le_of_ble_eq_true rfl)) [4, 5, 1, 2, 3, 0] [0, 0, 0, 0, 0, 0] rfl rfl (ci := 11) (qc := (RX12, TX12, 43)) rfl rfl (List.mem_flatten.mpr ⟨_, List.mem_of_getElem? (i := 0) rfl, List.mem_cons_self⟩) rfl rfl hl.1 dX12_after_22 (Nat.le_of_ble_eq_true rfl) (Nat.le_of_ble_eq_true rfl) (fun b1 H locs hw G => ?_)
          refine zEx13 hw ?_
          intro j_at_86 j_gone_87 j_steps_88 j_moved_89 j_firstCame_90 j_never_91 j_longRun_92 j_crowd_93 j_done_94 g_posts_95 g_shut_96 g_here_97 g_was_98
          refine zCu7 ?_
          intro hbs9 h_99 h_100 h_101 h_102 h_103 h_104
          clear hw
          subst hbs9
          have G : zS T A s.heap s [[zO11 mo m_all m_has i_size i_next i_where i_token i_number i_word i_wrong i_farCrossing m_read 661 j_crossings_2 j_inns_3 m_posts m_shut m_here j_steps_88 j_done_94 j_at_86 j_gone_87 m_was m_came m_seenAt m_rowWorth m_farBy m_used i_everywhere i_again0 712 j_never_91 j_firstCame_90 j_longRun_92 j_moved_89 j_crowd_93 i_l0 i_fitMany i_fitLeast i_fitMost m_fitPost m_fitEnd m_keptPosts i_x0], [zAr T 0 m_all 3952 f_all], [zAr T 0 m_posts 7 g_posts_95], [zAr T 0 m_shut 7 g_shut_96], [zAr T 0 m_here 7 g_here_97], [zAr T 0 m_was 7 g_was_98]] _ _ := G
          refine lv_iload_n hx hb dX12_after_25 rfl (lv_at hl 3 rfl) ?_
          by_cases c_106o : w_.toInt < 0 ∨ 4 < w_.toInt
          · refine lv_tableOut (tgt := 85) hx hb dX12_after_26 c_106o (by decide) ?_
            refine lv_bipush (v := (-2)) hx hb dX12_after_85 (by decide) ?_
            exact z_back hQz_ (z_iret C hr hlocks G (Nat.le_of_ble_eq_true rfl) (Nat.le_of_ble_eq_true rfl) dX12_after_87 ⟨661, j_crossings_2, j_inns_3, j_steps_88, j_done_94, j_at_86, j_gone_87, 712, j_never_91, j_firstCame_90, j_longRun_92, j_moved_89, j_crowd_93, g_posts_95, g_shut_96, g_here_97, g_was_98, rfl, (Or.inr (Or.inr (Or.inr (Or.inl ⟨⟨by first | with_reducible assumption | assumption, by omega⟩, ⟨by first | with_reducible assumption | assumption, by omega⟩, ⟨g_posts_6, g_shut_7, g_here_8, ⟨zPt_o h_20, h_21, fun j hj => (h_22 j hj).trans rfl⟩, by rw [show pW f_all 661 = zWo f_all 661 j_inns_3 from congrArg (zWo f_all 661) h_17.symm]; rw [show f_all ((661 : Int32).toInt.toNat) = j_crossings_2 from hLx.2.1.symm, show f_all ((661 : Int32).toInt.toNat + 1) = j_inns_3 from h_17.symm]; have q7 := h_102; have q6 := h_104; rw [h_18] at q7 q6; refine Eq.mp (congr (congrArg (zAft _ _ _ _) q7) q6) ?_; exact Or.inr (Or.inr (Or.inr (Or.inr (Or.inr ⟨by omega, rfl⟩))))⟩⟩))))⟩)
          · have c_106r : w_.toInt = 0 ∨ w_.toInt = 1 ∨ w_.toInt = 2 ∨ w_.toInt = 3 ∨ w_.toInt = 4 := by omega
            rcases c_106r with c_106 | c_106 | c_106 | c_106 | c_106
            · refine lv_tableIn (tgt := 60) hx hb dX12_after_26 (by first | (rw [c_106]; decide) | omega) (by first | (rw [c_106]; decide) | omega) (by rw [c_106]; rfl) (by decide) ?_
              refine lv_aload_n hx hb dX12_after_60 rfl (lv_at hl 0 rfl) ?_
              refine z_get C G clX12 0 rfl 31 (by decide) m_fl_RX12_314 rfl dX12_after_61 ?_
              exact z_back hQz_ (z_iret C hr hlocks G (Nat.le_of_ble_eq_true rfl) (Nat.le_of_ble_eq_true rfl) dX12_after_64 ⟨661, j_crossings_2, j_inns_3, j_steps_88, j_done_94, j_at_86, j_gone_87, 712, j_never_91, j_firstCame_90, j_longRun_92, j_moved_89, j_crowd_93, g_posts_95, g_shut_96, g_here_97, g_was_98, rfl, (Or.inr (Or.inr (Or.inr (Or.inl ⟨⟨by first | with_reducible assumption | assumption, by omega⟩, ⟨by first | with_reducible assumption | assumption, by omega⟩, ⟨g_posts_6, g_shut_7, g_here_8, ⟨zPt_o h_20, h_21, fun j hj => (h_22 j hj).trans rfl⟩, by rw [show pW f_all 661 = zWo f_all 661 j_inns_3 from congrArg (zWo f_all 661) h_17.symm]; rw [show f_all ((661 : Int32).toInt.toNat) = j_crossings_2 from hLx.2.1.symm, show f_all ((661 : Int32).toInt.toNat + 1) = j_inns_3 from h_17.symm]; have q7 := h_102; have q6 := h_104; rw [h_18] at q7 q6; refine Eq.mp (congr (congrArg (zAft _ _ _ _) q7) q6) ?_; exact Or.inl ⟨by omega, rfl⟩⟩⟩))))⟩)
            · refine lv_tableIn (tgt := 65) hx hb dX12_after_26 (by first | (rw [c_106]; decide) | omega) (by first | (rw [c_106]; decide) | omega) (by rw [c_106]; rfl) (by decide) ?_
              refine lv_aload_n hx hb dX12_after_65 rfl (lv_at hl 0 rfl) ?_
              refine z_get C G clX12 0 rfl 32 (by decide) m_fl_RX12_323 rfl dX12_after_66 ?_
              exact z_back hQz_ (z_iret C hr hlocks G (Nat.le_of_ble_eq_true rfl) (Nat.le_of_ble_eq_true rfl) dX12_after_69 ⟨661, j_crossings_2, j_inns_3, j_steps_88, j_done_94, j_at_86, j_gone_87, 712, j_never_91, j_firstCame_90, j_longRun_92, j_moved_89, j_crowd_93, g_posts_95, g_shut_96, g_here_97, g_was_98, rfl, (Or.inr (Or.inr (Or.inr (Or.inl ⟨⟨by first | with_reducible assumption | assumption, by omega⟩, ⟨by first | with_reducible assumption | assumption, by omega⟩, ⟨g_posts_6, g_shut_7, g_here_8, ⟨zPt_o h_20, h_21, fun j hj => (h_22 j hj).trans rfl⟩, by rw [show pW f_all 661 = zWo f_all 661 j_inns_3 from congrArg (zWo f_all 661) h_17.symm]; rw [show f_all ((661 : Int32).toInt.toNat) = j_crossings_2 from hLx.2.1.symm, show f_all ((661 : Int32).toInt.toNat + 1) = j_inns_3 from h_17.symm]; have q7 := h_102; have q6 := h_104; rw [h_18] at q7 q6; refine Eq.mp (congr (congrArg (zAft _ _ _ _) q7) q6) ?_; exact Or.inr (Or.inl ⟨by omega, rfl⟩)⟩⟩))))⟩)
            · refine lv_tableIn (tgt := 70) hx hb dX12_after_26 (by first | (rw [c_106]; decide) | omega) (by first | (rw [c_106]; decide) | omega) (by rw [c_106]; rfl) (by decide) ?_
              refine lv_aload_n hx hb dX12_after_70 rfl (lv_at hl 0 rfl) ?_
              refine z_get C G clX12 0 rfl 33 (by decide) m_fl_RX12_311 rfl dX12_after_71 ?_
              exact z_back hQz_ (z_iret C hr hlocks G (Nat.le_of_ble_eq_true rfl) (Nat.le_of_ble_eq_true rfl) dX12_after_74 ⟨661, j_crossings_2, j_inns_3, j_steps_88, j_done_94, j_at_86, j_gone_87, 712, j_never_91, j_firstCame_90, j_longRun_92, j_moved_89, j_crowd_93, g_posts_95, g_shut_96, g_here_97, g_was_98, rfl, (Or.inr (Or.inr (Or.inr (Or.inl ⟨⟨by first | with_reducible assumption | assumption, by omega⟩, ⟨by first | with_reducible assumption | assumption, by omega⟩, ⟨g_posts_6, g_shut_7, g_here_8, ⟨zPt_o h_20, h_21, fun j hj => (h_22 j hj).trans rfl⟩, by rw [show pW f_all 661 = zWo f_all 661 j_inns_3 from congrArg (zWo f_all 661) h_17.symm]; rw [show f_all ((661 : Int32).toInt.toNat) = j_crossings_2 from hLx.2.1.symm, show f_all ((661 : Int32).toInt.toNat + 1) = j_inns_3 from h_17.symm]; have q7 := h_102; have q6 := h_104; rw [h_18] at q7 q6; refine Eq.mp (congr (congrArg (zAft _ _ _ _) q7) q6) ?_; exact Or.inr (Or.inr (Or.inl ⟨by omega, rfl⟩))⟩⟩))))⟩)
            · refine lv_tableIn (tgt := 75) hx hb dX12_after_26 (by first | (rw [c_106]; decide) | omega) (by first | (rw [c_106]; decide) | omega) (by rw [c_106]; rfl) (by decide) ?_
              refine lv_aload_n hx hb dX12_after_75 rfl (lv_at hl 0 rfl) ?_
              refine z_get C G clX12 0 rfl 34 (by decide) m_fl_RX12_308 rfl dX12_after_76 ?_
              exact z_back hQz_ (z_iret C hr hlocks G (Nat.le_of_ble_eq_true rfl) (Nat.le_of_ble_eq_true rfl) dX12_after_79 ⟨661, j_crossings_2, j_inns_3, j_steps_88, j_done_94, j_at_86, j_gone_87, 712, j_never_91, j_firstCame_90, j_longRun_92, j_moved_89, j_crowd_93, g_posts_95, g_shut_96, g_here_97, g_was_98, rfl, (Or.inr (Or.inr (Or.inr (Or.inl ⟨⟨by first | with_reducible assumption | assumption, by omega⟩, ⟨by first | with_reducible assumption | assumption, by omega⟩, ⟨g_posts_6, g_shut_7, g_here_8, ⟨zPt_o h_20, h_21, fun j hj => (h_22 j hj).trans rfl⟩, by rw [show pW f_all 661 = zWo f_all 661 j_inns_3 from congrArg (zWo f_all 661) h_17.symm]; rw [show f_all ((661 : Int32).toInt.toNat) = j_crossings_2 from hLx.2.1.symm, show f_all ((661 : Int32).toInt.toNat + 1) = j_inns_3 from h_17.symm]; have q7 := h_102; have q6 := h_104; rw [h_18] at q7 q6; refine Eq.mp (congr (congrArg (zAft _ _ _ _) q7) q6) ?_; exact Or.inr (Or.inr (Or.inr (Or.inl ⟨by omega, rfl⟩)))⟩⟩))))⟩)
            · refine lv_tableIn (tgt := 80) hx hb dX12_after_26 (by first | (rw [c_106]; decide) | omega) (by first | (rw [c_106]; decide) | omega) (by rw [c_106]; rfl) (by decide) ?_
              refine lv_aload_n hx hb dX12_after_80 rfl (lv_at hl 0 rfl) ?_
              refine z_Vi (bc := [[zO11 mo m_all m_has i_size i_next i_where i_token i_number i_word i_wrong i_farCrossing m_read 661 j_crossings_2 j_inns_3 m_posts m_shut m_here j_steps_88 j_done_94 j_at_86 j_gone_87 m_was m_came m_seenAt m_rowWorth m_farBy m_used i_everywhere i_again0 712 j_never_91 j_firstCame_90 j_longRun_92 j_moved_89 j_crowd_93 i_l0 i_fitMany i_fitLeast i_fitMost m_fitPost m_fitEnd m_keptPosts i_x0], [zAr T 0 m_all 3952 f_all], [zAr T 0 m_posts 7 g_posts_95]]) (br := [[zAr T 0 m_shut 7 g_shut_96], [zAr T 0 m_here 7 g_here_97], [zAr T 0 m_was 7 g_was_98]]) (As := []) (rest := []) C G (c_x_elsewhere l T mo m_all m_has i_size i_next i_where i_token i_number i_word i_wrong i_farCrossing m_read 661 j_crossings_2 j_inns_3 m_posts m_shut m_here j_steps_88 j_done_94 j_at_86 j_gone_87 m_was m_came m_seenAt m_rowWorth m_farBy m_used i_everywhere i_again0 712 j_never_91 j_firstCame_90 j_longRun_92 j_moved_89 j_crowd_93 i_l0 i_fitMany i_fitLeast i_fitMost m_fitPost m_fitEnd m_keptPosts i_x0 f_all g_posts_95 (by first | with_reducible assumption | with_reducible rfl | omega | assumption | rfl)) (kV_RX12_357 C.2.2.2.2 (Nat.le_of_ble_eq_true rfl) (Nat.le_of_ble_eq_true rfl)) [0, 1, 2] [0, 0, 0] rfl rfl (ci := 11) (qc := (RX12, TX12, 43)) rfl rfl (List.mem_flatten.mpr ⟨_, List.mem_of_getElem? (i := 0) rfl, List.mem_cons_self⟩) rfl rfl hl.1 dX12_after_81 (Nat.le_of_ble_eq_true rfl) (Nat.le_of_ble_eq_true rfl) (fun r_108 b1 H locs hw G => ?_)
              refine zAn2 hw ?_
              intro hbs9 h_107
              clear hw
              subst hbs9
              have G : zS T A s.heap s [[zAr T 0 m_shut 7 g_shut_96], [zAr T 0 m_here 7 g_here_97], [zAr T 0 m_was 7 g_was_98], [zO11 mo m_all m_has i_size i_next i_where i_token i_number i_word i_wrong i_farCrossing m_read 661 j_crossings_2 j_inns_3 m_posts m_shut m_here j_steps_88 j_done_94 j_at_86 j_gone_87 m_was m_came m_seenAt m_rowWorth m_farBy m_used i_everywhere i_again0 712 j_never_91 j_firstCame_90 j_longRun_92 j_moved_89 j_crowd_93 i_l0 i_fitMany i_fitLeast i_fitMost m_fitPost m_fitEnd m_keptPosts i_x0], [zAr T 0 m_all 3952 f_all], [zAr T 0 m_posts 7 g_posts_95]] _ _ := G
              have G := G.sub (bs' := [[zO11 mo m_all m_has i_size i_next i_where i_token i_number i_word i_wrong i_farCrossing m_read 661 j_crossings_2 j_inns_3 m_posts m_shut m_here j_steps_88 j_done_94 j_at_86 j_gone_87 m_was m_came m_seenAt m_rowWorth m_farBy m_used i_everywhere i_again0 712 j_never_91 j_firstCame_90 j_longRun_92 j_moved_89 j_crowd_93 i_l0 i_fitMany i_fitLeast i_fitMost m_fitPost m_fitEnd m_keptPosts i_x0], [zAr T 0 m_all 3952 f_all], [zAr T 0 m_posts 7 g_posts_95], [zAr T 0 m_shut 7 g_shut_96], [zAr T 0 m_here 7 g_here_97], [zAr T 0 m_was 7 g_was_98]]) [3, 4, 5, 0, 1, 2] rfl
              exact z_back hQz_ (z_iret C hr hlocks G (Nat.le_of_ble_eq_true rfl) (Nat.le_of_ble_eq_true rfl) dX12_after_84 ⟨661, j_crossings_2, j_inns_3, j_steps_88, j_done_94, j_at_86, j_gone_87, 712, j_never_91, j_firstCame_90, j_longRun_92, j_moved_89, j_crowd_93, g_posts_95, g_shut_96, g_here_97, g_was_98, rfl, (Or.inr (Or.inr (Or.inr (Or.inl ⟨⟨by first | with_reducible assumption | assumption, by omega⟩, ⟨by first | with_reducible assumption | assumption, by omega⟩, ⟨g_posts_6, g_shut_7, g_here_8, ⟨zPt_o h_20, h_21, fun j hj => (h_22 j hj).trans rfl⟩, by rw [show pW f_all 661 = zWo f_all 661 j_inns_3 from congrArg (zWo f_all 661) h_17.symm]; rw [show f_all ((661 : Int32).toInt.toNat) = j_crossings_2 from hLx.2.1.symm, show f_all ((661 : Int32).toInt.toNat + 1) = j_inns_3 from h_17.symm]; have q7 := h_102; have q6 := h_104; rw [h_18] at q7 q6; refine Eq.mp (congr (congrArg (zAft _ _ _ _) q7) q6) ?_; exact Or.inr (Or.inr (Or.inr (Or.inr (Or.inl ⟨by omega, h_107⟩))))⟩⟩))))⟩)
        · obtain rfl : j_d0_78 = 833 := Int32.toInt_inj.mp (by show j_d0_78.toInt = 833; omega)
          have hDv : zDyv f_all 833 := zVD_0 hVD 1 (by decide)
          refine lv_aload_n hx hb dX12_after_19 rfl (lv_at hl 0 rfl) ?_
          refine lv_bipush (v := 40) hx hb dX12_after_20 (by decide) ?_
          refine z_Vv (bc := [[zO11 mo m_all m_has i_size i_next i_where i_token i_number i_word i_wrong i_farCrossing m_read 661 j_crossings_2 j_inns_3 m_posts m_shut m_here j_steps_4 j_done_5 i_at i_gone m_was m_came m_seenAt m_rowWorth m_farBy m_used i_everywhere i_again0 833 i_never i_firstCame i_longRun i_moved i_crowd i_l0 i_fitMany i_fitLeast i_fitMost m_fitPost m_fitEnd m_keptPosts i_x0], [zAr T 0 m_all 3952 f_all], [zAr T 0 m_posts 7 g_posts_6], [zAr T 0 m_shut 7 g_shut_7], [zAr T 0 m_here 7 g_here_8], [zAr T 0 m_was 7 f_was]]) (br := []) (As := [.int 40]) (rest := []) C G (c_x_runs l T mo m_all m_has i_size i_next i_where i_token i_number i_word i_wrong i_farCrossing m_read 661 j_crossings_2 j_inns_3 m_posts m_shut m_here j_steps_4 j_done_5 i_at i_gone m_was m_came m_seenAt m_rowWorth m_farBy m_used i_everywhere i_again0 833 i_never i_firstCame i_longRun i_moved i_crowd i_l0 i_fitMany i_fitLeast i_fitMost m_fitPost m_fitEnd m_keptPosts i_x0 f_all g_posts_6 g_shut_7 g_here_8 f_was 40 (by first | with_reducible assumption | with_reducible rfl | omega | assumption | rfl) (by first | with_reducible assumption | with_reducible rfl | omega | assumption | rfl) hVx hD h_19 (zWk_b hLx h_22) (zS0_b h_21) hDv) (kV_RX12_348 C.2.2.2.2 (Nat.le_of_ble_eq_true rfl) (Nat.le_of_ble_eq_true rfl)) [4, 5, 1, 2, 3, 0] [0, 0, 0, 0, 0, 0] rfl rfl (ci := 11) (qc := (RX12, TX12, 43)) rfl rfl (List.mem_flatten.mpr ⟨_, List.mem_of_getElem? (i := 0) rfl, List.mem_cons_self⟩) rfl rfl hl.1 dX12_after_22 (Nat.le_of_ble_eq_true rfl) (Nat.le_of_ble_eq_true rfl) (fun b1 H locs hw G => ?_)
          refine zEx13 hw ?_
          intro j_at_109 j_gone_110 j_steps_111 j_moved_112 j_firstCame_113 j_never_114 j_longRun_115 j_crowd_116 j_done_117 g_posts_118 g_shut_119 g_here_120 g_was_121
          refine zCu7 ?_
          intro hbs9 h_122 h_123 h_124 h_125 h_126 h_127
          clear hw
          subst hbs9
          have G : zS T A s.heap s [[zO11 mo m_all m_has i_size i_next i_where i_token i_number i_word i_wrong i_farCrossing m_read 661 j_crossings_2 j_inns_3 m_posts m_shut m_here j_steps_111 j_done_117 j_at_109 j_gone_110 m_was m_came m_seenAt m_rowWorth m_farBy m_used i_everywhere i_again0 833 j_never_114 j_firstCame_113 j_longRun_115 j_moved_112 j_crowd_116 i_l0 i_fitMany i_fitLeast i_fitMost m_fitPost m_fitEnd m_keptPosts i_x0], [zAr T 0 m_all 3952 f_all], [zAr T 0 m_posts 7 g_posts_118], [zAr T 0 m_shut 7 g_shut_119], [zAr T 0 m_here 7 g_here_120], [zAr T 0 m_was 7 g_was_121]] _ _ := G
          refine lv_iload_n hx hb dX12_after_25 rfl (lv_at hl 3 rfl) ?_
          by_cases c_129o : w_.toInt < 0 ∨ 4 < w_.toInt
          · refine lv_tableOut (tgt := 85) hx hb dX12_after_26 c_129o (by decide) ?_
            refine lv_bipush (v := (-2)) hx hb dX12_after_85 (by decide) ?_
            exact z_back hQz_ (z_iret C hr hlocks G (Nat.le_of_ble_eq_true rfl) (Nat.le_of_ble_eq_true rfl) dX12_after_87 ⟨661, j_crossings_2, j_inns_3, j_steps_111, j_done_117, j_at_109, j_gone_110, 833, j_never_114, j_firstCame_113, j_longRun_115, j_moved_112, j_crowd_116, g_posts_118, g_shut_119, g_here_120, g_was_121, rfl, (Or.inr (Or.inr (Or.inr (Or.inr (⟨⟨by first | with_reducible assumption | assumption, by omega⟩, ⟨by first | with_reducible assumption | assumption, by omega⟩, ⟨g_posts_6, g_shut_7, g_here_8, ⟨zPt_o h_20, h_21, fun j hj => (h_22 j hj).trans rfl⟩, by rw [show pW f_all 661 = zWo f_all 661 j_inns_3 from congrArg (zWo f_all 661) h_17.symm]; rw [show f_all ((661 : Int32).toInt.toNat) = j_crossings_2 from hLx.2.1.symm, show f_all ((661 : Int32).toInt.toNat + 1) = j_inns_3 from h_17.symm]; have q7 := h_125; have q6 := h_127; rw [h_18] at q7 q6; refine Eq.mp (congr (congrArg (zAft _ _ _ _) q7) q6) ?_; exact Or.inr (Or.inr (Or.inr (Or.inr (Or.inr ⟨by omega, rfl⟩))))⟩⟩)))))⟩)
          · have c_129r : w_.toInt = 0 ∨ w_.toInt = 1 ∨ w_.toInt = 2 ∨ w_.toInt = 3 ∨ w_.toInt = 4 := by omega
            rcases c_129r with c_129 | c_129 | c_129 | c_129 | c_129
            · refine lv_tableIn (tgt := 60) hx hb dX12_after_26 (by first | (rw [c_129]; decide) | omega) (by first | (rw [c_129]; decide) | omega) (by rw [c_129]; rfl) (by decide) ?_
              refine lv_aload_n hx hb dX12_after_60 rfl (lv_at hl 0 rfl) ?_
              refine z_get C G clX12 0 rfl 31 (by decide) m_fl_RX12_314 rfl dX12_after_61 ?_
              exact z_back hQz_ (z_iret C hr hlocks G (Nat.le_of_ble_eq_true rfl) (Nat.le_of_ble_eq_true rfl) dX12_after_64 ⟨661, j_crossings_2, j_inns_3, j_steps_111, j_done_117, j_at_109, j_gone_110, 833, j_never_114, j_firstCame_113, j_longRun_115, j_moved_112, j_crowd_116, g_posts_118, g_shut_119, g_here_120, g_was_121, rfl, (Or.inr (Or.inr (Or.inr (Or.inr (⟨⟨by first | with_reducible assumption | assumption, by omega⟩, ⟨by first | with_reducible assumption | assumption, by omega⟩, ⟨g_posts_6, g_shut_7, g_here_8, ⟨zPt_o h_20, h_21, fun j hj => (h_22 j hj).trans rfl⟩, by rw [show pW f_all 661 = zWo f_all 661 j_inns_3 from congrArg (zWo f_all 661) h_17.symm]; rw [show f_all ((661 : Int32).toInt.toNat) = j_crossings_2 from hLx.2.1.symm, show f_all ((661 : Int32).toInt.toNat + 1) = j_inns_3 from h_17.symm]; have q7 := h_125; have q6 := h_127; rw [h_18] at q7 q6; refine Eq.mp (congr (congrArg (zAft _ _ _ _) q7) q6) ?_; exact Or.inl ⟨by omega, rfl⟩⟩⟩)))))⟩)
            · refine lv_tableIn (tgt := 65) hx hb dX12_after_26 (by first | (rw [c_129]; decide) | omega) (by first | (rw [c_129]; decide) | omega) (by rw [c_129]; rfl) (by decide) ?_
              refine lv_aload_n hx hb dX12_after_65 rfl (lv_at hl 0 rfl) ?_
              refine z_get C G clX12 0 rfl 32 (by decide) m_fl_RX12_323 rfl dX12_after_66 ?_
              exact z_back hQz_ (z_iret C hr hlocks G (Nat.le_of_ble_eq_true rfl) (Nat.le_of_ble_eq_true rfl) dX12_after_69 ⟨661, j_crossings_2, j_inns_3, j_steps_111, j_done_117, j_at_109, j_gone_110, 833, j_never_114, j_firstCame_113, j_longRun_115, j_moved_112, j_crowd_116, g_posts_118, g_shut_119, g_here_120, g_was_121, rfl, (Or.inr (Or.inr (Or.inr (Or.inr (⟨⟨by first | with_reducible assumption | assumption, by omega⟩, ⟨by first | with_reducible assumption | assumption, by omega⟩, ⟨g_posts_6, g_shut_7, g_here_8, ⟨zPt_o h_20, h_21, fun j hj => (h_22 j hj).trans rfl⟩, by rw [show pW f_all 661 = zWo f_all 661 j_inns_3 from congrArg (zWo f_all 661) h_17.symm]; rw [show f_all ((661 : Int32).toInt.toNat) = j_crossings_2 from hLx.2.1.symm, show f_all ((661 : Int32).toInt.toNat + 1) = j_inns_3 from h_17.symm]; have q7 := h_125; have q6 := h_127; rw [h_18] at q7 q6; refine Eq.mp (congr (congrArg (zAft _ _ _ _) q7) q6) ?_; exact Or.inr (Or.inl ⟨by omega, rfl⟩)⟩⟩)))))⟩)
            · refine lv_tableIn (tgt := 70) hx hb dX12_after_26 (by first | (rw [c_129]; decide) | omega) (by first | (rw [c_129]; decide) | omega) (by rw [c_129]; rfl) (by decide) ?_
              refine lv_aload_n hx hb dX12_after_70 rfl (lv_at hl 0 rfl) ?_
              refine z_get C G clX12 0 rfl 33 (by decide) m_fl_RX12_311 rfl dX12_after_71 ?_
              exact z_back hQz_ (z_iret C hr hlocks G (Nat.le_of_ble_eq_true rfl) (Nat.le_of_ble_eq_true rfl) dX12_after_74 ⟨661, j_crossings_2, j_inns_3, j_steps_111, j_done_117, j_at_109, j_gone_110, 833, j_never_114, j_firstCame_113, j_longRun_115, j_moved_112, j_crowd_116, g_posts_118, g_shut_119, g_here_120, g_was_121, rfl, (Or.inr (Or.inr (Or.inr (Or.inr (⟨⟨by first | with_reducible assumption | assumption, by omega⟩, ⟨by first | with_reducible assumption | assumption, by omega⟩, ⟨g_posts_6, g_shut_7, g_here_8, ⟨zPt_o h_20, h_21, fun j hj => (h_22 j hj).trans rfl⟩, by rw [show pW f_all 661 = zWo f_all 661 j_inns_3 from congrArg (zWo f_all 661) h_17.symm]; rw [show f_all ((661 : Int32).toInt.toNat) = j_crossings_2 from hLx.2.1.symm, show f_all ((661 : Int32).toInt.toNat + 1) = j_inns_3 from h_17.symm]; have q7 := h_125; have q6 := h_127; rw [h_18] at q7 q6; refine Eq.mp (congr (congrArg (zAft _ _ _ _) q7) q6) ?_; exact Or.inr (Or.inr (Or.inl ⟨by omega, rfl⟩))⟩⟩)))))⟩)
            · refine lv_tableIn (tgt := 75) hx hb dX12_after_26 (by first | (rw [c_129]; decide) | omega) (by first | (rw [c_129]; decide) | omega) (by rw [c_129]; rfl) (by decide) ?_
              refine lv_aload_n hx hb dX12_after_75 rfl (lv_at hl 0 rfl) ?_
              refine z_get C G clX12 0 rfl 34 (by decide) m_fl_RX12_308 rfl dX12_after_76 ?_
              exact z_back hQz_ (z_iret C hr hlocks G (Nat.le_of_ble_eq_true rfl) (Nat.le_of_ble_eq_true rfl) dX12_after_79 ⟨661, j_crossings_2, j_inns_3, j_steps_111, j_done_117, j_at_109, j_gone_110, 833, j_never_114, j_firstCame_113, j_longRun_115, j_moved_112, j_crowd_116, g_posts_118, g_shut_119, g_here_120, g_was_121, rfl, (Or.inr (Or.inr (Or.inr (Or.inr (⟨⟨by first | with_reducible assumption | assumption, by omega⟩, ⟨by first | with_reducible assumption | assumption, by omega⟩, ⟨g_posts_6, g_shut_7, g_here_8, ⟨zPt_o h_20, h_21, fun j hj => (h_22 j hj).trans rfl⟩, by rw [show pW f_all 661 = zWo f_all 661 j_inns_3 from congrArg (zWo f_all 661) h_17.symm]; rw [show f_all ((661 : Int32).toInt.toNat) = j_crossings_2 from hLx.2.1.symm, show f_all ((661 : Int32).toInt.toNat + 1) = j_inns_3 from h_17.symm]; have q7 := h_125; have q6 := h_127; rw [h_18] at q7 q6; refine Eq.mp (congr (congrArg (zAft _ _ _ _) q7) q6) ?_; exact Or.inr (Or.inr (Or.inr (Or.inl ⟨by omega, rfl⟩)))⟩⟩)))))⟩)
            · refine lv_tableIn (tgt := 80) hx hb dX12_after_26 (by first | (rw [c_129]; decide) | omega) (by first | (rw [c_129]; decide) | omega) (by rw [c_129]; rfl) (by decide) ?_
              refine lv_aload_n hx hb dX12_after_80 rfl (lv_at hl 0 rfl) ?_
              refine z_Vi (bc := [[zO11 mo m_all m_has i_size i_next i_where i_token i_number i_word i_wrong i_farCrossing m_read 661 j_crossings_2 j_inns_3 m_posts m_shut m_here j_steps_111 j_done_117 j_at_109 j_gone_110 m_was m_came m_seenAt m_rowWorth m_farBy m_used i_everywhere i_again0 833 j_never_114 j_firstCame_113 j_longRun_115 j_moved_112 j_crowd_116 i_l0 i_fitMany i_fitLeast i_fitMost m_fitPost m_fitEnd m_keptPosts i_x0], [zAr T 0 m_all 3952 f_all], [zAr T 0 m_posts 7 g_posts_118]]) (br := [[zAr T 0 m_shut 7 g_shut_119], [zAr T 0 m_here 7 g_here_120], [zAr T 0 m_was 7 g_was_121]]) (As := []) (rest := []) C G (c_x_elsewhere l T mo m_all m_has i_size i_next i_where i_token i_number i_word i_wrong i_farCrossing m_read 661 j_crossings_2 j_inns_3 m_posts m_shut m_here j_steps_111 j_done_117 j_at_109 j_gone_110 m_was m_came m_seenAt m_rowWorth m_farBy m_used i_everywhere i_again0 833 j_never_114 j_firstCame_113 j_longRun_115 j_moved_112 j_crowd_116 i_l0 i_fitMany i_fitLeast i_fitMost m_fitPost m_fitEnd m_keptPosts i_x0 f_all g_posts_118 (by first | with_reducible assumption | with_reducible rfl | omega | assumption | rfl)) (kV_RX12_357 C.2.2.2.2 (Nat.le_of_ble_eq_true rfl) (Nat.le_of_ble_eq_true rfl)) [0, 1, 2] [0, 0, 0] rfl rfl (ci := 11) (qc := (RX12, TX12, 43)) rfl rfl (List.mem_flatten.mpr ⟨_, List.mem_of_getElem? (i := 0) rfl, List.mem_cons_self⟩) rfl rfl hl.1 dX12_after_81 (Nat.le_of_ble_eq_true rfl) (Nat.le_of_ble_eq_true rfl) (fun r_131 b1 H locs hw G => ?_)
              refine zAn2 hw ?_
              intro hbs9 h_130
              clear hw
              subst hbs9
              have G : zS T A s.heap s [[zAr T 0 m_shut 7 g_shut_119], [zAr T 0 m_here 7 g_here_120], [zAr T 0 m_was 7 g_was_121], [zO11 mo m_all m_has i_size i_next i_where i_token i_number i_word i_wrong i_farCrossing m_read 661 j_crossings_2 j_inns_3 m_posts m_shut m_here j_steps_111 j_done_117 j_at_109 j_gone_110 m_was m_came m_seenAt m_rowWorth m_farBy m_used i_everywhere i_again0 833 j_never_114 j_firstCame_113 j_longRun_115 j_moved_112 j_crowd_116 i_l0 i_fitMany i_fitLeast i_fitMost m_fitPost m_fitEnd m_keptPosts i_x0], [zAr T 0 m_all 3952 f_all], [zAr T 0 m_posts 7 g_posts_118]] _ _ := G
              have G := G.sub (bs' := [[zO11 mo m_all m_has i_size i_next i_where i_token i_number i_word i_wrong i_farCrossing m_read 661 j_crossings_2 j_inns_3 m_posts m_shut m_here j_steps_111 j_done_117 j_at_109 j_gone_110 m_was m_came m_seenAt m_rowWorth m_farBy m_used i_everywhere i_again0 833 j_never_114 j_firstCame_113 j_longRun_115 j_moved_112 j_crowd_116 i_l0 i_fitMany i_fitLeast i_fitMost m_fitPost m_fitEnd m_keptPosts i_x0], [zAr T 0 m_all 3952 f_all], [zAr T 0 m_posts 7 g_posts_118], [zAr T 0 m_shut 7 g_shut_119], [zAr T 0 m_here 7 g_here_120], [zAr T 0 m_was 7 g_was_121]]) [3, 4, 5, 0, 1, 2] rfl
              exact z_back hQz_ (z_iret C hr hlocks G (Nat.le_of_ble_eq_true rfl) (Nat.le_of_ble_eq_true rfl) dX12_after_84 ⟨661, j_crossings_2, j_inns_3, j_steps_111, j_done_117, j_at_109, j_gone_110, 833, j_never_114, j_firstCame_113, j_longRun_115, j_moved_112, j_crowd_116, g_posts_118, g_shut_119, g_here_120, g_was_121, rfl, (Or.inr (Or.inr (Or.inr (Or.inr (⟨⟨by first | with_reducible assumption | assumption, by omega⟩, ⟨by first | with_reducible assumption | assumption, by omega⟩, ⟨g_posts_6, g_shut_7, g_here_8, ⟨zPt_o h_20, h_21, fun j hj => (h_22 j hj).trans rfl⟩, by rw [show pW f_all 661 = zWo f_all 661 j_inns_3 from congrArg (zWo f_all 661) h_17.symm]; rw [show f_all ((661 : Int32).toInt.toNat) = j_crossings_2 from hLx.2.1.symm, show f_all ((661 : Int32).toInt.toNat + 1) = j_inns_3 from h_17.symm]; have q7 := h_125; have q6 := h_127; rw [h_18] at q7 q6; refine Eq.mp (congr (congrArg (zAft _ _ _ _) q7) q6) ?_; exact Or.inr (Or.inr (Or.inr (Or.inr (Or.inl ⟨by omega, h_130⟩))))⟩⟩)))))⟩)
      · have h_85 : (k_.toInt < 0 ∨ (f_all 1).toInt ≤ k_.toInt) := h_85
        refine lv_if_ne (tgt := 19) hx hb dX12_after_13 (by decide) (fun q => absurd (by decide) q) (fun _ => ?_)
        refine lv_bipush (v := (-2)) hx hb dX12_after_16 (by decide) ?_
        have G := G.sub (bs' := [[zO11 mo m_all m_has i_size i_next i_where i_token i_number i_word i_wrong i_farCrossing m_read 661 j_crossings_2 j_inns_3 m_posts m_shut m_here j_steps_4 j_done_5 i_at i_gone m_was m_came m_seenAt m_rowWorth m_farBy m_used i_everywhere i_again0 j_d0_78 i_never i_firstCame i_longRun i_moved i_crowd i_l0 i_fitMany i_fitLeast i_fitMost m_fitPost m_fitEnd m_keptPosts i_x0], [zAr T 0 m_all 3952 f_all], [zAr T 0 m_posts 7 g_posts_6], [zAr T 0 m_shut 7 g_shut_7], [zAr T 0 m_here 7 g_here_8], [zAr T 0 m_was 7 f_was]]) [4, 5, 1, 2, 3, 0] rfl
        exact z_back hQz_ (z_iret C hr hlocks G (Nat.le_of_ble_eq_true rfl) (Nat.le_of_ble_eq_true rfl) dX12_after_18 ⟨661, j_crossings_2, j_inns_3, j_steps_4, j_done_5, i_at, i_gone, j_d0_78, i_never, i_firstCame, i_longRun, i_moved, i_crowd, g_posts_6, g_shut_7, g_here_8, f_was, rfl, (Or.inl ⟨Or.inr (by first | with_reducible assumption | assumption), rfl⟩)⟩)
  · have h_23 : (l_.toInt < 0 ∨ (f_all 0).toInt ≤ l_.toInt) := h_23
    refine lv_if_eq (tgt := 16) hx hb dX12_after_5 (by decide) (fun _ => ?_) (fun q => absurd (by decide) q)
    refine lv_bipush (v := (-2)) hx hb dX12_after_16 (by decide) ?_
    have G := G.sub (bs' := [[zO11 mo m_all m_has i_size i_next i_where i_token i_number i_word i_wrong i_farCrossing m_read j_z0_1 j_crossings_2 j_inns_3 m_posts m_shut m_here j_steps_4 j_done_5 i_at i_gone m_was m_came m_seenAt m_rowWorth m_farBy m_used i_everywhere i_again0 i_d0 i_never i_firstCame i_longRun i_moved i_crowd i_l0 i_fitMany i_fitLeast i_fitMost m_fitPost m_fitEnd m_keptPosts i_x0], [zAr T 0 m_all 3952 f_all], [zAr T 0 m_posts 7 g_posts_6], [zAr T 0 m_shut 7 g_shut_7], [zAr T 0 m_here 7 g_here_8], [zAr T 0 m_was 7 f_was]]) [1, 2, 3, 4, 5, 0] rfl
    exact z_back hQz_ (z_iret C hr hlocks G (Nat.le_of_ble_eq_true rfl) (Nat.le_of_ble_eq_true rfl) dX12_after_18 ⟨j_z0_1, j_crossings_2, j_inns_3, j_steps_4, j_done_5, i_at, i_gone, i_d0, i_never, i_firstCame, i_longRun, i_moved, i_crowd, g_posts_6, g_shut_7, g_here_8, f_was, rfl, (Or.inl ⟨Or.inl (by first | with_reducible assumption | assumption), rfl⟩)⟩)
section ZL2
variable {p : Program} {l : Launch} {e : Env} {R : Room} {s : State} {m : MethodId} {args : Array Value} {below : List Frame} {meth : Method} {c : Code} {Q : State → Prop}
variable {nL : Nat} {T : zTy} {A : Nat → Prop} {H0 : Heap}
theorem z_loopR {α : Type} (pc : Nat) (Wd : α → List va_W) (Lv : α → List (Nat × Value)) (Cl Sl : α → Nat) (Inv : α → Prop) (mu : α → Nat)
    (step : ∀ a : α, Inv a → (∀ b : α, Inv b → mu b < mu a → ∀ (H : Heap) (locs : List Loc) (ls : Array Slot), zS T A H0 s (Wd b) H locs → lv_has ls nL (Lv b) → W p l e R s m args below meth c H locs (Cl b) (Sl b) Q (F0 m pc ls [])) → ∀ (H : Heap) (locs : List Loc) (ls : Array Slot), zS T A H0 s (Wd a) H locs → lv_has ls nL (Lv a) → W p l e R s m args below meth c H locs (Cl a) (Sl a) Q (F0 m pc ls []))
    (a : α) (ha : Inv a) {H : Heap} {locs : List Loc} {ls : Array Slot} (G : zS T A H0 s (Wd a) H locs) (hl : lv_has ls nL (Lv a)) : W p l e R s m args below meth c H locs (Cl a) (Sl a) Q (F0 m pc ls []) := by
  have key : ∀ (n : Nat) (a : α), mu a < n → Inv a → ∀ (H : Heap) (locs : List Loc) (ls : Array Slot), zS T A H0 s (Wd a) H locs → lv_has ls nL (Lv a) → W p l e R s m args below meth c H locs (Cl a) (Sl a) Q (F0 m pc ls []) := by
    intro n
    induction n with
    | zero => intro a h; exact absurd h (Nat.not_lt_zero _)
    | succ n ih => intro a h ha; exact step a ha (fun b hb hlt => ih b (by omega) hb)
  exact key (mu a + 1) a (Nat.lt_succ_self _) ha H locs ls G hl
end ZL2
def zAI (f : Nat → Int32) : Prop := ∀ i, i < 4 → zBI (fun j => f (988 * i + j))
abbrev zHs (fm fh : Nat → Int32) : Prop := ∀ k, k < 3 → (fm k = 0 ↔ fh k = 0)
abbrev zIn6 (x : Int32) : Prop := 0 ≤ x.toInt ∧ x.toInt ≤ 600
theorem zBI_cg {f g : Nat → Int32} (e : ∀ j, j < 988 → g j = f j) (h : zBI f) : zBI g :=
  ⟨by rw [e 4 (by decide)]; exact h.1, fun q hq => by rw [e q (by omega)]; exact h.2.1 q hq, fun k hk => zLF_cg (fun j hj => e _ (by omega)) (h.2.2.1 k hk), fun k hk => zCF_cg (e _ (by omega)) (h.2.2.2.1 k hk), fun k hk => zCF_cg (e _ (by omega)) (h.2.2.2.2 k hk)⟩
theorem zAI_0 {f : Nat → Int32} (h : zAI f) : zBI f := zBI_cg (fun j _ => (congrArg f (by omega)).symm) (h 0 (by decide))
theorem zAI_low {f g : Nat → Int32} (h : zAI f) (h0 : zBI g) (ho : ∀ j, 988 ≤ j → g j = f j) : zAI g := by
  intro i hi
  by_cases e : i = 0
  · subst e
    exact zBI_cg (fun j _ => congrArg g (by omega)) h0
  · exact zBI_cg (fun j _ => ho _ (by omega)) (h i hi)
theorem zBI_fd {f g : Nat → Int32} (h : zBI f) (h4 : zIn6 (g 4)) (ho : ∀ j, (j < 10 ∨ 610 ≤ j) → j ≠ 4 → g j = f j) : zBI g :=
  ⟨h4, fun q hq => by rw [ho q (by omega) (by omega)]; exact h.2.1 q hq, fun k hk => zLF_cg (fun j hj => ho _ (by omega) (by omega)) (h.2.2.1 k hk), fun k hk => zCF_cg (ho _ (by omega) (by omega)) (h.2.2.2.1 k hk), fun k hk => zCF_cg (ho _ (by omega) (by omega)) (h.2.2.2.2 k hk)⟩
theorem zHs_upd {fm fh : Nat → Int32} (h : zHs fm fh) (k : Nat) : zHs (upd fm k 1) (upd fh k 1) := by
  intro j hj
  unfold upd
  split
  · exact Iff.rfl
  · exact h j hj
theorem zNA_mono {c : Prop} [Decidable c] {md : Int32} {n : Nat} {cr inn : Int32} {k1 : Nat → Int32} (h : zPw n) : n ≤ zNA c md n (zPl cr inn k1) := by
  unfold zNA zMk zNl
  split
  · split
    · split
      · exact Nat.le_refl _
      · have := zNl_room (pl := zPl cr inn k1) h (zPl_le cr inn k1) (by first | with_reducible assumption | assumption)
        omega
    · exact Nat.le_refl _
  · exact Nat.le_refl _
theorem zFnN_up {wy : Int32} {n : Nat} (hn : n ≤ 16384) (hw : (n : Int) < wy.toInt) : ∀ (f k : Nat), k ≤ 10 → 11 ≤ f + k → n ≤ zFnN wy f (16 * 2 ^ k)
  | 0, k, h, h2 => by omega
  | f + 1, k, h, h2 => by
    rw [zFnN]
    split
    · rename_i q
      have hk : k < 10 := by
        rcases Nat.lt_or_ge k 10 with z | z
        · exact z
        · have e : k = 10 := by omega
          subst e
          exact absurd q.2 (by decide)
      rw [show 2 * (16 * 2 ^ k) = 16 * 2 ^ (k + 1) by rw [Nat.pow_succ]; omega]
      exact zFnN_up hn hw f (k + 1) (by omega) (by omega)
    · rename_i q
      rcases Nat.lt_or_ge 16383 (16 * 2 ^ k) with z | z
      · omega
      · have : ¬ ((16 * 2 ^ k : Nat) : Int) < wy.toInt := fun y => q ⟨y, z⟩
        omega
theorem zNF_mono {c : Prop} [Decidable c] {n : Nat} {wy : Int32} (h : zFw n) : n ≤ zNF c n wy := by
  unfold zNF zFl
  split
  · split
    · exact Nat.le_refl _
    · have e : (16 * 2 ^ 0 : Nat) = 16 := by decide
      have := zFnN_up (wy := wy) (zFw_le h) (by omega) 11 0 (by decide) (by decide)
      rw [e] at this
      exact this
  · exact Nat.le_refl _
theorem zNF_fw {c : Prop} [Decidable c] {n : Nat} {wy : Int32} (h : zFw n) : zFw (zNF c n wy) := by
  unfold zNF
  split
  · exact zFl_pw h
  · exact h
/-! THE LAW'S STEPS, with all that is told kept equal -/
theorem zTR_by {ln : Int32} {fl : Int32} {pl : Int32} {ft : Nat → Int32} {fk : Nat → Int32} {cr_L0 : Int32} {inn_L0 : Int32} {k1_L0 : Nat → Int32} {k2_L0 : Nat → Int32} {k3_L0 : Nat → Int32} {k4_L0 : Nat → Int32} {cr_L1 : Int32} {inn_L1 : Int32} {k1_L1 : Nat → Int32} {k2_L1 : Nat → Int32} {k3_L1 : Nat → Int32} {k4_L1 : Nat → Int32} {dd_D0 : Int32} {p1_D0 : Nat → Int32} {p2_D0 : Nat → Int32} {p3_D0 : Nat → Int32} {dd_D1 : Int32} {p1_D1 : Nat → Int32} {p2_D1 : Nat → Int32} {p3_D1 : Nat → Int32} {gg_G0 : Int32} {q1_G0 : Nat → Int32} {q2_G0 : Nat → Int32} {gg_G1 : Int32} {q1_G1 : Nat → Int32} {q2_G1 : Nat → Int32} {G : Nat → Int32} (h : zTR ln fl pl ft fk cr_L0 inn_L0 k1_L0 k2_L0 k3_L0 k4_L0 cr_L1 inn_L1 k1_L1 k2_L1 k3_L1 k4_L1 dd_D0 p1_D0 p2_D0 p3_D0 dd_D1 p1_D1 p2_D1 p3_D1 gg_G0 q1_G0 q2_G0 gg_G1 q1_G1 q2_G1 G) : ∀ j, j < 600 → 0 ≤ (G (10 + j)).toInt := by
  intro j hj
  rcases (h.1.2.2.2.2 j hj).1 with ⟨e, a⟩ | ⟨-, a⟩
  · rw [e]; exact a
  · omega
theorem zTR_tk {ln : Int32} {fl : Int32} {pl : Int32} {ft : Nat → Int32} {fk : Nat → Int32} {cr_L0 : Int32} {inn_L0 : Int32} {k1_L0 : Nat → Int32} {k2_L0 : Nat → Int32} {k3_L0 : Nat → Int32} {k4_L0 : Nat → Int32} {cr_L1 : Int32} {inn_L1 : Int32} {k1_L1 : Nat → Int32} {k2_L1 : Nat → Int32} {k3_L1 : Nat → Int32} {k4_L1 : Nat → Int32} {dd_D0 : Int32} {p1_D0 : Nat → Int32} {p2_D0 : Nat → Int32} {p3_D0 : Nat → Int32} {dd_D1 : Int32} {p1_D1 : Nat → Int32} {p2_D1 : Nat → Int32} {p3_D1 : Nat → Int32} {gg_G0 : Int32} {q1_G0 : Nat → Int32} {q2_G0 : Nat → Int32} {gg_G1 : Int32} {q1_G1 : Nat → Int32} {q2_G1 : Nat → Int32} {G : Nat → Int32} (h : zTR ln fl pl ft fk cr_L0 inn_L0 k1_L0 k2_L0 k3_L0 k4_L0 cr_L1 inn_L1 k1_L1 k2_L1 k3_L1 k4_L1 dd_D0 p1_D0 p2_D0 p3_D0 dd_D1 p1_D1 p2_D1 p3_D1 gg_G0 q1_G0 q2_G0 gg_G1 q1_G1 q2_G1 G) {n : Nat} (hn : n ≤ 600) : tkT ft n = tkT (fun j => G (10 + j)) n := tkT_cg (fun j hj => (h.1.2.2.2.2 j (by omega)).1)
theorem zAI_at {f : Nat → Int32} (h : zAI f) : zIn6 (f 4) := (zAI_0 h).1
theorem zM_feed {ln : Int32} {fl : Int32} {pl : Int32} {ft : Nat → Int32} {fk : Nat → Int32} {cr_L0 : Int32} {inn_L0 : Int32} {k1_L0 : Nat → Int32} {k2_L0 : Nat → Int32} {k3_L0 : Nat → Int32} {k4_L0 : Nat → Int32} {cr_L1 : Int32} {inn_L1 : Int32} {k1_L1 : Nat → Int32} {k2_L1 : Nat → Int32} {k3_L1 : Nat → Int32} {k4_L1 : Nat → Int32} {dd_D0 : Int32} {p1_D0 : Nat → Int32} {p2_D0 : Nat → Int32} {p3_D0 : Nat → Int32} {dd_D1 : Int32} {p1_D1 : Nat → Int32} {p2_D1 : Nat → Int32} {p3_D1 : Nat → Int32} {gg_G0 : Int32} {q1_G0 : Nat → Int32} {q2_G0 : Nat → Int32} {gg_G1 : Int32} {q1_G1 : Nat → Int32} {q2_G1 : Nat → Int32} {p : Nat} {a b c d e u r r' : Int32} {g g' f : Nat → Int32} (hT : zTR ln fl pl ft fk cr_L0 inn_L0 k1_L0 k2_L0 k3_L0 k4_L0 cr_L1 inn_L1 k1_L1 k2_L1 k3_L1 k4_L1 dd_D0 p1_D0 p2_D0 p3_D0 dd_D1 p1_D1 p2_D1 p3_D1 gg_G0 q1_G0 q2_G0 gg_G1 q1_G1 q2_G1 f) (hA : zAI f) (hp : ln = nI p) (hp6 : p ≤ 600) (F1 : 580 < p ∧ r = -1 ∧ u = nI p ∧ g' = ft ∨ p ≤ 580 ∧ r = nI (p + 20) ∧ u = nI (p + 20) ∧ g' = zFeedC p a b c d e ft) (F2 : 580 < p ∧ r' = -1 ∧ g = f ∨ p ≤ 580 ∧ r' = nI (p + 20) ∧ zFeedR p a b c d e f g) : r = r' ∧ zAI g ∧ zTR u fl pl g' fk cr_L0 inn_L0 k1_L0 k2_L0 k3_L0 k4_L0 cr_L1 inn_L1 k1_L1 k2_L1 k3_L1 k4_L1 dd_D0 p1_D0 p2_D0 p3_D0 dd_D1 p1_D1 p2_D1 p3_D1 gg_G0 q1_G0 q2_G0 gg_G1 q1_G1 q2_G1 g ∧ ∀ j, 988 ≤ j → g j = f j := by
  rcases F1 with ⟨x1, x2, x3, x4⟩ | ⟨x1, x2, x3, x4⟩ <;> rcases F2 with ⟨y1, y2, y3⟩ | ⟨y1, y2, y3⟩
  · subst x4
    subst y3
    exact ⟨x2.trans y2.symm, hA, by rw [x3, ← hp]; exact hT, fun _ _ => rfl⟩
  · omega
  · omega
  · obtain ⟨z1, z2, z3⟩ := y3
    obtain ⟨⟨a1, a2, a3, a4, a5⟩, h1, h2, h3, h4, h5, h6⟩ := hT
    have ho : ∀ j, (j < 10 ∨ 610 ≤ j) → ¬ j = 4 → g j = f j := fun j q1 q2 => z3 j (by omega) q2
    have e4 : (nI (p + 20)).toInt = ((p + 20 : Nat) : Int) := nI_toInt (by omega)
    refine ⟨x2.trans y2.symm, zAI_low hA (zBI_fd (zAI_0 hA) (by rw [z1]; exact ⟨by omega, by omega⟩) ho) (fun j hj => ho j (by omega) (by omega)), ⟨⟨x3.trans z1.symm, a2.trans (ho _ (by omega) (by omega)).symm, a3.trans (ho _ (by omega) (by omega)).symm, fun j hj => (a4 j hj).trans (ho _ (by omega) (by omega)).symm, fun j hj => ?_⟩, zLnd_cg h1 (fun j hj => ho _ (by omega) (by omega)), zLnd_cg h2 (fun j hj => ho _ (by omega) (by omega)), zDyd_cg h3 (fun j hj => ho _ (by omega) (by omega)), zDyd_cg h4 (fun j hj => ho _ (by omega) (by omega)), zLgd_cg h5 (fun j hj => ho _ (by omega) (by omega)), zLgd_cg h6 (fun j hj => ho _ (by omega) (by omega))⟩, fun j hj => ho j (by omega) (by omega)⟩
    rw [x4]
    by_cases q : p ≤ j ∧ j < p + 20
    · have e1 := zFeed_be (p := p) (i := j - p) (a := a) (b := b) (c := c) (d := d) (e := e) (f := ft) (by omega)
      have e2 := z2 (j - p) (by omega)
      rw [show p + (j - p) = j by omega] at e1 e2
      rw [e1, e2]
      exact ⟨zBe_b _, by rw [Int8.toInt8_toInt32]⟩
    · rw [zFeedC_o (by omega), z3 _ (by omega) (by omega)]
      exact a5 j hj
theorem zM_end {ln : Int32} {fl : Int32} {pl : Int32} {ft : Nat → Int32} {fk : Nat → Int32} {cr_L0 : Int32} {inn_L0 : Int32} {k1_L0 : Nat → Int32} {k2_L0 : Nat → Int32} {k3_L0 : Nat → Int32} {k4_L0 : Nat → Int32} {cr_L1 : Int32} {inn_L1 : Int32} {k1_L1 : Nat → Int32} {k2_L1 : Nat → Int32} {k3_L1 : Nat → Int32} {k4_L1 : Nat → Int32} {dd_D0 : Int32} {p1_D0 : Nat → Int32} {p2_D0 : Nat → Int32} {p3_D0 : Nat → Int32} {dd_D1 : Int32} {p1_D1 : Nat → Int32} {p2_D1 : Nat → Int32} {p3_D1 : Nat → Int32} {gg_G0 : Int32} {q1_G0 : Nat → Int32} {q2_G0 : Nat → Int32} {gg_G1 : Int32} {q1_G1 : Nat → Int32} {q2_G1 : Nat → Int32} {u n r r' : Int32} {g f : Nat → Int32} (hT : zTR ln fl pl ft fk cr_L0 inn_L0 k1_L0 k2_L0 k3_L0 k4_L0 cr_L1 inn_L1 k1_L1 k2_L1 k3_L1 k4_L1 dd_D0 p1_D0 p2_D0 p3_D0 dd_D1 p1_D1 p2_D1 p3_D1 gg_G0 q1_G0 q2_G0 gg_G1 q1_G1 q2_G1 f) (hA : zAI f) (F1 : (n.toInt < 0 ∨ ln.toInt < n.toInt) ∧ r.toInt = -1 ∧ u = ln ∨ (0 ≤ n.toInt ∧ n.toInt ≤ ln.toInt) ∧ u = n ∧ r = n) (F2 : (n.toInt < 0 ∨ (f 4).toInt < n.toInt) ∧ r'.toInt = -1 ∧ g = f ∨ (0 ≤ n.toInt ∧ n.toInt ≤ (f 4).toInt) ∧ g = upd f 4 n ∧ r' = n) : r = r' ∧ zAI g ∧ zTR u fl pl ft fk cr_L0 inn_L0 k1_L0 k2_L0 k3_L0 k4_L0 cr_L1 inn_L1 k1_L1 k2_L1 k3_L1 k4_L1 dd_D0 p1_D0 p2_D0 p3_D0 dd_D1 p1_D1 p2_D1 p3_D1 gg_G0 q1_G0 q2_G0 gg_G1 q1_G1 q2_G1 g ∧ ∀ j, 988 ≤ j → g j = f j := by
  have b := zAI_at hA
  have e4 : ln = f 4 := hT.1.1
  have e4i : ln.toInt = (f 4).toInt := by rw [e4]
  rcases F1 with ⟨x1, x2, x3⟩ | ⟨x1, x2, x3⟩ <;> rcases F2 with ⟨y1, y2, y3⟩ | ⟨y1, y2, y3⟩
  · subst y3
    exact ⟨Int32.toInt_inj.mp (by omega), hA, by rw [x3]; exact hT, fun _ _ => rfl⟩
  · omega
  · omega
  · obtain ⟨⟨a1, a2, a3, a4, a5⟩, h1, h2, h3, h4, h5, h6⟩ := hT
    have ho : ∀ j, ¬ j = 4 → g j = f j := fun j q => by rw [y2]; exact z_ne q
    have k4 : g 4 = n := by rw [y2]; exact z_eq rfl
    exact ⟨x3.trans y3.symm, zAI_low hA (zBI_fd (zAI_0 hA) (by rw [k4]; exact ⟨by omega, by omega⟩) (fun j _ q => ho j q)) (fun j hj => ho j (by omega)), ⟨⟨x2.trans k4.symm, a2.trans (ho _ (by omega)).symm, a3.trans (ho _ (by omega)).symm, fun j hj => (a4 j hj).trans (ho _ (by omega)).symm, fun j hj => by rw [ho _ (by omega)]; exact a5 j hj⟩, zLnd_cg h1 (fun j hj => ho _ (by omega)), zLnd_cg h2 (fun j hj => ho _ (by omega)), zDyd_cg h3 (fun j hj => ho _ (by omega)), zDyd_cg h4 (fun j hj => ho _ (by omega)), zLgd_cg h5 (fun j hj => ho _ (by omega)), zLgd_cg h6 (fun j hj => ho _ (by omega))⟩, fun j hj => ho j (by omega)⟩
theorem zText_u {z : pS × (Nat → Int32)} {s : Nat} {at_ r r' : Int32} {f G G' : Nat → Int32} (h : zText z s at_ f G r) (h' : zText z s at_ f G' r') : r = r' ∧ ∀ j, j < 988 → G' j = G j := by
  rcases h with ⟨a1, a2, a3⟩ | ⟨a1, a0, a2, a3⟩ | ⟨a1, a0, a2, a3⟩ <;> rcases h' with ⟨b1, b2, b3⟩ | ⟨b1, b0, b2, b3⟩ | ⟨b1, b0, b2, b3⟩
  · exact ⟨a2.trans b2.symm, fun j hj => (b3 j hj).trans (a3 j hj).symm⟩
  · exact absurd b1 a1
  · exact absurd b1 a1
  · exact absurd a1 b1
  · exact ⟨a2.trans b2.symm, fun j hj => (b3 j hj).trans (a3 j hj).symm⟩
  · exact absurd b0 a0
  · exact absurd a1 b1
  · exact absurd a0 b0
  · exact ⟨a2.trans b2.symm, fun j hj => (b3 j hj).trans (a3 j hj).symm⟩
theorem zM_text {ln : Int32} {fl : Int32} {pl : Int32} {ft : Nat → Int32} {fk : Nat → Int32} {cr_L0 : Int32} {inn_L0 : Int32} {k1_L0 : Nat → Int32} {k2_L0 : Nat → Int32} {k3_L0 : Nat → Int32} {k4_L0 : Nat → Int32} {cr_L1 : Int32} {inn_L1 : Int32} {k1_L1 : Nat → Int32} {k2_L1 : Nat → Int32} {k3_L1 : Nat → Int32} {k4_L1 : Nat → Int32} {dd_D0 : Int32} {p1_D0 : Nat → Int32} {p2_D0 : Nat → Int32} {p3_D0 : Nat → Int32} {dd_D1 : Int32} {p1_D1 : Nat → Int32} {p2_D1 : Nat → Int32} {p3_D1 : Nat → Int32} {gg_G0 : Int32} {q1_G0 : Nat → Int32} {q2_G0 : Nat → Int32} {gg_G1 : Int32} {q1_G1 : Nat → Int32} {q2_G1 : Nat → Int32} {z : pS × (Nat → Int32)} {s : Nat} {at_ r r' : Int32} {g f : Nat → Int32} (hA : zAI f) (F1 : ∃ G2, zText z s at_ f G2 r ∧ zTR ln fl pl ft fk cr_L0 inn_L0 k1_L0 k2_L0 k3_L0 k4_L0 cr_L1 inn_L1 k1_L1 k2_L1 k3_L1 k4_L1 dd_D0 p1_D0 p2_D0 p3_D0 dd_D1 p1_D1 p2_D1 p3_D1 gg_G0 q1_G0 q2_G0 gg_G1 q1_G1 q2_G1 G2) (F2 : zText z s at_ f g r') (T0 : zBI g) (T2 : ∀ j, 988 ≤ j → g j = f j) : r = r' ∧ zAI g ∧ zTR ln fl pl ft fk cr_L0 inn_L0 k1_L0 k2_L0 k3_L0 k4_L0 cr_L1 inn_L1 k1_L1 k2_L1 k3_L1 k4_L1 dd_D0 p1_D0 p2_D0 p3_D0 dd_D1 p1_D1 p2_D1 p3_D1 gg_G0 q1_G0 q2_G0 gg_G1 q1_G1 q2_G1 g ∧ ∀ j, 988 ≤ j → g j = f j := by
  obtain ⟨G2, x1, x2⟩ := F1
  have q := zText_u x1 F2
  exact ⟨q.1, zAI_low hA T0 T2, zTR_cg x2 q.2, T2⟩
theorem zM_textN {ln : Int32} {fl : Int32} {pl : Int32} {ft : Nat → Int32} {fk : Nat → Int32} {cr_L0 : Int32} {inn_L0 : Int32} {k1_L0 : Nat → Int32} {k2_L0 : Nat → Int32} {k3_L0 : Nat → Int32} {k4_L0 : Nat → Int32} {cr_L1 : Int32} {inn_L1 : Int32} {k1_L1 : Nat → Int32} {k2_L1 : Nat → Int32} {k3_L1 : Nat → Int32} {k4_L1 : Nat → Int32} {dd_D0 : Int32} {p1_D0 : Nat → Int32} {p2_D0 : Nat → Int32} {p3_D0 : Nat → Int32} {dd_D1 : Int32} {p1_D1 : Nat → Int32} {p2_D1 : Nat → Int32} {p3_D1 : Nat → Int32} {gg_G0 : Int32} {q1_G0 : Nat → Int32} {q2_G0 : Nat → Int32} {gg_G1 : Int32} {q1_G1 : Nat → Int32} {q2_G1 : Nat → Int32} {g f : Nat → Int32} (hT : zTR ln fl pl ft fk cr_L0 inn_L0 k1_L0 k2_L0 k3_L0 k4_L0 cr_L1 inn_L1 k1_L1 k2_L1 k3_L1 k4_L1 dd_D0 p1_D0 p2_D0 p3_D0 dd_D1 p1_D1 p2_D1 p3_D1 gg_G0 q1_G0 q2_G0 gg_G1 q1_G1 q2_G1 f) (hA : zAI f) (hg : g = upd (upd (upd f 4 0) 5 0) 6 (-1)) : zAI g ∧ zTR 0 0 (-1) ft fk cr_L0 inn_L0 k1_L0 k2_L0 k3_L0 k4_L0 cr_L1 inn_L1 k1_L1 k2_L1 k3_L1 k4_L1 dd_D0 p1_D0 p2_D0 p3_D0 dd_D1 p1_D1 p2_D1 p3_D1 gg_G0 q1_G0 q2_G0 gg_G1 q1_G1 q2_G1 g ∧ ∀ j, 988 ≤ j → g j = f j := by
  have ho : ∀ j, 7 ≤ j → g j = f j := fun j q => by rw [hg, z_ne (by omega), z_ne (by omega), z_ne (by omega)]
  refine ⟨zAI_low hA (zBI_hd (zAI_0 hA) (by rw [hg]; rfl) (fun q hq => ?_) ho) (fun j hj => ho j (by omega)), by rw [hg]; exact zTR_hd hT, fun j hj => ho j (by omega)⟩
  rw [hg, z_ne (by omega), z_ne (by omega), z_ne (by omega)]
  exact (zAI_0 hA).2.1 q hq
theorem zM_keep {ln : Int32} {fl : Int32} {pl : Int32} {ft : Nat → Int32} {fk : Nat → Int32} {cr_L0 : Int32} {inn_L0 : Int32} {k1_L0 : Nat → Int32} {k2_L0 : Nat → Int32} {k3_L0 : Nat → Int32} {k4_L0 : Nat → Int32} {cr_L1 : Int32} {inn_L1 : Int32} {k1_L1 : Nat → Int32} {k2_L1 : Nat → Int32} {k3_L1 : Nat → Int32} {k4_L1 : Nat → Int32} {dd_D0 : Int32} {p1_D0 : Nat → Int32} {p2_D0 : Nat → Int32} {p3_D0 : Nat → Int32} {dd_D1 : Int32} {p1_D1 : Nat → Int32} {p2_D1 : Nat → Int32} {p3_D1 : Nat → Int32} {gg_G0 : Int32} {q1_G0 : Nat → Int32} {q2_G0 : Nat → Int32} {gg_G1 : Int32} {q1_G1 : Nat → Int32} {q2_G1 : Nat → Int32} {c : Prop} {b : Nat} {g f : Nat → Int32} (h : c → zTR ln fl pl ft fk cr_L0 inn_L0 k1_L0 k2_L0 k3_L0 k4_L0 cr_L1 inn_L1 k1_L1 k2_L1 k3_L1 k4_L1 dd_D0 p1_D0 p2_D0 p3_D0 dd_D1 p1_D1 p2_D1 p3_D1 gg_G0 q1_G0 q2_G0 gg_G1 q1_G1 q2_G1 (fun j => f (b + j))) (hb : 988 ≤ b) (T2 : ∀ j, 988 ≤ j → g j = f j) : c → zTR ln fl pl ft fk cr_L0 inn_L0 k1_L0 k2_L0 k3_L0 k4_L0 cr_L1 inn_L1 k1_L1 k2_L1 k3_L1 k4_L1 dd_D0 p1_D0 p2_D0 p3_D0 dd_D1 p1_D1 p2_D1 p3_D1 gg_G0 q1_G0 q2_G0 gg_G1 q1_G1 q2_G1 (fun j => g (b + j)) := fun z => zTR_cg (h z) (fun j _ => T2 _ (by omega))
theorem zAI_img {f g : Nat → Int32} {k : Nat} (hk : k < 3) (hA : zAI f) (c1 : ∀ j, j < 988 → g (988 * (k + 1) + j) = f j) (c2 : ∀ j, (j < 988 * (k + 1) ∨ 988 * (k + 1) + 988 ≤ j) → g j = f j) : zAI g := by
  intro i hi
  by_cases e : i = k + 1
  · subst e
    exact zBI_cg c1 (zAI_0 hA)
  · have : i < k + 1 ∨ k + 1 < i := by omega
    exact zBI_cg (fun j hj => c2 _ (by omega)) (hA i hi)
theorem zM_low {ln : Int32} {fl : Int32} {pl : Int32} {ft : Nat → Int32} {fk : Nat → Int32} {cr_L0 : Int32} {inn_L0 : Int32} {k1_L0 : Nat → Int32} {k2_L0 : Nat → Int32} {k3_L0 : Nat → Int32} {k4_L0 : Nat → Int32} {cr_L1 : Int32} {inn_L1 : Int32} {k1_L1 : Nat → Int32} {k2_L1 : Nat → Int32} {k3_L1 : Nat → Int32} {k4_L1 : Nat → Int32} {dd_D0 : Int32} {p1_D0 : Nat → Int32} {p2_D0 : Nat → Int32} {p3_D0 : Nat → Int32} {dd_D1 : Int32} {p1_D1 : Nat → Int32} {p2_D1 : Nat → Int32} {p3_D1 : Nat → Int32} {gg_G0 : Int32} {q1_G0 : Nat → Int32} {q2_G0 : Nat → Int32} {gg_G1 : Int32} {q1_G1 : Nat → Int32} {q2_G1 : Nat → Int32} {g f : Nat → Int32} (h : zTR ln fl pl ft fk cr_L0 inn_L0 k1_L0 k2_L0 k3_L0 k4_L0 cr_L1 inn_L1 k1_L1 k2_L1 k3_L1 k4_L1 dd_D0 p1_D0 p2_D0 p3_D0 dd_D1 p1_D1 p2_D1 p3_D1 gg_G0 q1_G0 q2_G0 gg_G1 q1_G1 q2_G1 f) (c : ∀ j, j < 988 → g j = f j) : zTR ln fl pl ft fk cr_L0 inn_L0 k1_L0 k2_L0 k3_L0 k4_L0 cr_L1 inn_L1 k1_L1 k2_L1 k3_L1 k4_L1 dd_D0 p1_D0 p2_D0 p3_D0 dd_D1 p1_D1 p2_D1 p3_D1 gg_G0 q1_G0 q2_G0 gg_G1 q1_G1 q2_G1 g := zTR_cg h c
theorem zM_imk {ln : Int32} {fl : Int32} {pl : Int32} {ft : Nat → Int32} {fk : Nat → Int32} {cr_L0 : Int32} {inn_L0 : Int32} {k1_L0 : Nat → Int32} {k2_L0 : Nat → Int32} {k3_L0 : Nat → Int32} {k4_L0 : Nat → Int32} {cr_L1 : Int32} {inn_L1 : Int32} {k1_L1 : Nat → Int32} {k2_L1 : Nat → Int32} {k3_L1 : Nat → Int32} {k4_L1 : Nat → Int32} {dd_D0 : Int32} {p1_D0 : Nat → Int32} {p2_D0 : Nat → Int32} {p3_D0 : Nat → Int32} {dd_D1 : Int32} {p1_D1 : Nat → Int32} {p2_D1 : Nat → Int32} {p3_D1 : Nat → Int32} {gg_G0 : Int32} {q1_G0 : Nat → Int32} {q2_G0 : Nat → Int32} {gg_G1 : Int32} {q1_G1 : Nat → Int32} {q2_G1 : Nat → Int32} {fm f g : Nat → Int32} {k b : Nat} (h : zTR ln fl pl ft fk cr_L0 inn_L0 k1_L0 k2_L0 k3_L0 k4_L0 cr_L1 inn_L1 k1_L1 k2_L1 k3_L1 k4_L1 dd_D0 p1_D0 p2_D0 p3_D0 dd_D1 p1_D1 p2_D1 p3_D1 gg_G0 q1_G0 q2_G0 gg_G1 q1_G1 q2_G1 f) (c1 : ∀ j, j < 988 → g (b + j) = f j) : ¬ upd fm k 1 k = 0 → zTR ln fl pl ft fk cr_L0 inn_L0 k1_L0 k2_L0 k3_L0 k4_L0 cr_L1 inn_L1 k1_L1 k2_L1 k3_L1 k4_L1 dd_D0 p1_D0 p2_D0 p3_D0 dd_D1 p1_D1 p2_D1 p3_D1 gg_G0 q1_G0 q2_G0 gg_G1 q1_G1 q2_G1 (fun j => g (b + j)) := fun _ => zTR_cg h c1
theorem zM_imo {ln : Int32} {fl : Int32} {pl : Int32} {ft : Nat → Int32} {fk : Nat → Int32} {cr_L0 : Int32} {inn_L0 : Int32} {k1_L0 : Nat → Int32} {k2_L0 : Nat → Int32} {k3_L0 : Nat → Int32} {k4_L0 : Nat → Int32} {cr_L1 : Int32} {inn_L1 : Int32} {k1_L1 : Nat → Int32} {k2_L1 : Nat → Int32} {k3_L1 : Nat → Int32} {k4_L1 : Nat → Int32} {dd_D0 : Int32} {p1_D0 : Nat → Int32} {p2_D0 : Nat → Int32} {p3_D0 : Nat → Int32} {dd_D1 : Int32} {p1_D1 : Nat → Int32} {p2_D1 : Nat → Int32} {p3_D1 : Nat → Int32} {gg_G0 : Int32} {q1_G0 : Nat → Int32} {q2_G0 : Nat → Int32} {gg_G1 : Int32} {q1_G1 : Nat → Int32} {q2_G1 : Nat → Int32} {fm f g : Nat → Int32} {i k b : Nat} (hik : ¬ i = k) (h : ¬ fm i = 0 → zTR ln fl pl ft fk cr_L0 inn_L0 k1_L0 k2_L0 k3_L0 k4_L0 cr_L1 inn_L1 k1_L1 k2_L1 k3_L1 k4_L1 dd_D0 p1_D0 p2_D0 p3_D0 dd_D1 p1_D1 p2_D1 p3_D1 gg_G0 q1_G0 q2_G0 gg_G1 q1_G1 q2_G1 (fun j => f (b + j))) (c2 : ∀ j, j < 988 → g (b + j) = f (b + j)) : ¬ upd fm k 1 i = 0 → zTR ln fl pl ft fk cr_L0 inn_L0 k1_L0 k2_L0 k3_L0 k4_L0 cr_L1 inn_L1 k1_L1 k2_L1 k3_L1 k4_L1 dd_D0 p1_D0 p2_D0 p3_D0 dd_D1 p1_D1 p2_D1 p3_D1 gg_G0 q1_G0 q2_G0 gg_G1 q1_G1 q2_G1 (fun j => g (b + j)) := fun z => zTR_cg (h (by rw [z_ne hik] at z; exact z)) c2
theorem zM_again {ln : Int32} {fl : Int32} {pl : Int32} {ft : Nat → Int32} {fk : Nat → Int32} {cr_L0 : Int32} {inn_L0 : Int32} {k1_L0 : Nat → Int32} {k2_L0 : Nat → Int32} {k3_L0 : Nat → Int32} {k4_L0 : Nat → Int32} {cr_L1 : Int32} {inn_L1 : Int32} {k1_L1 : Nat → Int32} {k2_L1 : Nat → Int32} {k3_L1 : Nat → Int32} {k4_L1 : Nat → Int32} {dd_D0 : Int32} {p1_D0 : Nat → Int32} {p2_D0 : Nat → Int32} {p3_D0 : Nat → Int32} {dd_D1 : Int32} {p1_D1 : Nat → Int32} {p2_D1 : Nat → Int32} {p3_D1 : Nat → Int32} {gg_G0 : Int32} {q1_G0 : Nat → Int32} {q2_G0 : Nat → Int32} {gg_G1 : Int32} {q1_G1 : Nat → Int32} {q2_G1 : Nat → Int32} {K b : Nat} {x r r' : Int32} {fm fh f g : Nat → Int32} (hA : zAI f) (hH : fm K = 0 ↔ fh K = 0) (hx : x.toInt = (K : Int)) (hK : K < 3) (hb : b = 988 * (K + 1)) (F1 : fm K = 0 ∧ r = 0 ∧ zTR ln fl pl ft fk cr_L0 inn_L0 k1_L0 k2_L0 k3_L0 k4_L0 cr_L1 inn_L1 k1_L1 k2_L1 k3_L1 k4_L1 dd_D0 p1_D0 p2_D0 p3_D0 dd_D1 p1_D1 p2_D1 p3_D1 gg_G0 q1_G0 q2_G0 gg_G1 q1_G1 q2_G1 f ∨ ¬ fm K = 0 ∧ r = 1 ∧ zTR ln fl pl ft fk cr_L0 inn_L0 k1_L0 k2_L0 k3_L0 k4_L0 cr_L1 inn_L1 k1_L1 k2_L1 k3_L1 k4_L1 dd_D0 p1_D0 p2_D0 p3_D0 dd_D1 p1_D1 p2_D1 p3_D1 gg_G0 q1_G0 q2_G0 gg_G1 q1_G1 q2_G1 (fun j => f (b + j))) (F2 : r' = 0 ∧ (x.toInt < 0 ∨ 3 ≤ x.toInt ∨ fh x.toNatClampNeg = 0) ∧ g = f ∨ r' = 1 ∧ (0 ≤ x.toInt ∧ x.toInt < 3) ∧ ¬ fh x.toNatClampNeg = 0 ∧ (∀ j, j < 988 → g j = f (988 * (x.toNatClampNeg + 1) + j)) ∧ ∀ j, 988 ≤ j → g j = f j) : r = r' ∧ zAI g ∧ zTR ln fl pl ft fk cr_L0 inn_L0 k1_L0 k2_L0 k3_L0 k4_L0 cr_L1 inn_L1 k1_L1 k2_L1 k3_L1 k4_L1 dd_D0 p1_D0 p2_D0 p3_D0 dd_D1 p1_D1 p2_D1 p3_D1 gg_G0 q1_G0 q2_G0 gg_G1 q1_G1 q2_G1 g ∧ ∀ j, 988 ≤ j → g j = f j := by
  subst hb
  have e : x.toNatClampNeg = K := by have := z_clI (x := x) (by omega); omega
  rw [e] at F2
  rcases F1 with ⟨a1, a2, a3⟩ | ⟨a1, a2, a3⟩ <;> rcases F2 with ⟨b1, b2, b3⟩ | ⟨b1, b2, b3, b4, b5⟩
  · exact ⟨a2.trans b1.symm, by rw [b3]; exact hA, by rw [b3]; exact a3, fun j _ => by rw [b3]⟩
  · exact absurd (hH.mp a1) b3
  · rcases b2 with q | q | q
    · omega
    · omega
    · exact absurd (hH.mpr q) a1
  · exact ⟨a2.trans b1.symm, zAI_low hA (zBI_cg b4 (hA (K + 1) (by omega))) b5, zTR_cg a3 b4, b5⟩
theorem zM_imr {K : Nat} {x r' : Int32} {fh gh f g : Nat → Int32} (hx : x.toInt = (K : Int)) (hK : K < 3) (F2 : r' = 0 ∧ (x.toInt < 0 ∨ 3 ≤ x.toInt) ∧ g = f ∧ gh = fh ∨ r' = 1 ∧ (0 ≤ x.toInt ∧ x.toInt < 3) ∧ (∀ j, j < 988 → g (988 * (x.toNatClampNeg + 1) + j) = f j) ∧ (∀ j, (j < 988 * (x.toNatClampNeg + 1) ∨ 988 * (x.toNatClampNeg + 1) + 988 ≤ j) → g j = f j) ∧ gh = upd fh x.toNatClampNeg 1) : r' = 1 ∧ (∀ j, j < 988 → g (988 * (K + 1) + j) = f j) ∧ (∀ j, (j < 988 * (K + 1) ∨ 988 * (K + 1) + 988 ≤ j) → g j = f j) ∧ gh = upd fh K 1 := by
  have e : x.toNatClampNeg = K := by have := z_clI (x := x) (by omega); omega
  rw [e] at F2
  rcases F2 with ⟨a, b, -⟩ | ⟨a, -, b, c, d⟩
  · omega
  · exact ⟨a, b, c, d⟩
theorem zM_imN {x r' : Int32} {fh gh f g : Nat → Int32} (hx : x.toInt < 0 ∨ 2 < x.toInt) (F2 : r' = 0 ∧ (x.toInt < 0 ∨ 3 ≤ x.toInt) ∧ g = f ∧ gh = fh ∨ r' = 1 ∧ (0 ≤ x.toInt ∧ x.toInt < 3) ∧ (∀ j, j < 988 → g (988 * (x.toNatClampNeg + 1) + j) = f j) ∧ (∀ j, (j < 988 * (x.toNatClampNeg + 1) ∨ 988 * (x.toNatClampNeg + 1) + 988 ≤ j) → g j = f j) ∧ gh = upd fh x.toNatClampNeg 1) : (0 : Int32) = r' ∧ g = f ∧ gh = fh := by
  rcases F2 with ⟨a, -, b, c⟩ | ⟨-, b, -⟩
  · exact ⟨a.symm, b, c⟩
  · omega
theorem zM_agN {x r' : Int32} {fh f g : Nat → Int32} (hx : x.toInt < 0 ∨ 2 < x.toInt) (F2 : r' = 0 ∧ (x.toInt < 0 ∨ 3 ≤ x.toInt ∨ fh x.toNatClampNeg = 0) ∧ g = f ∨ r' = 1 ∧ (0 ≤ x.toInt ∧ x.toInt < 3) ∧ ¬ fh x.toNatClampNeg = 0 ∧ (∀ j, j < 988 → g j = f (988 * (x.toNatClampNeg + 1) + j)) ∧ ∀ j, 988 ≤ j → g j = f j) : (0 : Int32) = r' ∧ g = f := by
  rcases F2 with ⟨a, -, b⟩ | ⟨-, b, -⟩
  · exact ⟨a.symm, b⟩
  · omega
set_option maxHeartbeats 4000000 in
set_option maxRecDepth 100000 in
/-- c_f_textN -/
theorem c_f_textN (l : Launch) (T : zTy) (xo : Nat) (t : Nat) (im : Nat) (mk : Nat) (rd : Nat) (po : Nat) (co : Nat) (tr : Nat) (wa : Nat) (wb_ : Nat) (fi : Nat) (cd : Nat) (l0 : Nat) (l1 : Nat) (d0 : Nat) (d1 : Nat) (g0 : Nat) (g1 : Nat) (ln : Int32) (fl : Int32) (pl : Int32) (ft : Nat → Int32) (fk : Nat → Int32) (wt : va_W) (i1 : Int32) (at_ : Int32) (ht : bTold T t l0 l1 d0 d1 g0 g1 ln fl pl ft fk wt) (hK : zKT fk) (hso : i1.toInt < 0 ∨ 2 < i1.toInt) : zMi l T yX11_text cX11_text 5 (some .int) 9 0 0 [.ref xo, .int i1, .int at_] [[zO10 xo t im mk rd po co tr wa wb_ fi cd], wt] (fun (r : Int32) bs => ∃ (wt_2 : va_W), bs = [[zO10 xo t im mk rd po co tr wa wb_ fi cd], wt_2] ∧ bTold T t l0 l1 d0 d1 g0 g1 0 0 (-1) ft fk wt_2 ∧ r = -2) := by
  refine zMi_of (own := RX11) (by decide) rfl (Nat.le_of_ble_eq_true rfl) ?_
  intro p e s m args below meth c A ls C hr hlocks hnm hAe G hl
  refine zHide (fun Qz_ hQz_ => ?_)
  have hx := C.1
  have hb := C.2.1
  have hl : lv_has ls 5 [(0, .ref xo), (1, .int i1), (2, .int at_)] := hl
  refine lv_aload_n hx hb dX11_text_0 rfl (lv_at hl 0 rfl) ?_
  refine z_get C G clX11 0 rfl 0 (by decide) m_fl_RX11_10 rfl dX11_text_1 ?_
  refine lv_iload_n hx hb dX11_text_4 rfl (lv_at hl 1 rfl) ?_
  refine lv_iload_n hx hb dX11_text_5 rfl (lv_at hl 2 rfl) ?_
  refine z_Vi (bc := [wt]) (br := [[zO10 xo t im mk rd po co tr wa wb_ fi cd]]) (As := [.int i1, .int at_]) (rest := []) C G (c_placeFor l T t l0 l1 d0 d1 g0 g1 ln fl pl ft fk wt i1 at_ ht (by first | with_reducible assumption | with_reducible rfl | omega | assumption | rfl)) (kV_RX11_81 C.2.2.2.2 (Nat.le_of_ble_eq_true rfl) (Nat.le_of_ble_eq_true rfl)) [1] [1] rfl rfl (ci := 8) (qc := (RX9, TX9, 8)) rfl rfl (List.mem_flatten.mpr ⟨_, List.mem_of_getElem? (i := 0) rfl, (bTold_mem ht).choose_spec⟩) rfl rfl hl.1 dX11_text_6 (Nat.le_of_ble_eq_true rfl) (Nat.le_of_ble_eq_true rfl) (fun r_2 b1 H locs hw G => ?_)
  refine zAn2 hw ?_
  intro hbs9 h_1
  clear hw
  subst hbs9
  have G : zS T A s.heap s [[zO10 xo t im mk rd po co tr wa wb_ fi cd], wt] _ _ := G
  have hr9 : r_2.toInt = -2 := by have := h_1; omega
  refine lv_istore_n (lv' := [(3, .int r_2), (0, .ref xo), (1, .int i1), (2, .int at_)]) hx hb dX11_text_9 rfl hl (by decide) (zLvf_h rfl) (fun ls hl => ?_)
  refine lv_aload_n hx hb dX11_text_10 rfl (lv_at hl 1 rfl) ?_
  refine z_get C G clX11 0 rfl 0 (by decide) m_fl_RX11_10 rfl dX11_text_11 ?_
  refine zEx8 ht ?_
  intro a1_3 a2_4 a3_5 a4_6 a5_7 q1_8 q2_9 q3_10
  refine zCu7 ?_
  intro hbs9 h_11 h_12 h_13 h_14 h_15 h_16
  clear ht
  subst hbs9
  have G : zS T A s.heap s [[zO10 xo t im mk rd po co tr wa wb_ fi cd], [zO8 t a1_3 ln fl pl a2_4 a3_5 a4_6 a5_7], [zAr T 1 a1_3 600 ft], [zAr T 0 a2_4 3 fk], [zArq T 3 a3_5 2 q1_8], [zArq T 4 a4_6 2 q2_9], [zArq T 5 a5_7 2 q3_10]] _ _ := G.re rfl
  refine z_get C G clX9 1 rfl 1 (by decide) m_fl_RX11_73 rfl dX11_text_14 ?_
  refine lv_istore (lv' := [(4, .int ln), (3, .int r_2), (0, .ref xo), (1, .int i1), (2, .int at_)]) hx hb dX11_text_17 hl (by decide) (zLvf_h rfl) (fun ls hl => ?_)
  refine lv_aload_n hx hb dX11_text_19 rfl (lv_at hl 2 rfl) ?_
  refine z_get C G clX11 0 rfl 0 (by decide) m_fl_RX11_10 rfl dX11_text_20 ?_
  refine lv_iconst (v := 0) hx hb dX11_text_23 (by decide) ?_
  refine z_put C G clX9 1 rfl 1 (by decide) m_fl_RX11_73 rfl rfl rfl (Nat.le_of_ble_eq_true rfl) dX11_text_24 (fun H locs G => ?_)
  have G : zS T A s.heap s [[zO10 xo t im mk rd po co tr wa wb_ fi cd], [zO8 t a1_3 0 fl pl a2_4 a3_5 a4_6 a5_7], [zAr T 1 a1_3 600 ft], [zAr T 0 a2_4 3 fk], [zArq T 3 a3_5 2 q1_8], [zArq T 4 a4_6 2 q2_9], [zArq T 5 a5_7 2 q3_10]] _ _ := G
  refine lv_aload_n hx hb dX11_text_27 rfl (lv_at hl 2 rfl) ?_
  refine z_get C G clX11 0 rfl 0 (by decide) m_fl_RX11_10 rfl dX11_text_28 ?_
  refine lv_iconst (v := 0) hx hb dX11_text_31 (by decide) ?_
  refine z_put C G clX9 1 rfl 2 (by decide) m_fl_RX11_85 rfl rfl rfl (Nat.le_of_ble_eq_true rfl) dX11_text_32 (fun H locs G => ?_)
  have G : zS T A s.heap s [[zO10 xo t im mk rd po co tr wa wb_ fi cd], [zO8 t a1_3 0 0 pl a2_4 a3_5 a4_6 a5_7], [zAr T 1 a1_3 600 ft], [zAr T 0 a2_4 3 fk], [zArq T 3 a3_5 2 q1_8], [zArq T 4 a4_6 2 q2_9], [zArq T 5 a5_7 2 q3_10]] _ _ := G
  refine lv_aload_n hx hb dX11_text_35 rfl (lv_at hl 2 rfl) ?_
  refine z_get C G clX11 0 rfl 0 (by decide) m_fl_RX11_10 rfl dX11_text_36 ?_
  refine lv_iconst (v := (-1)) hx hb dX11_text_39 (by decide) ?_
  refine z_put C G clX9 1 rfl 3 (by decide) m_fl_RX11_88 rfl rfl rfl (Nat.le_of_ble_eq_true rfl) dX11_text_40 (fun H locs G => ?_)
  have G : zS T A s.heap s [[zO10 xo t im mk rd po co tr wa wb_ fi cd], [zO8 t a1_3 0 0 (-1) a2_4 a3_5 a4_6 a5_7], [zAr T 1 a1_3 600 ft], [zAr T 0 a2_4 3 fk], [zArq T 3 a3_5 2 q1_8], [zArq T 4 a4_6 2 q2_9], [zArq T 5 a5_7 2 q3_10]] _ _ := G
  refine lv_iload_n hx hb dX11_text_43 rfl (lv_at hl 1 rfl) ?_
  refine lv_bipush (v := (-2)) hx hb dX11_text_44 (by decide) ?_
  refine lv_icmp_ne (tgt := 52) hx hb dX11_text_46 (by decide) (fun q => absurd ((fa_eq r_2 ((-2) : Int32)).mpr (by show r_2.toInt = (-2 : Int); omega)) q) (fun _ => ?_)
  refine lv_bipush (v := (-2)) hx hb dX11_text_49 (by decide) ?_
  have hw_17 : bTold T t l0 l1 d0 d1 g0 g1 0 0 (-1) ft fk [zO8 t a1_3 0 0 (-1) a2_4 a3_5 a4_6 a5_7, zAr T 1 a1_3 600 ft, zAr T 0 a2_4 3 fk, zArq T 3 a3_5 2 q1_8, zArq T 4 a4_6 2 q2_9, zArq T 5 a5_7 2 q3_10] := ⟨a1_3, a2_4, a3_5, a4_6, a5_7, q1_8, q2_9, q3_10, rfl, h_11, h_12, h_13, h_14, h_15, h_16⟩
  have G : zS T A s.heap s [[zO10 xo t im mk rd po co tr wa wb_ fi cd], [zO8 t a1_3 0 0 (-1) a2_4 a3_5 a4_6 a5_7, zAr T 1 a1_3 600 ft, zAr T 0 a2_4 3 fk, zArq T 3 a3_5 2 q1_8, zArq T 4 a4_6 2 q2_9, zArq T 5 a5_7 2 q3_10]] _ _ := G.re rfl
  exact z_back hQz_ (z_iret C hr hlocks G (Nat.le_of_ble_eq_true rfl) (Nat.le_of_ble_eq_true rfl) dX11_text_51 ⟨([zO8 t a1_3 0 0 (-1) a2_4 a3_5 a4_6 a5_7, zAr T 1 a1_3 600 ft, zAr T 0 a2_4 3 fk, zArq T 3 a3_5 2 q1_8, zArq T 4 a4_6 2 q2_9, zArq T 5 a5_7 2 q3_10]), rfl, hw_17, rfl⟩)
set_option maxHeartbeats 4000000 in
set_option maxRecDepth 100000 in
/-- c_fm_textN -/
theorem c_fm_textN (l : Launch) (T : zTy) (mo : Nat) (m_all : Nat) (m_has : Nat) (i_size : Int32) (i_next : Int32) (i_where : Int32) (i_token : Int32) (i_number : Int32) (i_word : Int32) (i_wrong : Int32) (i_farCrossing : Int32) (m_read : Nat) (i_z0 : Int32) (i_crossings : Int32) (i_inns : Int32) (m_posts : Nat) (m_shut : Nat) (m_here : Nat) (i_steps : Int32) (i_done : Int32) (i_at : Int32) (i_gone : Int32) (m_was : Nat) (m_came : Nat) (m_seenAt : Nat) (m_rowWorth : Nat) (m_farBy : Nat) (m_used : Nat) (i_everywhere : Int32) (i_again0 : Int32) (i_d0 : Int32) (i_never : Int32) (i_firstCame : Int32) (i_longRun : Int32) (i_moved : Int32) (i_crowd : Int32) (i_l0 : Int32) (i_fitMany : Int32) (i_fitLeast : Int32) (i_fitMost : Int32) (m_fitPost : Nat) (m_fitEnd : Nat) (m_keptPosts : Nat) (i_x0 : Int32) (f_all : Nat → Int32) (f_read : Nat → Int32) (so_ : Int32) (at_ : Int32) (hso : so_.toInt < 0 ∨ 2 < so_.toInt) : zMi l T yX12_text cX12_text 5 (some .int) 9 0 0 [.ref mo, .int so_, .int at_] [[zO11 mo m_all m_has i_size i_next i_where i_token i_number i_word i_wrong i_farCrossing m_read i_z0 i_crossings i_inns m_posts m_shut m_here i_steps i_done i_at i_gone m_was m_came m_seenAt m_rowWorth m_farBy m_used i_everywhere i_again0 i_d0 i_never i_firstCame i_longRun i_moved i_crowd i_l0 i_fitMany i_fitLeast i_fitMost m_fitPost m_fitEnd m_keptPosts i_x0], [zAr T 0 m_all 3952 f_all], [zAr T 0 m_read 121 f_read]] (fun (r : Int32) bs => ∃ (j_size : Int32) (g_all : Nat → Int32), bs = [[zO11 mo m_all m_has j_size i_next i_where i_token i_number i_word i_wrong i_farCrossing m_read i_z0 i_crossings i_inns m_posts m_shut m_here i_steps i_done i_at i_gone m_was m_came m_seenAt m_rowWorth m_farBy m_used i_everywhere i_again0 i_d0 i_never i_firstCame i_longRun i_moved i_crowd i_l0 i_fitMany i_fitLeast i_fitMost m_fitPost m_fitEnd m_keptPosts i_x0], [zAr T 0 m_all 3952 g_all], [zAr T 0 m_read 121 f_read]] ∧ r = -2 ∧ g_all = upd (upd (upd f_all 4 0) 5 0) 6 (-1)) := by
  refine zMi_of (own := RX12) (by decide) rfl (Nat.le_of_ble_eq_true rfl) ?_
  intro p e s m args below meth c A ls C hr hlocks hnm hAe G hl
  refine zHide (fun Qz_ hQz_ => ?_)
  have hx := C.1
  have hb := C.2.1
  have hl : lv_has ls 5 [(0, .ref mo), (1, .int so_), (2, .int at_)] := hl
  refine lv_aload_n hx hb dX12_text_0 rfl (lv_at hl 0 rfl) ?_
  refine lv_aload_n hx hb dX12_text_1 rfl (lv_at hl 0 rfl) ?_
  refine z_get C G clX12 0 rfl 0 (by decide) m_fl_RX12_7 rfl dX12_text_2 ?_
  refine lv_iconst (v := 4) hx hb dX12_text_5 (by decide) ?_
  refine z_ild C G 1 rfl (vp_in_nI (n := 4) (by decide) (by decide)) dX12_text_6 ?_
  refine lv_topi (fun v_1 ev_1 => ?_)
  rw [show ((4 : Int32).toNatClampNeg) = 4 from rfl] at ev_1
  subst ev_1
  refine z_put C G clX12 0 rfl 2 (by decide) m_fl_RX12_56 rfl rfl rfl (Nat.le_of_ble_eq_true rfl) dX12_text_7 (fun H locs G => ?_)
  have G : zS T A s.heap s [[zO11 mo m_all m_has (f_all 4) i_next i_where i_token i_number i_word i_wrong i_farCrossing m_read i_z0 i_crossings i_inns m_posts m_shut m_here i_steps i_done i_at i_gone m_was m_came m_seenAt m_rowWorth m_farBy m_used i_everywhere i_again0 i_d0 i_never i_firstCame i_longRun i_moved i_crowd i_l0 i_fitMany i_fitLeast i_fitMost m_fitPost m_fitEnd m_keptPosts i_x0], [zAr T 0 m_all 3952 f_all], [zAr T 0 m_read 121 f_read]] _ _ := G
  refine lv_aload_n hx hb dX12_text_10 rfl (lv_at hl 0 rfl) ?_
  refine z_get C G clX12 0 rfl 0 (by decide) m_fl_RX12_7 rfl dX12_text_11 ?_
  refine lv_iconst (v := 4) hx hb dX12_text_14 (by decide) ?_
  refine lv_iconst (v := 0) hx hb dX12_text_15 (by decide) ?_
  refine z_ist C G 1 rfl (vp_in_nI (n := 4) (by decide) (by decide)) dX12_text_16 (fun H locs G => ?_)
  have G : zS T A s.heap s [[zO11 mo m_all m_has (f_all 4) i_next i_where i_token i_number i_word i_wrong i_farCrossing m_read i_z0 i_crossings i_inns m_posts m_shut m_here i_steps i_done i_at i_gone m_was m_came m_seenAt m_rowWorth m_farBy m_used i_everywhere i_again0 i_d0 i_never i_firstCame i_longRun i_moved i_crowd i_l0 i_fitMany i_fitLeast i_fitMost m_fitPost m_fitEnd m_keptPosts i_x0], [zAr T 0 m_all 3952 (upd f_all 4 0)], [zAr T 0 m_read 121 f_read]] _ _ := G
  refine lv_aload_n hx hb dX12_text_17 rfl (lv_at hl 0 rfl) ?_
  refine z_get C G clX12 0 rfl 0 (by decide) m_fl_RX12_7 rfl dX12_text_18 ?_
  refine lv_iconst (v := 5) hx hb dX12_text_21 (by decide) ?_
  refine lv_iconst (v := 0) hx hb dX12_text_22 (by decide) ?_
  refine z_ist C G 1 rfl (vp_in_nI (n := 5) (by decide) (by decide)) dX12_text_23 (fun H locs G => ?_)
  have G : zS T A s.heap s [[zO11 mo m_all m_has (f_all 4) i_next i_where i_token i_number i_word i_wrong i_farCrossing m_read i_z0 i_crossings i_inns m_posts m_shut m_here i_steps i_done i_at i_gone m_was m_came m_seenAt m_rowWorth m_farBy m_used i_everywhere i_again0 i_d0 i_never i_firstCame i_longRun i_moved i_crowd i_l0 i_fitMany i_fitLeast i_fitMost m_fitPost m_fitEnd m_keptPosts i_x0], [zAr T 0 m_all 3952 (upd (upd f_all 4 0) 5 0)], [zAr T 0 m_read 121 f_read]] _ _ := G
  refine lv_aload_n hx hb dX12_text_24 rfl (lv_at hl 0 rfl) ?_
  refine z_get C G clX12 0 rfl 0 (by decide) m_fl_RX12_7 rfl dX12_text_25 ?_
  refine lv_bipush (v := 6) hx hb dX12_text_28 (by decide) ?_
  refine lv_iconst (v := (-1)) hx hb dX12_text_30 (by decide) ?_
  refine z_ist C G 1 rfl (vp_in_nI (n := 6) (by decide) (by decide)) dX12_text_31 (fun H locs G => ?_)
  have G : zS T A s.heap s [[zO11 mo m_all m_has (f_all 4) i_next i_where i_token i_number i_word i_wrong i_farCrossing m_read i_z0 i_crossings i_inns m_posts m_shut m_here i_steps i_done i_at i_gone m_was m_came m_seenAt m_rowWorth m_farBy m_used i_everywhere i_again0 i_d0 i_never i_firstCame i_longRun i_moved i_crowd i_l0 i_fitMany i_fitLeast i_fitMost m_fitPost m_fitEnd m_keptPosts i_x0], [zAr T 0 m_all 3952 (upd (upd (upd f_all 4 0) 5 0) 6 (-1))], [zAr T 0 m_read 121 f_read]] _ _ := G
  refine lv_iload_n hx hb dX12_text_32 rfl (lv_at hl 1 rfl) ?_
  refine lv_iconst (v := 0) hx hb dX12_text_33 (by decide) ?_
  refine lv_iconst (v := 2) hx hb dX12_text_34 (by decide) ?_
  refine z_Si (bc := []) (br := [[zO11 mo m_all m_has (f_all 4) i_next i_where i_token i_number i_word i_wrong i_farCrossing m_read i_z0 i_crossings i_inns m_posts m_shut m_here i_steps i_done i_at i_gone m_was m_came m_seenAt m_rowWorth m_farBy m_used i_everywhere i_again0 i_d0 i_never i_firstCame i_longRun i_moved i_crowd i_l0 i_fitMany i_fitLeast i_fitMost m_fitPost m_fitEnd m_keptPosts i_x0], [zAr T 0 m_all 3952 (upd (upd (upd f_all 4 0) 5 0) 6 (-1))], [zAr T 0 m_read 121 f_read]]) (As := [.int so_, .int 0, .int 2]) (rest := []) C G (c_m_isIn l T so_ 0 2) (kS_RX12_111 C.2.2.2.2 (Nat.le_of_ble_eq_true rfl) (Nat.le_of_ble_eq_true rfl)) [] [] rfl rfl rfl rfl hl.1 dX12_text_35 (Nat.le_of_ble_eq_true rfl) (Nat.le_of_ble_eq_true rfl) (fun r_3 b1 H locs hw G => ?_)
  refine zAn2 hw ?_
  intro hbs9 hc_2
  clear hw
  subst hbs9
  have G : zS T A s.heap s [[zO11 mo m_all m_has (f_all 4) i_next i_where i_token i_number i_word i_wrong i_farCrossing m_read i_z0 i_crossings i_inns m_posts m_shut m_here i_steps i_done i_at i_gone m_was m_came m_seenAt m_rowWorth m_farBy m_used i_everywhere i_again0 i_d0 i_never i_firstCame i_longRun i_moved i_crowd i_l0 i_fitMany i_fitLeast i_fitMost m_fitPost m_fitEnd m_keptPosts i_x0], [zAr T 0 m_all 3952 (upd (upd (upd f_all 4 0) 5 0) 6 (-1))], [zAr T 0 m_read 121 f_read]] _ _ := G
  rcases hc_2 with ⟨rfl, h_4, h_5⟩ | ⟨rfl, h_6⟩
  · have h_4 : (0 : Int) ≤ so_.toInt := h_4
    have h_5 : so_.toInt ≤ (2 : Int) := h_5
    refine lv_if_eq (tgt := 68) hx hb dX12_text_38 (by decide) (fun q => absurd q (by decide)) (fun _ => ?_)
    exact absurd (show (0 : Int) = 1 by omega) (by decide)
  · have h_6 : (so_.toInt < (0 : Int) ∨ (2 : Int) < so_.toInt) := h_6
    refine lv_if_eq (tgt := 68) hx hb dX12_text_38 (by decide) (fun _ => ?_) (fun q => absurd (by decide) q)
    refine lv_bipush (v := (-2)) hx hb dX12_text_68 (by decide) ?_
    exact z_back hQz_ (z_iret C hr hlocks G (Nat.le_of_ble_eq_true rfl) (Nat.le_of_ble_eq_true rfl) dX12_text_70 ⟨(f_all 4), (upd (upd (upd f_all 4 0) 5 0) 6 (-1)), rfl, rfl, rfl⟩)

theorem nI_n {n : Nat} (h : n < 2147483648) : (nI n).toInt.toNat = n := by
  rw [nI_toInt h]
  rfl
theorem aSh {i : Nat} (h : i < 2147483648) : nI i >>> (3 &&& 31) = nI (i / 8) := pk_shrN h (3 &&& 31) 3 (by decide)
theorem aAn {i : Nat} (h : i < 2147483648) : nI i &&& 7 = nI (i % 8) := pk_andN (by omega) 3 (by decide)
theorem aAp {i : Nat} (h : i < 2147483648) : nI i &&& 131071 = nI (i % 131072) := pk_andN (by omega) 17 (by decide)
theorem aT_n {cr inn : Int32} {k1 L : Nat → Int32} {i : Nat} (h : zWays cr inn k1 (nI (i % 8)) = 0) : nI i = nI (aT (aW cr inn k1) L 1 i) := by
  rw [aT_1, if_neg]
  intro q
  have q2 : 0 < (zWays cr inn k1 (nI (i % 8))).toInt := q.2
  rw [h] at q2
  exact absurd q2 (by decide)
theorem aT_y {cr inn r : Int32} {k1 k2 k3 f1 f2 : Nat → Int32} {i : Nat} (hI : zLI cr k1 k3) (hF : aF cr inn k1 f1 f2) (hO : aOk (aW cr inn k1) k2) (hi : i < 8 * aPr (aW cr inn k1) 7) (hz : ¬ zWays cr inn k1 (nI (i % 8)) = 0) (hr : r = nI (aTn (aW cr inn k1) (i / 8) (i % 8))) : (r <<< (3 &&& 31)) + zTarget cr k1 k2 (nI (i % 8)) (zRoad f1 f2 r (nI (i % 8))) + 131072 = nI (aT (aW cr inn k1) k2 1 i) := by
  obtain ⟨c0, c1, c2, c3, c4⟩ := zWays_in hz
  have h4 := zWays_le (inn := inn) hI (nI (i % 8))
  have ec := nI_toInt (n := i % 8) (by omega)
  have ek : (nI (i % 8)).toNatClampNeg = i % 8 := pk_cl (i % 8)
  have p := hO.2.2
  have hp : 0 < (aW cr inn k1 (i % 8)).toInt := by
    show 0 < (zWays cr inn k1 (nI (i % 8))).toInt
    have : ¬ (zWays cr inn k1 (nI (i % 8))).toInt = 0 := fun q => hz (Int32.toInt_inj.mp q)
    omega
  have lt := aTn_lt (W := aW cr inn k1) (w := i / 8) (c := i % 8) (by omega) (by omega)
  have rl := aRd_lt (W := aW cr inn k1) (w := aTn (aW cr inn k1) (i / 8) (i % 8)) (c := i % 8)
  have ch : aCh (aW cr inn k1) (i % 8) = (aW cr inn k1 (i % 8)).toInt.toNat := if_neg (by omega)
  have e4 : aW cr inn k1 (i % 8) = k1 (i % 8) := by
    have e : zWays cr inn k1 (nI (i % 8)) = k1 (nI (i % 8)).toNatClampNeg := c4
    rw [ek] at e
    exact e
  have h5 : (aW cr inn k1 (i % 8)).toInt ≤ 4 := h4.2
  have er := nI_toInt (n := aRd (aW cr inn k1) (aTn (aW cr inn k1) (i / 8) (i % 8)) (i % 8)) (by omega)
  have er2 : (nI (aRd (aW cr inn k1) (aTn (aW cr inn k1) (i / 8) (i % 8)) (i % 8))).toNatClampNeg = aRd (aW cr inn k1) (aTn (aW cr inn k1) (i / 8) (i % 8)) (i % 8) := pk_cl _ rfl (by omega)
  have b := hO.1 (i % 8) (aRd (aW cr inn k1) (aTn (aW cr inn k1) (i / 8) (i % 8)) (i % 8)) (by omega) (by omega) (by omega)
  have eL : k2 (4 * (i % 8) + aRd (aW cr inn k1) (aTn (aW cr inn k1) (i / 8) (i % 8)) (i % 8)) = nI (k2 (4 * (i % 8) + aRd (aW cr inn k1) (aTn (aW cr inn k1) (i / 8) (i % 8)) (i % 8))).toInt.toNat := z_nI (by omega) (by omega)
  have eT : zTarget cr k1 k2 (nI (i % 8)) (nI (aRd (aW cr inn k1) (aTn (aW cr inn k1) (i / 8) (i % 8)) (i % 8))) = k2 (4 * (i % 8) + aRd (aW cr inn k1) (aTn (aW cr inn k1) (i / 8) (i % 8)) (i % 8)) := by
    unfold zTarget
    rw [ek, er2, if_pos ⟨c0, c1, c2, by omega, by rw [← e4]; omega, by omega⟩]
  rw [hr, zRoad_z hI hF (by omega) (by omega), eT, eL, pk_shlN (3 &&& 31) 3 (by decide) (by omega), nI_add, show (131072 : Int32) = nI 131072 from rfl, nI_add, aT_1, if_pos ⟨by omega, hp⟩]
  exact congrArg nI (by omega)
theorem zNl_le {n : Nat} {pl : Int32} (hp : pl.toInt ≤ 131072) : pl.toInt ≤ (zNl n pl : Nat) := by
  unfold zNl
  by_cases q : pl.toInt ≤ n
  · rw [if_pos q]
    exact q
  · rw [if_neg q]
    exact zLenN_ge hp 12 0 (by decide) (by decide)
/-- what stands in a table that is made -/
def zTab (cr inn : Int32) (k1 k2 : Nat → Int32) (wy pc : Int32) (f1 f2 f5 : Nat → Int32) (n : Nat) : Prop := wy = zWy cr inn k1 ∧ pc = zPl cr inn k1 ∧ aF cr inn k1 f1 f2 ∧ 8 * aPr (aW cr inn k1) 7 ≤ n ∧ ∀ j, j < 8 * aPr (aW cr inn k1) 7 → f5 j = nI (aT (aW cr inn k1) k2 499 j)
set_option maxHeartbeats 4000000 in
set_option maxRecDepth 100000 in
/-- countWays -/
theorem c_f_countWays (l : Launch) (T : zTy) (h : Nat) (la : Nat) (md : Int32) (wy : Int32) (pc_ : Int32) (f1 : Nat → Int32) (f2 : Nat → Int32) (f3 : Nat → Int32) (f4 : Nat → Int32) (f5 : Nat → Int32) (f6 : Nat → Int32) (n4 : Nat) (ww : va_W) (o : Nat) (cr : Int32) (inn : Int32) (k1 : Nat → Int32) (k2 : Nat → Int32) (k3 : Nat → Int32) (k4 : Nat → Int32) (z : va_W) (hww : bWays T h la md wy pc_ f1 f2 f3 f4 f5 f6 n4 ww) (hz : bLand T o cr inn k1 k2 k3 k4 z) : zMv l T yX0_countWays cX0_countWays 3 2 0 0 [.ref h, .ref o] [ww, z] (fun bs => ∃ (w2 : va_W) (g1 : Nat → Int32) (g2 : Nat → Int32), bs = [w2, z] ∧ bWays T h o md (zWy cr inn k1) (zPl cr inn k1) g1 g2 f3 f4 f5 f6 n4 w2 ∧ aF cr inn k1 g1 g2) := by
  refine zMv_of (own := RX0) (by decide) rfl (Nat.le_of_ble_eq_true rfl) ?_
  intro p e s m args below meth c A ls C hr hlocks hnm hAe G hl
  refine zHide (fun Qz_ hQz_ => ?_)
  have hx := C.1
  have hb := C.2.1
  have hl : lv_has ls 3 [(0, .ref h), (1, .ref o)] := hl
  have hz0 : (1 : Int32) = zWyN cr inn k1 0 := rfl
  refine lv_aload_n hx hb dX0_countWays_0 rfl (lv_at hl 0 rfl) ?_
  refine lv_aload_n hx hb dX0_countWays_1 rfl (lv_at hl 1 rfl) ?_
  refine zEx6 hww ?_
  intro a1_1 a2_2 a3_3 a4_4 a5_5 a6_6 hbs9
  clear hww
  subst hbs9
  have G : zS T A s.heap s [[zO0 h md wy la pc_ a1_1 a2_2 a3_3 a4_4 a5_5 a6_6], [zAr T 0 a1_1 7 f1], [zAr T 0 a2_2 7 f2], [zAr T 0 a3_3 7 f3], [zAr T 0 a4_4 n4 f4], [zAr T 0 a5_5 n4 f5], [zAr T 0 a6_6 n4 f6], z] _ _ := G.re rfl
  refine z_put C G clX0 0 rfl 2 (by decide) m_fl_RX0_14 rfl rfl rfl (Nat.le_of_ble_eq_true rfl) dX0_countWays_2 (fun H locs G => ?_)
  have G : zS T A s.heap s [[zO0 h md wy o pc_ a1_1 a2_2 a3_3 a4_4 a5_5 a6_6], [zAr T 0 a1_1 7 f1], [zAr T 0 a2_2 7 f2], [zAr T 0 a3_3 7 f3], [zAr T 0 a4_4 n4 f4], [zAr T 0 a5_5 n4 f5], [zAr T 0 a6_6 n4 f6], z] _ _ := G
  refine lv_aload_n hx hb dX0_countWays_5 rfl (lv_at hl 0 rfl) ?_
  refine lv_iconst (v := 1) hx hb dX0_countWays_6 (by decide) ?_
  refine z_put C G clX0 0 rfl 1 (by decide) m_fl_RX0_57 rfl rfl rfl (Nat.le_of_ble_eq_true rfl) dX0_countWays_7 (fun H locs G => ?_)
  have G : zS T A s.heap s [[zO0 h md 1 o pc_ a1_1 a2_2 a3_3 a4_4 a5_5 a6_6], [zAr T 0 a1_1 7 f1], [zAr T 0 a2_2 7 f2], [zAr T 0 a3_3 7 f3], [zAr T 0 a4_4 n4 f4], [zAr T 0 a5_5 n4 f5], [zAr T 0 a6_6 n4 f6], z] _ _ := G
  refine lv_bipush (v := 6) hx hb dX0_countWays_10 (by decide) ?_
  refine lv_istore_n (lv' := [(2, .int 6), (0, .ref h), (1, .ref o)]) hx hb dX0_countWays_12 rfl hl (by decide) (zLvf_h rfl) (fun ls hl => ?_)
  refine lv_iload_n hx hb dX0_countWays_13 rfl (lv_at hl 0 rfl) ?_
  refine lv_if_lt (tgt := 63) hx hb dX0_countWays_14 (by decide) (fun q => absurd q (by decide)) (fun _ => ?_)
  refine lv_aload_n hx hb dX0_countWays_17 rfl (lv_at hl 1 rfl) ?_
  refine z_get C G clX0 0 rfl 4 (by decide) m_fl_RX0_18 rfl dX0_countWays_18 ?_
  refine lv_iload_n hx hb dX0_countWays_21 rfl (lv_at hl 0 rfl) ?_
  refine lv_aload_n hx hb dX0_countWays_22 rfl (lv_at hl 2 rfl) ?_
  refine lv_iload_n hx hb dX0_countWays_23 rfl (lv_at hl 0 rfl) ?_
  refine z_Vi (bc := [z]) (br := [[zO0 h md 1 o pc_ a1_1 a2_2 a3_3 a4_4 a5_5 a6_6], [zAr T 0 a1_1 7 f1], [zAr T 0 a2_2 7 f2], [zAr T 0 a3_3 7 f3], [zAr T 0 a4_4 n4 f4], [zAr T 0 a5_5 n4 f5], [zAr T 0 a6_6 n4 f6]]) (As := [.int 6]) (rest := [.int 6, .ref a1_1]) C G (c_waysOut l T o cr inn k1 k2 k3 k4 z 6 hz) (kV_RX0_61 C.2.2.2.2 (Nat.le_of_ble_eq_true rfl) (Nat.le_of_ble_eq_true rfl)) [7] [7] rfl rfl (ci := 4) (qc := (RX4, TX4, 6)) rfl rfl (List.mem_flatten.mpr ⟨_, List.mem_of_getElem? (i := 0) rfl, (bLand_mem hz).choose_spec⟩) rfl rfl hl.1 dX0_countWays_24 (Nat.le_of_ble_eq_true rfl) (Nat.le_of_ble_eq_true rfl) (fun r_8 b1 H locs hw G => ?_)
  refine zAn2 hw ?_
  intro hbs9 h_7
  clear hw
  subst hbs9
  have G : zS T A s.heap s [[zO0 h md 1 o pc_ a1_1 a2_2 a3_3 a4_4 a5_5 a6_6], [zAr T 0 a1_1 7 f1], [zAr T 0 a2_2 7 f2], [zAr T 0 a3_3 7 f3], [zAr T 0 a4_4 n4 f4], [zAr T 0 a5_5 n4 f5], [zAr T 0 a6_6 n4 f6], z] _ _ := G
  subst h_7
  refine lv_iconst (v := 1) hx hb dX0_countWays_27 (by decide) ?_
  refine va_mmax hx hb (C.2.2.1.trans hl.1.symm) C.2.2.2.1 (C.2.2.2.2 _ m_ml_RX0_65) (C.2.2.2.2 _ m_st_math_max) (C.2.2.2.2 _ m_ii_math) (C.2.2.2.2 _ m_co_math_max) (Nat.le_of_ble_eq_true rfl) (Nat.le_of_ble_eq_true rfl) (Nat.le_of_ble_eq_true rfl) (Nat.le_of_ble_eq_true rfl) dX0_countWays_28 ?_
  refine lv_topi (fun v_9 ev_9 => ?_)
  subst ev_9
  refine lv_topi (fun y_10 ey_10 => ?_)
  obtain rfl : y_10 = zCh cr inn k1 6 := ey_10
  refine z_ist C G 1 rfl (vp_in_nI (n := 6) (by decide) (by decide)) dX0_countWays_31 (fun H locs G => ?_)
  have G : zS T A s.heap s [[zO0 h md 1 o pc_ a1_1 a2_2 a3_3 a4_4 a5_5 a6_6], [zAr T 0 a1_1 7 (upd f1 6 (zCh cr inn k1 6))], [zAr T 0 a2_2 7 f2], [zAr T 0 a3_3 7 f3], [zAr T 0 a4_4 n4 f4], [zAr T 0 a5_5 n4 f5], [zAr T 0 a6_6 n4 f6], z] _ _ := G
  refine lv_aload_n hx hb dX0_countWays_32 rfl (lv_at hl 1 rfl) ?_
  refine z_get C G clX0 0 rfl 5 (by decide) m_fl_RX0_22 rfl dX0_countWays_33 ?_
  refine lv_iload_n hx hb dX0_countWays_36 rfl (lv_at hl 0 rfl) ?_
  refine lv_aload_n hx hb dX0_countWays_37 rfl (lv_at hl 1 rfl) ?_
  refine z_get C G clX0 0 rfl 1 (by decide) m_fl_RX0_57 rfl dX0_countWays_38 ?_
  refine z_ist C G 2 rfl (vp_in_nI (n := 6) (by decide) (by decide)) dX0_countWays_41 (fun H locs G => ?_)
  have G : zS T A s.heap s [[zO0 h md 1 o pc_ a1_1 a2_2 a3_3 a4_4 a5_5 a6_6], [zAr T 0 a1_1 7 (upd f1 6 (zCh cr inn k1 6))], [zAr T 0 a2_2 7 (upd f2 6 1)], [zAr T 0 a3_3 7 f3], [zAr T 0 a4_4 n4 f4], [zAr T 0 a5_5 n4 f5], [zAr T 0 a6_6 n4 f6], z] _ _ := G
  refine lv_aload_n hx hb dX0_countWays_42 rfl (lv_at hl 1 rfl) ?_
  refine lv_dup hx hb dX0_countWays_43 rfl ?_
  refine z_get C G clX0 0 rfl 1 (by decide) m_fl_RX0_57 rfl dX0_countWays_44 ?_
  refine lv_aload_n hx hb dX0_countWays_47 rfl (lv_at hl 1 rfl) ?_
  refine z_get C G clX0 0 rfl 4 (by decide) m_fl_RX0_18 rfl dX0_countWays_48 ?_
  refine lv_iload_n hx hb dX0_countWays_51 rfl (lv_at hl 0 rfl) ?_
  refine z_ild C G 1 rfl (vp_in_nI (n := 6) (by decide) (by decide)) dX0_countWays_52 ?_
  refine lv_topi (fun v_11 ev_11 => ?_)
  have ev_11 : v_11 = zCh cr inn k1 6 := ev_11
  subst ev_11
  refine lv_imul hx hb dX0_countWays_53 ?_
  refine lv_topi (fun y_12 ey_12 => ?_)
  obtain rfl : y_12 = zWyN cr inn k1 1 := ey_12
  refine z_put C G clX0 0 rfl 1 (by decide) m_fl_RX0_57 rfl rfl rfl (Nat.le_of_ble_eq_true rfl) dX0_countWays_54 (fun H locs G => ?_)
  have G : zS T A s.heap s [[zO0 h md (zWyN cr inn k1 1) o pc_ a1_1 a2_2 a3_3 a4_4 a5_5 a6_6], [zAr T 0 a1_1 7 (upd f1 6 (zCh cr inn k1 6))], [zAr T 0 a2_2 7 (upd f2 6 1)], [zAr T 0 a3_3 7 f3], [zAr T 0 a4_4 n4 f4], [zAr T 0 a5_5 n4 f5], [zAr T 0 a6_6 n4 f6], z] _ _ := G
  refine lv_iinc (v := 5) (lv' := [(2, .int 5), (0, .ref h), (1, .ref o)]) hx hb dX0_countWays_57 hl (k := 0) rfl (by decide) (by decide) (zLvf_h rfl) (fun ls hl => ?_)
  refine lv_goto (tgt := 13) hx hb dX0_countWays_60 (by decide) ?_
  refine lv_iload_n hx hb dX0_countWays_13 rfl (lv_at hl 0 rfl) ?_
  refine lv_if_lt (tgt := 63) hx hb dX0_countWays_14 (by decide) (fun q => absurd q (by decide)) (fun _ => ?_)
  refine lv_aload_n hx hb dX0_countWays_17 rfl (lv_at hl 1 rfl) ?_
  refine z_get C G clX0 0 rfl 4 (by decide) m_fl_RX0_18 rfl dX0_countWays_18 ?_
  refine lv_iload_n hx hb dX0_countWays_21 rfl (lv_at hl 0 rfl) ?_
  refine lv_aload_n hx hb dX0_countWays_22 rfl (lv_at hl 2 rfl) ?_
  refine lv_iload_n hx hb dX0_countWays_23 rfl (lv_at hl 0 rfl) ?_
  refine z_Vi (bc := [z]) (br := [[zO0 h md (zWyN cr inn k1 1) o pc_ a1_1 a2_2 a3_3 a4_4 a5_5 a6_6], [zAr T 0 a1_1 7 (upd f1 6 (zCh cr inn k1 6))], [zAr T 0 a2_2 7 (upd f2 6 1)], [zAr T 0 a3_3 7 f3], [zAr T 0 a4_4 n4 f4], [zAr T 0 a5_5 n4 f5], [zAr T 0 a6_6 n4 f6]]) (As := [.int 5]) (rest := [.int 5, .ref a1_1]) C G (c_waysOut l T o cr inn k1 k2 k3 k4 z 5 hz) (kV_RX0_61 C.2.2.2.2 (Nat.le_of_ble_eq_true rfl) (Nat.le_of_ble_eq_true rfl)) [7] [7] rfl rfl (ci := 4) (qc := (RX4, TX4, 6)) rfl rfl (List.mem_flatten.mpr ⟨_, List.mem_of_getElem? (i := 0) rfl, (bLand_mem hz).choose_spec⟩) rfl rfl hl.1 dX0_countWays_24 (Nat.le_of_ble_eq_true rfl) (Nat.le_of_ble_eq_true rfl) (fun r_14 b1 H locs hw G => ?_)
  refine zAn2 hw ?_
  intro hbs9 h_13
  clear hw
  subst hbs9
  have G : zS T A s.heap s [[zO0 h md (zWyN cr inn k1 1) o pc_ a1_1 a2_2 a3_3 a4_4 a5_5 a6_6], [zAr T 0 a1_1 7 (upd f1 6 (zCh cr inn k1 6))], [zAr T 0 a2_2 7 (upd f2 6 1)], [zAr T 0 a3_3 7 f3], [zAr T 0 a4_4 n4 f4], [zAr T 0 a5_5 n4 f5], [zAr T 0 a6_6 n4 f6], z] _ _ := G
  subst h_13
  refine lv_iconst (v := 1) hx hb dX0_countWays_27 (by decide) ?_
  refine va_mmax hx hb (C.2.2.1.trans hl.1.symm) C.2.2.2.1 (C.2.2.2.2 _ m_ml_RX0_65) (C.2.2.2.2 _ m_st_math_max) (C.2.2.2.2 _ m_ii_math) (C.2.2.2.2 _ m_co_math_max) (Nat.le_of_ble_eq_true rfl) (Nat.le_of_ble_eq_true rfl) (Nat.le_of_ble_eq_true rfl) (Nat.le_of_ble_eq_true rfl) dX0_countWays_28 ?_
  refine lv_topi (fun v_15 ev_15 => ?_)
  subst ev_15
  refine lv_topi (fun y_16 ey_16 => ?_)
  obtain rfl : y_16 = zCh cr inn k1 5 := ey_16
  refine z_ist C G 1 rfl (vp_in_nI (n := 5) (by decide) (by decide)) dX0_countWays_31 (fun H locs G => ?_)
  have G : zS T A s.heap s [[zO0 h md (zWyN cr inn k1 1) o pc_ a1_1 a2_2 a3_3 a4_4 a5_5 a6_6], [zAr T 0 a1_1 7 (upd (upd f1 6 (zCh cr inn k1 6)) 5 (zCh cr inn k1 5))], [zAr T 0 a2_2 7 (upd f2 6 1)], [zAr T 0 a3_3 7 f3], [zAr T 0 a4_4 n4 f4], [zAr T 0 a5_5 n4 f5], [zAr T 0 a6_6 n4 f6], z] _ _ := G
  refine lv_aload_n hx hb dX0_countWays_32 rfl (lv_at hl 1 rfl) ?_
  refine z_get C G clX0 0 rfl 5 (by decide) m_fl_RX0_22 rfl dX0_countWays_33 ?_
  refine lv_iload_n hx hb dX0_countWays_36 rfl (lv_at hl 0 rfl) ?_
  refine lv_aload_n hx hb dX0_countWays_37 rfl (lv_at hl 1 rfl) ?_
  refine z_get C G clX0 0 rfl 1 (by decide) m_fl_RX0_57 rfl dX0_countWays_38 ?_
  refine z_ist C G 2 rfl (vp_in_nI (n := 5) (by decide) (by decide)) dX0_countWays_41 (fun H locs G => ?_)
  have G : zS T A s.heap s [[zO0 h md (zWyN cr inn k1 1) o pc_ a1_1 a2_2 a3_3 a4_4 a5_5 a6_6], [zAr T 0 a1_1 7 (upd (upd f1 6 (zCh cr inn k1 6)) 5 (zCh cr inn k1 5))], [zAr T 0 a2_2 7 (upd (upd f2 6 1) 5 (zWyN cr inn k1 1))], [zAr T 0 a3_3 7 f3], [zAr T 0 a4_4 n4 f4], [zAr T 0 a5_5 n4 f5], [zAr T 0 a6_6 n4 f6], z] _ _ := G
  refine lv_aload_n hx hb dX0_countWays_42 rfl (lv_at hl 1 rfl) ?_
  refine lv_dup hx hb dX0_countWays_43 rfl ?_
  refine z_get C G clX0 0 rfl 1 (by decide) m_fl_RX0_57 rfl dX0_countWays_44 ?_
  refine lv_aload_n hx hb dX0_countWays_47 rfl (lv_at hl 1 rfl) ?_
  refine z_get C G clX0 0 rfl 4 (by decide) m_fl_RX0_18 rfl dX0_countWays_48 ?_
  refine lv_iload_n hx hb dX0_countWays_51 rfl (lv_at hl 0 rfl) ?_
  refine z_ild C G 1 rfl (vp_in_nI (n := 5) (by decide) (by decide)) dX0_countWays_52 ?_
  refine lv_topi (fun v_17 ev_17 => ?_)
  have ev_17 : v_17 = zCh cr inn k1 5 := ev_17
  subst ev_17
  refine lv_imul hx hb dX0_countWays_53 ?_
  refine lv_topi (fun y_18 ey_18 => ?_)
  obtain rfl : y_18 = zWyN cr inn k1 2 := ey_18
  refine z_put C G clX0 0 rfl 1 (by decide) m_fl_RX0_57 rfl rfl rfl (Nat.le_of_ble_eq_true rfl) dX0_countWays_54 (fun H locs G => ?_)
  have G : zS T A s.heap s [[zO0 h md (zWyN cr inn k1 2) o pc_ a1_1 a2_2 a3_3 a4_4 a5_5 a6_6], [zAr T 0 a1_1 7 (upd (upd f1 6 (zCh cr inn k1 6)) 5 (zCh cr inn k1 5))], [zAr T 0 a2_2 7 (upd (upd f2 6 1) 5 (zWyN cr inn k1 1))], [zAr T 0 a3_3 7 f3], [zAr T 0 a4_4 n4 f4], [zAr T 0 a5_5 n4 f5], [zAr T 0 a6_6 n4 f6], z] _ _ := G
  refine lv_iinc (v := 4) (lv' := [(2, .int 4), (0, .ref h), (1, .ref o)]) hx hb dX0_countWays_57 hl (k := 0) rfl (by decide) (by decide) (zLvf_h rfl) (fun ls hl => ?_)
  refine lv_goto (tgt := 13) hx hb dX0_countWays_60 (by decide) ?_
  refine lv_iload_n hx hb dX0_countWays_13 rfl (lv_at hl 0 rfl) ?_
  refine lv_if_lt (tgt := 63) hx hb dX0_countWays_14 (by decide) (fun q => absurd q (by decide)) (fun _ => ?_)
  refine lv_aload_n hx hb dX0_countWays_17 rfl (lv_at hl 1 rfl) ?_
  refine z_get C G clX0 0 rfl 4 (by decide) m_fl_RX0_18 rfl dX0_countWays_18 ?_
  refine lv_iload_n hx hb dX0_countWays_21 rfl (lv_at hl 0 rfl) ?_
  refine lv_aload_n hx hb dX0_countWays_22 rfl (lv_at hl 2 rfl) ?_
  refine lv_iload_n hx hb dX0_countWays_23 rfl (lv_at hl 0 rfl) ?_
  refine z_Vi (bc := [z]) (br := [[zO0 h md (zWyN cr inn k1 2) o pc_ a1_1 a2_2 a3_3 a4_4 a5_5 a6_6], [zAr T 0 a1_1 7 (upd (upd f1 6 (zCh cr inn k1 6)) 5 (zCh cr inn k1 5))], [zAr T 0 a2_2 7 (upd (upd f2 6 1) 5 (zWyN cr inn k1 1))], [zAr T 0 a3_3 7 f3], [zAr T 0 a4_4 n4 f4], [zAr T 0 a5_5 n4 f5], [zAr T 0 a6_6 n4 f6]]) (As := [.int 4]) (rest := [.int 4, .ref a1_1]) C G (c_waysOut l T o cr inn k1 k2 k3 k4 z 4 hz) (kV_RX0_61 C.2.2.2.2 (Nat.le_of_ble_eq_true rfl) (Nat.le_of_ble_eq_true rfl)) [7] [7] rfl rfl (ci := 4) (qc := (RX4, TX4, 6)) rfl rfl (List.mem_flatten.mpr ⟨_, List.mem_of_getElem? (i := 0) rfl, (bLand_mem hz).choose_spec⟩) rfl rfl hl.1 dX0_countWays_24 (Nat.le_of_ble_eq_true rfl) (Nat.le_of_ble_eq_true rfl) (fun r_20 b1 H locs hw G => ?_)
  refine zAn2 hw ?_
  intro hbs9 h_19
  clear hw
  subst hbs9
  have G : zS T A s.heap s [[zO0 h md (zWyN cr inn k1 2) o pc_ a1_1 a2_2 a3_3 a4_4 a5_5 a6_6], [zAr T 0 a1_1 7 (upd (upd f1 6 (zCh cr inn k1 6)) 5 (zCh cr inn k1 5))], [zAr T 0 a2_2 7 (upd (upd f2 6 1) 5 (zWyN cr inn k1 1))], [zAr T 0 a3_3 7 f3], [zAr T 0 a4_4 n4 f4], [zAr T 0 a5_5 n4 f5], [zAr T 0 a6_6 n4 f6], z] _ _ := G
  subst h_19
  refine lv_iconst (v := 1) hx hb dX0_countWays_27 (by decide) ?_
  refine va_mmax hx hb (C.2.2.1.trans hl.1.symm) C.2.2.2.1 (C.2.2.2.2 _ m_ml_RX0_65) (C.2.2.2.2 _ m_st_math_max) (C.2.2.2.2 _ m_ii_math) (C.2.2.2.2 _ m_co_math_max) (Nat.le_of_ble_eq_true rfl) (Nat.le_of_ble_eq_true rfl) (Nat.le_of_ble_eq_true rfl) (Nat.le_of_ble_eq_true rfl) dX0_countWays_28 ?_
  refine lv_topi (fun v_21 ev_21 => ?_)
  subst ev_21
  refine lv_topi (fun y_22 ey_22 => ?_)
  obtain rfl : y_22 = zCh cr inn k1 4 := ey_22
  refine z_ist C G 1 rfl (vp_in_nI (n := 4) (by decide) (by decide)) dX0_countWays_31 (fun H locs G => ?_)
  have G : zS T A s.heap s [[zO0 h md (zWyN cr inn k1 2) o pc_ a1_1 a2_2 a3_3 a4_4 a5_5 a6_6], [zAr T 0 a1_1 7 (upd (upd (upd f1 6 (zCh cr inn k1 6)) 5 (zCh cr inn k1 5)) 4 (zCh cr inn k1 4))], [zAr T 0 a2_2 7 (upd (upd f2 6 1) 5 (zWyN cr inn k1 1))], [zAr T 0 a3_3 7 f3], [zAr T 0 a4_4 n4 f4], [zAr T 0 a5_5 n4 f5], [zAr T 0 a6_6 n4 f6], z] _ _ := G
  refine lv_aload_n hx hb dX0_countWays_32 rfl (lv_at hl 1 rfl) ?_
  refine z_get C G clX0 0 rfl 5 (by decide) m_fl_RX0_22 rfl dX0_countWays_33 ?_
  refine lv_iload_n hx hb dX0_countWays_36 rfl (lv_at hl 0 rfl) ?_
  refine lv_aload_n hx hb dX0_countWays_37 rfl (lv_at hl 1 rfl) ?_
  refine z_get C G clX0 0 rfl 1 (by decide) m_fl_RX0_57 rfl dX0_countWays_38 ?_
  refine z_ist C G 2 rfl (vp_in_nI (n := 4) (by decide) (by decide)) dX0_countWays_41 (fun H locs G => ?_)
  have G : zS T A s.heap s [[zO0 h md (zWyN cr inn k1 2) o pc_ a1_1 a2_2 a3_3 a4_4 a5_5 a6_6], [zAr T 0 a1_1 7 (upd (upd (upd f1 6 (zCh cr inn k1 6)) 5 (zCh cr inn k1 5)) 4 (zCh cr inn k1 4))], [zAr T 0 a2_2 7 (upd (upd (upd f2 6 1) 5 (zWyN cr inn k1 1)) 4 (zWyN cr inn k1 2))], [zAr T 0 a3_3 7 f3], [zAr T 0 a4_4 n4 f4], [zAr T 0 a5_5 n4 f5], [zAr T 0 a6_6 n4 f6], z] _ _ := G
  refine lv_aload_n hx hb dX0_countWays_42 rfl (lv_at hl 1 rfl) ?_
  refine lv_dup hx hb dX0_countWays_43 rfl ?_
  refine z_get C G clX0 0 rfl 1 (by decide) m_fl_RX0_57 rfl dX0_countWays_44 ?_
  refine lv_aload_n hx hb dX0_countWays_47 rfl (lv_at hl 1 rfl) ?_
  refine z_get C G clX0 0 rfl 4 (by decide) m_fl_RX0_18 rfl dX0_countWays_48 ?_
  refine lv_iload_n hx hb dX0_countWays_51 rfl (lv_at hl 0 rfl) ?_
  refine z_ild C G 1 rfl (vp_in_nI (n := 4) (by decide) (by decide)) dX0_countWays_52 ?_
  refine lv_topi (fun v_23 ev_23 => ?_)
  have ev_23 : v_23 = zCh cr inn k1 4 := ev_23
  subst ev_23
  refine lv_imul hx hb dX0_countWays_53 ?_
  refine lv_topi (fun y_24 ey_24 => ?_)
  obtain rfl : y_24 = zWyN cr inn k1 3 := ey_24
  refine z_put C G clX0 0 rfl 1 (by decide) m_fl_RX0_57 rfl rfl rfl (Nat.le_of_ble_eq_true rfl) dX0_countWays_54 (fun H locs G => ?_)
  have G : zS T A s.heap s [[zO0 h md (zWyN cr inn k1 3) o pc_ a1_1 a2_2 a3_3 a4_4 a5_5 a6_6], [zAr T 0 a1_1 7 (upd (upd (upd f1 6 (zCh cr inn k1 6)) 5 (zCh cr inn k1 5)) 4 (zCh cr inn k1 4))], [zAr T 0 a2_2 7 (upd (upd (upd f2 6 1) 5 (zWyN cr inn k1 1)) 4 (zWyN cr inn k1 2))], [zAr T 0 a3_3 7 f3], [zAr T 0 a4_4 n4 f4], [zAr T 0 a5_5 n4 f5], [zAr T 0 a6_6 n4 f6], z] _ _ := G
  refine lv_iinc (v := 3) (lv' := [(2, .int 3), (0, .ref h), (1, .ref o)]) hx hb dX0_countWays_57 hl (k := 0) rfl (by decide) (by decide) (zLvf_h rfl) (fun ls hl => ?_)
  refine lv_goto (tgt := 13) hx hb dX0_countWays_60 (by decide) ?_
  refine lv_iload_n hx hb dX0_countWays_13 rfl (lv_at hl 0 rfl) ?_
  refine lv_if_lt (tgt := 63) hx hb dX0_countWays_14 (by decide) (fun q => absurd q (by decide)) (fun _ => ?_)
  refine lv_aload_n hx hb dX0_countWays_17 rfl (lv_at hl 1 rfl) ?_
  refine z_get C G clX0 0 rfl 4 (by decide) m_fl_RX0_18 rfl dX0_countWays_18 ?_
  refine lv_iload_n hx hb dX0_countWays_21 rfl (lv_at hl 0 rfl) ?_
  refine lv_aload_n hx hb dX0_countWays_22 rfl (lv_at hl 2 rfl) ?_
  refine lv_iload_n hx hb dX0_countWays_23 rfl (lv_at hl 0 rfl) ?_
  refine z_Vi (bc := [z]) (br := [[zO0 h md (zWyN cr inn k1 3) o pc_ a1_1 a2_2 a3_3 a4_4 a5_5 a6_6], [zAr T 0 a1_1 7 (upd (upd (upd f1 6 (zCh cr inn k1 6)) 5 (zCh cr inn k1 5)) 4 (zCh cr inn k1 4))], [zAr T 0 a2_2 7 (upd (upd (upd f2 6 1) 5 (zWyN cr inn k1 1)) 4 (zWyN cr inn k1 2))], [zAr T 0 a3_3 7 f3], [zAr T 0 a4_4 n4 f4], [zAr T 0 a5_5 n4 f5], [zAr T 0 a6_6 n4 f6]]) (As := [.int 3]) (rest := [.int 3, .ref a1_1]) C G (c_waysOut l T o cr inn k1 k2 k3 k4 z 3 hz) (kV_RX0_61 C.2.2.2.2 (Nat.le_of_ble_eq_true rfl) (Nat.le_of_ble_eq_true rfl)) [7] [7] rfl rfl (ci := 4) (qc := (RX4, TX4, 6)) rfl rfl (List.mem_flatten.mpr ⟨_, List.mem_of_getElem? (i := 0) rfl, (bLand_mem hz).choose_spec⟩) rfl rfl hl.1 dX0_countWays_24 (Nat.le_of_ble_eq_true rfl) (Nat.le_of_ble_eq_true rfl) (fun r_26 b1 H locs hw G => ?_)
  refine zAn2 hw ?_
  intro hbs9 h_25
  clear hw
  subst hbs9
  have G : zS T A s.heap s [[zO0 h md (zWyN cr inn k1 3) o pc_ a1_1 a2_2 a3_3 a4_4 a5_5 a6_6], [zAr T 0 a1_1 7 (upd (upd (upd f1 6 (zCh cr inn k1 6)) 5 (zCh cr inn k1 5)) 4 (zCh cr inn k1 4))], [zAr T 0 a2_2 7 (upd (upd (upd f2 6 1) 5 (zWyN cr inn k1 1)) 4 (zWyN cr inn k1 2))], [zAr T 0 a3_3 7 f3], [zAr T 0 a4_4 n4 f4], [zAr T 0 a5_5 n4 f5], [zAr T 0 a6_6 n4 f6], z] _ _ := G
  subst h_25
  refine lv_iconst (v := 1) hx hb dX0_countWays_27 (by decide) ?_
  refine va_mmax hx hb (C.2.2.1.trans hl.1.symm) C.2.2.2.1 (C.2.2.2.2 _ m_ml_RX0_65) (C.2.2.2.2 _ m_st_math_max) (C.2.2.2.2 _ m_ii_math) (C.2.2.2.2 _ m_co_math_max) (Nat.le_of_ble_eq_true rfl) (Nat.le_of_ble_eq_true rfl) (Nat.le_of_ble_eq_true rfl) (Nat.le_of_ble_eq_true rfl) dX0_countWays_28 ?_
  refine lv_topi (fun v_27 ev_27 => ?_)
  subst ev_27
  refine lv_topi (fun y_28 ey_28 => ?_)
  obtain rfl : y_28 = zCh cr inn k1 3 := ey_28
  refine z_ist C G 1 rfl (vp_in_nI (n := 3) (by decide) (by decide)) dX0_countWays_31 (fun H locs G => ?_)
  have G : zS T A s.heap s [[zO0 h md (zWyN cr inn k1 3) o pc_ a1_1 a2_2 a3_3 a4_4 a5_5 a6_6], [zAr T 0 a1_1 7 (upd (upd (upd (upd f1 6 (zCh cr inn k1 6)) 5 (zCh cr inn k1 5)) 4 (zCh cr inn k1 4)) 3 (zCh cr inn k1 3))], [zAr T 0 a2_2 7 (upd (upd (upd f2 6 1) 5 (zWyN cr inn k1 1)) 4 (zWyN cr inn k1 2))], [zAr T 0 a3_3 7 f3], [zAr T 0 a4_4 n4 f4], [zAr T 0 a5_5 n4 f5], [zAr T 0 a6_6 n4 f6], z] _ _ := G
  refine lv_aload_n hx hb dX0_countWays_32 rfl (lv_at hl 1 rfl) ?_
  refine z_get C G clX0 0 rfl 5 (by decide) m_fl_RX0_22 rfl dX0_countWays_33 ?_
  refine lv_iload_n hx hb dX0_countWays_36 rfl (lv_at hl 0 rfl) ?_
  refine lv_aload_n hx hb dX0_countWays_37 rfl (lv_at hl 1 rfl) ?_
  refine z_get C G clX0 0 rfl 1 (by decide) m_fl_RX0_57 rfl dX0_countWays_38 ?_
  refine z_ist C G 2 rfl (vp_in_nI (n := 3) (by decide) (by decide)) dX0_countWays_41 (fun H locs G => ?_)
  have G : zS T A s.heap s [[zO0 h md (zWyN cr inn k1 3) o pc_ a1_1 a2_2 a3_3 a4_4 a5_5 a6_6], [zAr T 0 a1_1 7 (upd (upd (upd (upd f1 6 (zCh cr inn k1 6)) 5 (zCh cr inn k1 5)) 4 (zCh cr inn k1 4)) 3 (zCh cr inn k1 3))], [zAr T 0 a2_2 7 (upd (upd (upd (upd f2 6 1) 5 (zWyN cr inn k1 1)) 4 (zWyN cr inn k1 2)) 3 (zWyN cr inn k1 3))], [zAr T 0 a3_3 7 f3], [zAr T 0 a4_4 n4 f4], [zAr T 0 a5_5 n4 f5], [zAr T 0 a6_6 n4 f6], z] _ _ := G
  refine lv_aload_n hx hb dX0_countWays_42 rfl (lv_at hl 1 rfl) ?_
  refine lv_dup hx hb dX0_countWays_43 rfl ?_
  refine z_get C G clX0 0 rfl 1 (by decide) m_fl_RX0_57 rfl dX0_countWays_44 ?_
  refine lv_aload_n hx hb dX0_countWays_47 rfl (lv_at hl 1 rfl) ?_
  refine z_get C G clX0 0 rfl 4 (by decide) m_fl_RX0_18 rfl dX0_countWays_48 ?_
  refine lv_iload_n hx hb dX0_countWays_51 rfl (lv_at hl 0 rfl) ?_
  refine z_ild C G 1 rfl (vp_in_nI (n := 3) (by decide) (by decide)) dX0_countWays_52 ?_
  refine lv_topi (fun v_29 ev_29 => ?_)
  have ev_29 : v_29 = zCh cr inn k1 3 := ev_29
  subst ev_29
  refine lv_imul hx hb dX0_countWays_53 ?_
  refine lv_topi (fun y_30 ey_30 => ?_)
  obtain rfl : y_30 = zWyN cr inn k1 4 := ey_30
  refine z_put C G clX0 0 rfl 1 (by decide) m_fl_RX0_57 rfl rfl rfl (Nat.le_of_ble_eq_true rfl) dX0_countWays_54 (fun H locs G => ?_)
  have G : zS T A s.heap s [[zO0 h md (zWyN cr inn k1 4) o pc_ a1_1 a2_2 a3_3 a4_4 a5_5 a6_6], [zAr T 0 a1_1 7 (upd (upd (upd (upd f1 6 (zCh cr inn k1 6)) 5 (zCh cr inn k1 5)) 4 (zCh cr inn k1 4)) 3 (zCh cr inn k1 3))], [zAr T 0 a2_2 7 (upd (upd (upd (upd f2 6 1) 5 (zWyN cr inn k1 1)) 4 (zWyN cr inn k1 2)) 3 (zWyN cr inn k1 3))], [zAr T 0 a3_3 7 f3], [zAr T 0 a4_4 n4 f4], [zAr T 0 a5_5 n4 f5], [zAr T 0 a6_6 n4 f6], z] _ _ := G
  refine lv_iinc (v := 2) (lv' := [(2, .int 2), (0, .ref h), (1, .ref o)]) hx hb dX0_countWays_57 hl (k := 0) rfl (by decide) (by decide) (zLvf_h rfl) (fun ls hl => ?_)
  refine lv_goto (tgt := 13) hx hb dX0_countWays_60 (by decide) ?_
  refine lv_iload_n hx hb dX0_countWays_13 rfl (lv_at hl 0 rfl) ?_
  refine lv_if_lt (tgt := 63) hx hb dX0_countWays_14 (by decide) (fun q => absurd q (by decide)) (fun _ => ?_)
  refine lv_aload_n hx hb dX0_countWays_17 rfl (lv_at hl 1 rfl) ?_
  refine z_get C G clX0 0 rfl 4 (by decide) m_fl_RX0_18 rfl dX0_countWays_18 ?_
  refine lv_iload_n hx hb dX0_countWays_21 rfl (lv_at hl 0 rfl) ?_
  refine lv_aload_n hx hb dX0_countWays_22 rfl (lv_at hl 2 rfl) ?_
  refine lv_iload_n hx hb dX0_countWays_23 rfl (lv_at hl 0 rfl) ?_
  refine z_Vi (bc := [z]) (br := [[zO0 h md (zWyN cr inn k1 4) o pc_ a1_1 a2_2 a3_3 a4_4 a5_5 a6_6], [zAr T 0 a1_1 7 (upd (upd (upd (upd f1 6 (zCh cr inn k1 6)) 5 (zCh cr inn k1 5)) 4 (zCh cr inn k1 4)) 3 (zCh cr inn k1 3))], [zAr T 0 a2_2 7 (upd (upd (upd (upd f2 6 1) 5 (zWyN cr inn k1 1)) 4 (zWyN cr inn k1 2)) 3 (zWyN cr inn k1 3))], [zAr T 0 a3_3 7 f3], [zAr T 0 a4_4 n4 f4], [zAr T 0 a5_5 n4 f5], [zAr T 0 a6_6 n4 f6]]) (As := [.int 2]) (rest := [.int 2, .ref a1_1]) C G (c_waysOut l T o cr inn k1 k2 k3 k4 z 2 hz) (kV_RX0_61 C.2.2.2.2 (Nat.le_of_ble_eq_true rfl) (Nat.le_of_ble_eq_true rfl)) [7] [7] rfl rfl (ci := 4) (qc := (RX4, TX4, 6)) rfl rfl (List.mem_flatten.mpr ⟨_, List.mem_of_getElem? (i := 0) rfl, (bLand_mem hz).choose_spec⟩) rfl rfl hl.1 dX0_countWays_24 (Nat.le_of_ble_eq_true rfl) (Nat.le_of_ble_eq_true rfl) (fun r_32 b1 H locs hw G => ?_)
  refine zAn2 hw ?_
  intro hbs9 h_31
  clear hw
  subst hbs9
  have G : zS T A s.heap s [[zO0 h md (zWyN cr inn k1 4) o pc_ a1_1 a2_2 a3_3 a4_4 a5_5 a6_6], [zAr T 0 a1_1 7 (upd (upd (upd (upd f1 6 (zCh cr inn k1 6)) 5 (zCh cr inn k1 5)) 4 (zCh cr inn k1 4)) 3 (zCh cr inn k1 3))], [zAr T 0 a2_2 7 (upd (upd (upd (upd f2 6 1) 5 (zWyN cr inn k1 1)) 4 (zWyN cr inn k1 2)) 3 (zWyN cr inn k1 3))], [zAr T 0 a3_3 7 f3], [zAr T 0 a4_4 n4 f4], [zAr T 0 a5_5 n4 f5], [zAr T 0 a6_6 n4 f6], z] _ _ := G
  subst h_31
  refine lv_iconst (v := 1) hx hb dX0_countWays_27 (by decide) ?_
  refine va_mmax hx hb (C.2.2.1.trans hl.1.symm) C.2.2.2.1 (C.2.2.2.2 _ m_ml_RX0_65) (C.2.2.2.2 _ m_st_math_max) (C.2.2.2.2 _ m_ii_math) (C.2.2.2.2 _ m_co_math_max) (Nat.le_of_ble_eq_true rfl) (Nat.le_of_ble_eq_true rfl) (Nat.le_of_ble_eq_true rfl) (Nat.le_of_ble_eq_true rfl) dX0_countWays_28 ?_
  refine lv_topi (fun v_33 ev_33 => ?_)
  subst ev_33
  refine lv_topi (fun y_34 ey_34 => ?_)
  obtain rfl : y_34 = zCh cr inn k1 2 := ey_34
  refine z_ist C G 1 rfl (vp_in_nI (n := 2) (by decide) (by decide)) dX0_countWays_31 (fun H locs G => ?_)
  have G : zS T A s.heap s [[zO0 h md (zWyN cr inn k1 4) o pc_ a1_1 a2_2 a3_3 a4_4 a5_5 a6_6], [zAr T 0 a1_1 7 (upd (upd (upd (upd (upd f1 6 (zCh cr inn k1 6)) 5 (zCh cr inn k1 5)) 4 (zCh cr inn k1 4)) 3 (zCh cr inn k1 3)) 2 (zCh cr inn k1 2))], [zAr T 0 a2_2 7 (upd (upd (upd (upd f2 6 1) 5 (zWyN cr inn k1 1)) 4 (zWyN cr inn k1 2)) 3 (zWyN cr inn k1 3))], [zAr T 0 a3_3 7 f3], [zAr T 0 a4_4 n4 f4], [zAr T 0 a5_5 n4 f5], [zAr T 0 a6_6 n4 f6], z] _ _ := G
  refine lv_aload_n hx hb dX0_countWays_32 rfl (lv_at hl 1 rfl) ?_
  refine z_get C G clX0 0 rfl 5 (by decide) m_fl_RX0_22 rfl dX0_countWays_33 ?_
  refine lv_iload_n hx hb dX0_countWays_36 rfl (lv_at hl 0 rfl) ?_
  refine lv_aload_n hx hb dX0_countWays_37 rfl (lv_at hl 1 rfl) ?_
  refine z_get C G clX0 0 rfl 1 (by decide) m_fl_RX0_57 rfl dX0_countWays_38 ?_
  refine z_ist C G 2 rfl (vp_in_nI (n := 2) (by decide) (by decide)) dX0_countWays_41 (fun H locs G => ?_)
  have G : zS T A s.heap s [[zO0 h md (zWyN cr inn k1 4) o pc_ a1_1 a2_2 a3_3 a4_4 a5_5 a6_6], [zAr T 0 a1_1 7 (upd (upd (upd (upd (upd f1 6 (zCh cr inn k1 6)) 5 (zCh cr inn k1 5)) 4 (zCh cr inn k1 4)) 3 (zCh cr inn k1 3)) 2 (zCh cr inn k1 2))], [zAr T 0 a2_2 7 (upd (upd (upd (upd (upd f2 6 1) 5 (zWyN cr inn k1 1)) 4 (zWyN cr inn k1 2)) 3 (zWyN cr inn k1 3)) 2 (zWyN cr inn k1 4))], [zAr T 0 a3_3 7 f3], [zAr T 0 a4_4 n4 f4], [zAr T 0 a5_5 n4 f5], [zAr T 0 a6_6 n4 f6], z] _ _ := G
  refine lv_aload_n hx hb dX0_countWays_42 rfl (lv_at hl 1 rfl) ?_
  refine lv_dup hx hb dX0_countWays_43 rfl ?_
  refine z_get C G clX0 0 rfl 1 (by decide) m_fl_RX0_57 rfl dX0_countWays_44 ?_
  refine lv_aload_n hx hb dX0_countWays_47 rfl (lv_at hl 1 rfl) ?_
  refine z_get C G clX0 0 rfl 4 (by decide) m_fl_RX0_18 rfl dX0_countWays_48 ?_
  refine lv_iload_n hx hb dX0_countWays_51 rfl (lv_at hl 0 rfl) ?_
  refine z_ild C G 1 rfl (vp_in_nI (n := 2) (by decide) (by decide)) dX0_countWays_52 ?_
  refine lv_topi (fun v_35 ev_35 => ?_)
  have ev_35 : v_35 = zCh cr inn k1 2 := ev_35
  subst ev_35
  refine lv_imul hx hb dX0_countWays_53 ?_
  refine lv_topi (fun y_36 ey_36 => ?_)
  obtain rfl : y_36 = zWyN cr inn k1 5 := ey_36
  refine z_put C G clX0 0 rfl 1 (by decide) m_fl_RX0_57 rfl rfl rfl (Nat.le_of_ble_eq_true rfl) dX0_countWays_54 (fun H locs G => ?_)
  have G : zS T A s.heap s [[zO0 h md (zWyN cr inn k1 5) o pc_ a1_1 a2_2 a3_3 a4_4 a5_5 a6_6], [zAr T 0 a1_1 7 (upd (upd (upd (upd (upd f1 6 (zCh cr inn k1 6)) 5 (zCh cr inn k1 5)) 4 (zCh cr inn k1 4)) 3 (zCh cr inn k1 3)) 2 (zCh cr inn k1 2))], [zAr T 0 a2_2 7 (upd (upd (upd (upd (upd f2 6 1) 5 (zWyN cr inn k1 1)) 4 (zWyN cr inn k1 2)) 3 (zWyN cr inn k1 3)) 2 (zWyN cr inn k1 4))], [zAr T 0 a3_3 7 f3], [zAr T 0 a4_4 n4 f4], [zAr T 0 a5_5 n4 f5], [zAr T 0 a6_6 n4 f6], z] _ _ := G
  refine lv_iinc (v := 1) (lv' := [(2, .int 1), (0, .ref h), (1, .ref o)]) hx hb dX0_countWays_57 hl (k := 0) rfl (by decide) (by decide) (zLvf_h rfl) (fun ls hl => ?_)
  refine lv_goto (tgt := 13) hx hb dX0_countWays_60 (by decide) ?_
  refine lv_iload_n hx hb dX0_countWays_13 rfl (lv_at hl 0 rfl) ?_
  refine lv_if_lt (tgt := 63) hx hb dX0_countWays_14 (by decide) (fun q => absurd q (by decide)) (fun _ => ?_)
  refine lv_aload_n hx hb dX0_countWays_17 rfl (lv_at hl 1 rfl) ?_
  refine z_get C G clX0 0 rfl 4 (by decide) m_fl_RX0_18 rfl dX0_countWays_18 ?_
  refine lv_iload_n hx hb dX0_countWays_21 rfl (lv_at hl 0 rfl) ?_
  refine lv_aload_n hx hb dX0_countWays_22 rfl (lv_at hl 2 rfl) ?_
  refine lv_iload_n hx hb dX0_countWays_23 rfl (lv_at hl 0 rfl) ?_
  refine z_Vi (bc := [z]) (br := [[zO0 h md (zWyN cr inn k1 5) o pc_ a1_1 a2_2 a3_3 a4_4 a5_5 a6_6], [zAr T 0 a1_1 7 (upd (upd (upd (upd (upd f1 6 (zCh cr inn k1 6)) 5 (zCh cr inn k1 5)) 4 (zCh cr inn k1 4)) 3 (zCh cr inn k1 3)) 2 (zCh cr inn k1 2))], [zAr T 0 a2_2 7 (upd (upd (upd (upd (upd f2 6 1) 5 (zWyN cr inn k1 1)) 4 (zWyN cr inn k1 2)) 3 (zWyN cr inn k1 3)) 2 (zWyN cr inn k1 4))], [zAr T 0 a3_3 7 f3], [zAr T 0 a4_4 n4 f4], [zAr T 0 a5_5 n4 f5], [zAr T 0 a6_6 n4 f6]]) (As := [.int 1]) (rest := [.int 1, .ref a1_1]) C G (c_waysOut l T o cr inn k1 k2 k3 k4 z 1 hz) (kV_RX0_61 C.2.2.2.2 (Nat.le_of_ble_eq_true rfl) (Nat.le_of_ble_eq_true rfl)) [7] [7] rfl rfl (ci := 4) (qc := (RX4, TX4, 6)) rfl rfl (List.mem_flatten.mpr ⟨_, List.mem_of_getElem? (i := 0) rfl, (bLand_mem hz).choose_spec⟩) rfl rfl hl.1 dX0_countWays_24 (Nat.le_of_ble_eq_true rfl) (Nat.le_of_ble_eq_true rfl) (fun r_38 b1 H locs hw G => ?_)
  refine zAn2 hw ?_
  intro hbs9 h_37
  clear hw
  subst hbs9
  have G : zS T A s.heap s [[zO0 h md (zWyN cr inn k1 5) o pc_ a1_1 a2_2 a3_3 a4_4 a5_5 a6_6], [zAr T 0 a1_1 7 (upd (upd (upd (upd (upd f1 6 (zCh cr inn k1 6)) 5 (zCh cr inn k1 5)) 4 (zCh cr inn k1 4)) 3 (zCh cr inn k1 3)) 2 (zCh cr inn k1 2))], [zAr T 0 a2_2 7 (upd (upd (upd (upd (upd f2 6 1) 5 (zWyN cr inn k1 1)) 4 (zWyN cr inn k1 2)) 3 (zWyN cr inn k1 3)) 2 (zWyN cr inn k1 4))], [zAr T 0 a3_3 7 f3], [zAr T 0 a4_4 n4 f4], [zAr T 0 a5_5 n4 f5], [zAr T 0 a6_6 n4 f6], z] _ _ := G
  subst h_37
  refine lv_iconst (v := 1) hx hb dX0_countWays_27 (by decide) ?_
  refine va_mmax hx hb (C.2.2.1.trans hl.1.symm) C.2.2.2.1 (C.2.2.2.2 _ m_ml_RX0_65) (C.2.2.2.2 _ m_st_math_max) (C.2.2.2.2 _ m_ii_math) (C.2.2.2.2 _ m_co_math_max) (Nat.le_of_ble_eq_true rfl) (Nat.le_of_ble_eq_true rfl) (Nat.le_of_ble_eq_true rfl) (Nat.le_of_ble_eq_true rfl) dX0_countWays_28 ?_
  refine lv_topi (fun v_39 ev_39 => ?_)
  subst ev_39
  refine lv_topi (fun y_40 ey_40 => ?_)
  obtain rfl : y_40 = zCh cr inn k1 1 := ey_40
  refine z_ist C G 1 rfl (vp_in_nI (n := 1) (by decide) (by decide)) dX0_countWays_31 (fun H locs G => ?_)
  have G : zS T A s.heap s [[zO0 h md (zWyN cr inn k1 5) o pc_ a1_1 a2_2 a3_3 a4_4 a5_5 a6_6], [zAr T 0 a1_1 7 (upd (upd (upd (upd (upd (upd f1 6 (zCh cr inn k1 6)) 5 (zCh cr inn k1 5)) 4 (zCh cr inn k1 4)) 3 (zCh cr inn k1 3)) 2 (zCh cr inn k1 2)) 1 (zCh cr inn k1 1))], [zAr T 0 a2_2 7 (upd (upd (upd (upd (upd f2 6 1) 5 (zWyN cr inn k1 1)) 4 (zWyN cr inn k1 2)) 3 (zWyN cr inn k1 3)) 2 (zWyN cr inn k1 4))], [zAr T 0 a3_3 7 f3], [zAr T 0 a4_4 n4 f4], [zAr T 0 a5_5 n4 f5], [zAr T 0 a6_6 n4 f6], z] _ _ := G
  refine lv_aload_n hx hb dX0_countWays_32 rfl (lv_at hl 1 rfl) ?_
  refine z_get C G clX0 0 rfl 5 (by decide) m_fl_RX0_22 rfl dX0_countWays_33 ?_
  refine lv_iload_n hx hb dX0_countWays_36 rfl (lv_at hl 0 rfl) ?_
  refine lv_aload_n hx hb dX0_countWays_37 rfl (lv_at hl 1 rfl) ?_
  refine z_get C G clX0 0 rfl 1 (by decide) m_fl_RX0_57 rfl dX0_countWays_38 ?_
  refine z_ist C G 2 rfl (vp_in_nI (n := 1) (by decide) (by decide)) dX0_countWays_41 (fun H locs G => ?_)
  have G : zS T A s.heap s [[zO0 h md (zWyN cr inn k1 5) o pc_ a1_1 a2_2 a3_3 a4_4 a5_5 a6_6], [zAr T 0 a1_1 7 (upd (upd (upd (upd (upd (upd f1 6 (zCh cr inn k1 6)) 5 (zCh cr inn k1 5)) 4 (zCh cr inn k1 4)) 3 (zCh cr inn k1 3)) 2 (zCh cr inn k1 2)) 1 (zCh cr inn k1 1))], [zAr T 0 a2_2 7 (upd (upd (upd (upd (upd (upd f2 6 1) 5 (zWyN cr inn k1 1)) 4 (zWyN cr inn k1 2)) 3 (zWyN cr inn k1 3)) 2 (zWyN cr inn k1 4)) 1 (zWyN cr inn k1 5))], [zAr T 0 a3_3 7 f3], [zAr T 0 a4_4 n4 f4], [zAr T 0 a5_5 n4 f5], [zAr T 0 a6_6 n4 f6], z] _ _ := G
  refine lv_aload_n hx hb dX0_countWays_42 rfl (lv_at hl 1 rfl) ?_
  refine lv_dup hx hb dX0_countWays_43 rfl ?_
  refine z_get C G clX0 0 rfl 1 (by decide) m_fl_RX0_57 rfl dX0_countWays_44 ?_
  refine lv_aload_n hx hb dX0_countWays_47 rfl (lv_at hl 1 rfl) ?_
  refine z_get C G clX0 0 rfl 4 (by decide) m_fl_RX0_18 rfl dX0_countWays_48 ?_
  refine lv_iload_n hx hb dX0_countWays_51 rfl (lv_at hl 0 rfl) ?_
  refine z_ild C G 1 rfl (vp_in_nI (n := 1) (by decide) (by decide)) dX0_countWays_52 ?_
  refine lv_topi (fun v_41 ev_41 => ?_)
  have ev_41 : v_41 = zCh cr inn k1 1 := ev_41
  subst ev_41
  refine lv_imul hx hb dX0_countWays_53 ?_
  refine lv_topi (fun y_42 ey_42 => ?_)
  obtain rfl : y_42 = zWyN cr inn k1 6 := ey_42
  refine z_put C G clX0 0 rfl 1 (by decide) m_fl_RX0_57 rfl rfl rfl (Nat.le_of_ble_eq_true rfl) dX0_countWays_54 (fun H locs G => ?_)
  have G : zS T A s.heap s [[zO0 h md (zWyN cr inn k1 6) o pc_ a1_1 a2_2 a3_3 a4_4 a5_5 a6_6], [zAr T 0 a1_1 7 (upd (upd (upd (upd (upd (upd f1 6 (zCh cr inn k1 6)) 5 (zCh cr inn k1 5)) 4 (zCh cr inn k1 4)) 3 (zCh cr inn k1 3)) 2 (zCh cr inn k1 2)) 1 (zCh cr inn k1 1))], [zAr T 0 a2_2 7 (upd (upd (upd (upd (upd (upd f2 6 1) 5 (zWyN cr inn k1 1)) 4 (zWyN cr inn k1 2)) 3 (zWyN cr inn k1 3)) 2 (zWyN cr inn k1 4)) 1 (zWyN cr inn k1 5))], [zAr T 0 a3_3 7 f3], [zAr T 0 a4_4 n4 f4], [zAr T 0 a5_5 n4 f5], [zAr T 0 a6_6 n4 f6], z] _ _ := G
  refine lv_iinc (v := 0) (lv' := [(2, .int 0), (0, .ref h), (1, .ref o)]) hx hb dX0_countWays_57 hl (k := 0) rfl (by decide) (by decide) (zLvf_h rfl) (fun ls hl => ?_)
  refine lv_goto (tgt := 13) hx hb dX0_countWays_60 (by decide) ?_
  refine lv_iload_n hx hb dX0_countWays_13 rfl (lv_at hl 0 rfl) ?_
  refine lv_if_lt (tgt := 63) hx hb dX0_countWays_14 (by decide) (fun q => absurd q (by decide)) (fun _ => ?_)
  refine lv_aload_n hx hb dX0_countWays_17 rfl (lv_at hl 1 rfl) ?_
  refine z_get C G clX0 0 rfl 4 (by decide) m_fl_RX0_18 rfl dX0_countWays_18 ?_
  refine lv_iload_n hx hb dX0_countWays_21 rfl (lv_at hl 0 rfl) ?_
  refine lv_aload_n hx hb dX0_countWays_22 rfl (lv_at hl 2 rfl) ?_
  refine lv_iload_n hx hb dX0_countWays_23 rfl (lv_at hl 0 rfl) ?_
  refine z_Vi (bc := [z]) (br := [[zO0 h md (zWyN cr inn k1 6) o pc_ a1_1 a2_2 a3_3 a4_4 a5_5 a6_6], [zAr T 0 a1_1 7 (upd (upd (upd (upd (upd (upd f1 6 (zCh cr inn k1 6)) 5 (zCh cr inn k1 5)) 4 (zCh cr inn k1 4)) 3 (zCh cr inn k1 3)) 2 (zCh cr inn k1 2)) 1 (zCh cr inn k1 1))], [zAr T 0 a2_2 7 (upd (upd (upd (upd (upd (upd f2 6 1) 5 (zWyN cr inn k1 1)) 4 (zWyN cr inn k1 2)) 3 (zWyN cr inn k1 3)) 2 (zWyN cr inn k1 4)) 1 (zWyN cr inn k1 5))], [zAr T 0 a3_3 7 f3], [zAr T 0 a4_4 n4 f4], [zAr T 0 a5_5 n4 f5], [zAr T 0 a6_6 n4 f6]]) (As := [.int 0]) (rest := [.int 0, .ref a1_1]) C G (c_waysOut l T o cr inn k1 k2 k3 k4 z 0 hz) (kV_RX0_61 C.2.2.2.2 (Nat.le_of_ble_eq_true rfl) (Nat.le_of_ble_eq_true rfl)) [7] [7] rfl rfl (ci := 4) (qc := (RX4, TX4, 6)) rfl rfl (List.mem_flatten.mpr ⟨_, List.mem_of_getElem? (i := 0) rfl, (bLand_mem hz).choose_spec⟩) rfl rfl hl.1 dX0_countWays_24 (Nat.le_of_ble_eq_true rfl) (Nat.le_of_ble_eq_true rfl) (fun r_44 b1 H locs hw G => ?_)
  refine zAn2 hw ?_
  intro hbs9 h_43
  clear hw
  subst hbs9
  have G : zS T A s.heap s [[zO0 h md (zWyN cr inn k1 6) o pc_ a1_1 a2_2 a3_3 a4_4 a5_5 a6_6], [zAr T 0 a1_1 7 (upd (upd (upd (upd (upd (upd f1 6 (zCh cr inn k1 6)) 5 (zCh cr inn k1 5)) 4 (zCh cr inn k1 4)) 3 (zCh cr inn k1 3)) 2 (zCh cr inn k1 2)) 1 (zCh cr inn k1 1))], [zAr T 0 a2_2 7 (upd (upd (upd (upd (upd (upd f2 6 1) 5 (zWyN cr inn k1 1)) 4 (zWyN cr inn k1 2)) 3 (zWyN cr inn k1 3)) 2 (zWyN cr inn k1 4)) 1 (zWyN cr inn k1 5))], [zAr T 0 a3_3 7 f3], [zAr T 0 a4_4 n4 f4], [zAr T 0 a5_5 n4 f5], [zAr T 0 a6_6 n4 f6], z] _ _ := G
  subst h_43
  refine lv_iconst (v := 1) hx hb dX0_countWays_27 (by decide) ?_
  refine va_mmax hx hb (C.2.2.1.trans hl.1.symm) C.2.2.2.1 (C.2.2.2.2 _ m_ml_RX0_65) (C.2.2.2.2 _ m_st_math_max) (C.2.2.2.2 _ m_ii_math) (C.2.2.2.2 _ m_co_math_max) (Nat.le_of_ble_eq_true rfl) (Nat.le_of_ble_eq_true rfl) (Nat.le_of_ble_eq_true rfl) (Nat.le_of_ble_eq_true rfl) dX0_countWays_28 ?_
  refine lv_topi (fun v_45 ev_45 => ?_)
  subst ev_45
  refine lv_topi (fun y_46 ey_46 => ?_)
  obtain rfl : y_46 = zCh cr inn k1 0 := ey_46
  refine z_ist C G 1 rfl (vp_in_nI (n := 0) (by decide) (by decide)) dX0_countWays_31 (fun H locs G => ?_)
  have G : zS T A s.heap s [[zO0 h md (zWyN cr inn k1 6) o pc_ a1_1 a2_2 a3_3 a4_4 a5_5 a6_6], [zAr T 0 a1_1 7 (upd (upd (upd (upd (upd (upd (upd f1 6 (zCh cr inn k1 6)) 5 (zCh cr inn k1 5)) 4 (zCh cr inn k1 4)) 3 (zCh cr inn k1 3)) 2 (zCh cr inn k1 2)) 1 (zCh cr inn k1 1)) 0 (zCh cr inn k1 0))], [zAr T 0 a2_2 7 (upd (upd (upd (upd (upd (upd f2 6 1) 5 (zWyN cr inn k1 1)) 4 (zWyN cr inn k1 2)) 3 (zWyN cr inn k1 3)) 2 (zWyN cr inn k1 4)) 1 (zWyN cr inn k1 5))], [zAr T 0 a3_3 7 f3], [zAr T 0 a4_4 n4 f4], [zAr T 0 a5_5 n4 f5], [zAr T 0 a6_6 n4 f6], z] _ _ := G
  refine lv_aload_n hx hb dX0_countWays_32 rfl (lv_at hl 1 rfl) ?_
  refine z_get C G clX0 0 rfl 5 (by decide) m_fl_RX0_22 rfl dX0_countWays_33 ?_
  refine lv_iload_n hx hb dX0_countWays_36 rfl (lv_at hl 0 rfl) ?_
  refine lv_aload_n hx hb dX0_countWays_37 rfl (lv_at hl 1 rfl) ?_
  refine z_get C G clX0 0 rfl 1 (by decide) m_fl_RX0_57 rfl dX0_countWays_38 ?_
  refine z_ist C G 2 rfl (vp_in_nI (n := 0) (by decide) (by decide)) dX0_countWays_41 (fun H locs G => ?_)
  have G : zS T A s.heap s [[zO0 h md (zWyN cr inn k1 6) o pc_ a1_1 a2_2 a3_3 a4_4 a5_5 a6_6], [zAr T 0 a1_1 7 (upd (upd (upd (upd (upd (upd (upd f1 6 (zCh cr inn k1 6)) 5 (zCh cr inn k1 5)) 4 (zCh cr inn k1 4)) 3 (zCh cr inn k1 3)) 2 (zCh cr inn k1 2)) 1 (zCh cr inn k1 1)) 0 (zCh cr inn k1 0))], [zAr T 0 a2_2 7 (upd (upd (upd (upd (upd (upd (upd f2 6 1) 5 (zWyN cr inn k1 1)) 4 (zWyN cr inn k1 2)) 3 (zWyN cr inn k1 3)) 2 (zWyN cr inn k1 4)) 1 (zWyN cr inn k1 5)) 0 (zWyN cr inn k1 6))], [zAr T 0 a3_3 7 f3], [zAr T 0 a4_4 n4 f4], [zAr T 0 a5_5 n4 f5], [zAr T 0 a6_6 n4 f6], z] _ _ := G
  refine lv_aload_n hx hb dX0_countWays_42 rfl (lv_at hl 1 rfl) ?_
  refine lv_dup hx hb dX0_countWays_43 rfl ?_
  refine z_get C G clX0 0 rfl 1 (by decide) m_fl_RX0_57 rfl dX0_countWays_44 ?_
  refine lv_aload_n hx hb dX0_countWays_47 rfl (lv_at hl 1 rfl) ?_
  refine z_get C G clX0 0 rfl 4 (by decide) m_fl_RX0_18 rfl dX0_countWays_48 ?_
  refine lv_iload_n hx hb dX0_countWays_51 rfl (lv_at hl 0 rfl) ?_
  refine z_ild C G 1 rfl (vp_in_nI (n := 0) (by decide) (by decide)) dX0_countWays_52 ?_
  refine lv_topi (fun v_47 ev_47 => ?_)
  have ev_47 : v_47 = zCh cr inn k1 0 := ev_47
  subst ev_47
  refine lv_imul hx hb dX0_countWays_53 ?_
  refine lv_topi (fun y_48 ey_48 => ?_)
  obtain rfl : y_48 = zWyN cr inn k1 7 := ey_48
  refine z_put C G clX0 0 rfl 1 (by decide) m_fl_RX0_57 rfl rfl rfl (Nat.le_of_ble_eq_true rfl) dX0_countWays_54 (fun H locs G => ?_)
  have G : zS T A s.heap s [[zO0 h md (zWyN cr inn k1 7) o pc_ a1_1 a2_2 a3_3 a4_4 a5_5 a6_6], [zAr T 0 a1_1 7 (upd (upd (upd (upd (upd (upd (upd f1 6 (zCh cr inn k1 6)) 5 (zCh cr inn k1 5)) 4 (zCh cr inn k1 4)) 3 (zCh cr inn k1 3)) 2 (zCh cr inn k1 2)) 1 (zCh cr inn k1 1)) 0 (zCh cr inn k1 0))], [zAr T 0 a2_2 7 (upd (upd (upd (upd (upd (upd (upd f2 6 1) 5 (zWyN cr inn k1 1)) 4 (zWyN cr inn k1 2)) 3 (zWyN cr inn k1 3)) 2 (zWyN cr inn k1 4)) 1 (zWyN cr inn k1 5)) 0 (zWyN cr inn k1 6))], [zAr T 0 a3_3 7 f3], [zAr T 0 a4_4 n4 f4], [zAr T 0 a5_5 n4 f5], [zAr T 0 a6_6 n4 f6], z] _ _ := G
  refine lv_iinc (v := (-1)) (lv' := [(2, .int (-1)), (0, .ref h), (1, .ref o)]) hx hb dX0_countWays_57 hl (k := 0) rfl (by decide) (by decide) (zLvf_h rfl) (fun ls hl => ?_)
  refine lv_goto (tgt := 13) hx hb dX0_countWays_60 (by decide) ?_
  refine lv_iload_n hx hb dX0_countWays_13 rfl (lv_at hl 0 rfl) ?_
  refine lv_if_lt (tgt := 63) hx hb dX0_countWays_14 (by decide) (fun _ => ?_) (fun q => absurd (by decide) q)
  refine lv_aload_n hx hb dX0_countWays_63 rfl (lv_at hl 1 rfl) ?_
  refine lv_aload_n hx hb dX0_countWays_64 rfl (lv_at hl 1 rfl) ?_
  refine z_get C G clX0 0 rfl 1 (by decide) m_fl_RX0_57 rfl dX0_countWays_65 ?_
  refine lv_iconst (v := 3) hx hb dX0_countWays_68 (by decide) ?_
  refine lv_ishl hx hb dX0_countWays_69 ?_
  refine lv_ldc (v := 131072) hx hb C.2.2.2.1 (C.2.2.2.2 _ m_ko_RX0_71) dX0_countWays_70 ?_
  refine va_mmin hx hb (C.2.2.1.trans hl.1.symm) C.2.2.2.1 (C.2.2.2.2 _ m_ml_RX0_72) (C.2.2.2.2 _ m_st_math_min) (C.2.2.2.2 _ m_ii_math) (C.2.2.2.2 _ m_co_math_min) (Nat.le_of_ble_eq_true rfl) (Nat.le_of_ble_eq_true rfl) (Nat.le_of_ble_eq_true rfl) (Nat.le_of_ble_eq_true rfl) dX0_countWays_72 ?_
  refine lv_topi (fun v_49 ev_49 => ?_)
  subst ev_49
  refine lv_topi (fun y_50 ey_50 => ?_)
  obtain rfl : y_50 = zPl cr inn k1 := ey_50
  refine z_put C G clX0 0 rfl 3 (by decide) m_fl_RX0_75 rfl rfl rfl (Nat.le_of_ble_eq_true rfl) dX0_countWays_75 (fun H locs G => ?_)
  have G : zS T A s.heap s [[zO0 h md (zWyN cr inn k1 7) o (zPl cr inn k1) a1_1 a2_2 a3_3 a4_4 a5_5 a6_6], [zAr T 0 a1_1 7 (upd (upd (upd (upd (upd (upd (upd f1 6 (zCh cr inn k1 6)) 5 (zCh cr inn k1 5)) 4 (zCh cr inn k1 4)) 3 (zCh cr inn k1 3)) 2 (zCh cr inn k1 2)) 1 (zCh cr inn k1 1)) 0 (zCh cr inn k1 0))], [zAr T 0 a2_2 7 (upd (upd (upd (upd (upd (upd (upd f2 6 1) 5 (zWyN cr inn k1 1)) 4 (zWyN cr inn k1 2)) 3 (zWyN cr inn k1 3)) 2 (zWyN cr inn k1 4)) 1 (zWyN cr inn k1 5)) 0 (zWyN cr inn k1 6))], [zAr T 0 a3_3 7 f3], [zAr T 0 a4_4 n4 f4], [zAr T 0 a5_5 n4 f5], [zAr T 0 a6_6 n4 f6], z] _ _ := G
  have hw_51 : bWays T h o md (zWyN cr inn k1 7) (zPl cr inn k1) (upd (upd (upd (upd (upd (upd (upd f1 6 (zCh cr inn k1 6)) 5 (zCh cr inn k1 5)) 4 (zCh cr inn k1 4)) 3 (zCh cr inn k1 3)) 2 (zCh cr inn k1 2)) 1 (zCh cr inn k1 1)) 0 (zCh cr inn k1 0)) (upd (upd (upd (upd (upd (upd (upd f2 6 1) 5 (zWyN cr inn k1 1)) 4 (zWyN cr inn k1 2)) 3 (zWyN cr inn k1 3)) 2 (zWyN cr inn k1 4)) 1 (zWyN cr inn k1 5)) 0 (zWyN cr inn k1 6)) f3 f4 f5 f6 n4 [zO0 h md (zWyN cr inn k1 7) o (zPl cr inn k1) a1_1 a2_2 a3_3 a4_4 a5_5 a6_6, zAr T 0 a1_1 7 (upd (upd (upd (upd (upd (upd (upd f1 6 (zCh cr inn k1 6)) 5 (zCh cr inn k1 5)) 4 (zCh cr inn k1 4)) 3 (zCh cr inn k1 3)) 2 (zCh cr inn k1 2)) 1 (zCh cr inn k1 1)) 0 (zCh cr inn k1 0)), zAr T 0 a2_2 7 (upd (upd (upd (upd (upd (upd (upd f2 6 1) 5 (zWyN cr inn k1 1)) 4 (zWyN cr inn k1 2)) 3 (zWyN cr inn k1 3)) 2 (zWyN cr inn k1 4)) 1 (zWyN cr inn k1 5)) 0 (zWyN cr inn k1 6)), zAr T 0 a3_3 7 f3, zAr T 0 a4_4 n4 f4, zAr T 0 a5_5 n4 f5, zAr T 0 a6_6 n4 f6] := ⟨a1_1, a2_2, a3_3, a4_4, a5_5, a6_6, rfl⟩
  have G : zS T A s.heap s [[zO0 h md (zWyN cr inn k1 7) o (zPl cr inn k1) a1_1 a2_2 a3_3 a4_4 a5_5 a6_6, zAr T 0 a1_1 7 (upd (upd (upd (upd (upd (upd (upd f1 6 (zCh cr inn k1 6)) 5 (zCh cr inn k1 5)) 4 (zCh cr inn k1 4)) 3 (zCh cr inn k1 3)) 2 (zCh cr inn k1 2)) 1 (zCh cr inn k1 1)) 0 (zCh cr inn k1 0)), zAr T 0 a2_2 7 (upd (upd (upd (upd (upd (upd (upd f2 6 1) 5 (zWyN cr inn k1 1)) 4 (zWyN cr inn k1 2)) 3 (zWyN cr inn k1 3)) 2 (zWyN cr inn k1 4)) 1 (zWyN cr inn k1 5)) 0 (zWyN cr inn k1 6)), zAr T 0 a3_3 7 f3, zAr T 0 a4_4 n4 f4, zAr T 0 a5_5 n4 f5, zAr T 0 a6_6 n4 f6], z] _ _ := G.re rfl
  exact z_back hQz_ (z_vret C hr hlocks G (Nat.le_of_ble_eq_true rfl) (Nat.le_of_ble_eq_true rfl) dX0_countWays_78 ⟨([zO0 h md (zWyN cr inn k1 7) o (zPl cr inn k1) a1_1 a2_2 a3_3 a4_4 a5_5 a6_6, zAr T 0 a1_1 7 (upd (upd (upd (upd (upd (upd (upd f1 6 (zCh cr inn k1 6)) 5 (zCh cr inn k1 5)) 4 (zCh cr inn k1 4)) 3 (zCh cr inn k1 3)) 2 (zCh cr inn k1 2)) 1 (zCh cr inn k1 1)) 0 (zCh cr inn k1 0)), zAr T 0 a2_2 7 (upd (upd (upd (upd (upd (upd (upd f2 6 1) 5 (zWyN cr inn k1 1)) 4 (zWyN cr inn k1 2)) 3 (zWyN cr inn k1 3)) 2 (zWyN cr inn k1 4)) 1 (zWyN cr inn k1 5)) 0 (zWyN cr inn k1 6)), zAr T 0 a3_3 7 f3, zAr T 0 a4_4 n4 f4, zAr T 0 a5_5 n4 f5, zAr T 0 a6_6 n4 f6]), (upd (upd (upd (upd (upd (upd (upd f1 6 (zCh cr inn k1 6)) 5 (zCh cr inn k1 5)) 4 (zCh cr inn k1 4)) 3 (zCh cr inn k1 3)) 2 (zCh cr inn k1 2)) 1 (zCh cr inn k1 1)) 0 (zCh cr inn k1 0)), (upd (upd (upd (upd (upd (upd (upd f2 6 1) 5 (zWyN cr inn k1 1)) 4 (zWyN cr inn k1 2)) 3 (zWyN cr inn k1 3)) 2 (zWyN cr inn k1 4)) 1 (zWyN cr inn k1 5)) 0 (zWyN cr inn k1 6)), rfl, hw_51, (⟨fun c hc => by rcases (show c = 0 ∨ c = 1 ∨ c = 2 ∨ c = 3 ∨ c = 4 ∨ c = 5 ∨ c = 6 by omega) with q | q | q | q | q | q | q <;> rw [q] <;> rfl, fun c hc => by rcases (show c = 0 ∨ c = 1 ∨ c = 2 ∨ c = 3 ∨ c = 4 ∨ c = 5 ∨ c = 6 by omega) with q | q | q | q | q | q | q <;> rw [q] <;> rfl⟩)⟩)
theorem aTn_e {cr inn x y : Int32} {k1 k2 k3 f1 f2 : Nat → Int32} (hI : zLI cr k1 k3) (hF : aF cr inn k1 f1 f2) (hO : aOk (aW cr inn k1) k2) (hx : 0 ≤ x.toInt ∧ x.toInt < (aPr (aW cr inn k1) 7 : Nat)) (hz : ¬ zWays cr inn k1 y = 0) : ((zRoad f1 f2 x y + 1).toInt < (zWays cr inn k1 y).toInt → x + f2 y.toNatClampNeg = nI (aTn (aW cr inn k1) x.toInt.toNat y.toInt.toNat)) ∧ (¬ (zRoad f1 f2 x y + 1).toInt < (zWays cr inn k1 y).toInt → x - (zWays cr inn k1 y - 1) * f2 y.toNatClampNeg = nI (aTn (aW cr inn k1) x.toInt.toNat y.toInt.toNat)) := by
  obtain ⟨c0, c1, c2, c3, c4⟩ := zWays_in hz
  have h4 := zWays_le (inn := inn) hI y
  have p := hO.2.2
  have ex : x = nI x.toInt.toNat := z_nI (by omega) (by omega)
  have ey : y = nI y.toInt.toNat := z_nI (by omega) (by omega)
  have ek : y.toNatClampNeg = y.toInt.toNat := rfl
  have z0 : ¬ (zWays cr inn k1 y).toInt = 0 := fun q => hz (Int32.toInt_inj.mp q)
  have hW : (aW cr inn k1 y.toInt.toNat).toInt = (zWays cr inn k1 y).toInt := by
    show (zWays cr inn k1 (nI y.toInt.toNat)).toInt = _
    rw [← ey]
  have ch : aCh (aW cr inn k1) y.toInt.toNat = (aW cr inn k1 y.toInt.toNat).toInt.toNat := if_neg (by omega)
  have eR : zRoad f1 f2 x y = nI (aRd (aW cr inn k1) x.toInt.toNat y.toInt.toNat) := by
    have e := zRoad_z hI hF (w := x.toInt.toNat) (c := y.toInt.toNat) (by omega) (by omega)
    rw [← ex, ← ey] at e
    exact e
  have rl := aRd_lt (W := aW cr inn k1) (w := x.toInt.toNat) (c := y.toInt.toNat)
  have e1 : (zRoad f1 f2 x y + 1).toInt = (aRd (aW cr inn k1) x.toInt.toNat y.toInt.toNat : Nat) + 1 := by
    rw [eR, zInc1, nI_toInt (by omega)]
    omega
  have e2 : f2 y.toNatClampNeg = nI (aPr (aW cr inn k1) (6 - y.toInt.toNat)) := (hF.2 y.toNatClampNeg (by omega)).trans (aWyN_z hI _ (by omega))
  have T := aTn_z (W := aW cr inn k1) (w := x.toInt.toNat) (c := y.toInt.toNat) (by omega)
  rw [e1, e2]
  constructor
  · intro q
    rw [T.1 (by omega)]
    conv => lhs; rw [ex]
    exact nI_add _ _
  · intro q
    have t := T.2 (by omega)
    have eC : zWays cr inn k1 y - 1 = nI (aCh (aW cr inn k1) y.toInt.toNat - 1) := by
      have a : zWays cr inn k1 y = nI (aCh (aW cr inn k1) y.toInt.toNat) := z_nI (by omega) (by omega)
      rw [a]
      exact pk_sub (b := 1) (by omega)
    rw [eC, pk_mul]
    conv => lhs; rw [ex]
    rw [pk_sub (by omega)]
    exact congrArg nI (by omega)
set_option maxHeartbeats 4000000 in
set_option maxRecDepth 100000 in
/-- c_f_turned -/
theorem c_f_turned (l : Launch) (T : zTy) (h : Nat) (la : Nat) (md : Int32) (wy : Int32) (pc_ : Int32) (f1 : Nat → Int32) (f2 : Nat → Int32) (f3 : Nat → Int32) (f4 : Nat → Int32) (f5 : Nat → Int32) (f6 : Nat → Int32) (n4 : Nat) (ww : va_W) (cr : Int32) (inn : Int32) (k1 : Nat → Int32) (k2 : Nat → Int32) (k3 : Nat → Int32) (k4 : Nat → Int32) (z : va_W) (x : Int32) (y : Int32) (hww : bWays T h la md wy pc_ f1 f2 f3 f4 f5 f6 n4 ww) (hz : bLand T la cr inn k1 k2 k3 k4 z) (hI : zLI cr k1 k3) (hF : aF cr inn k1 f1 f2) (hO : aOk (aW cr inn k1) k2) (hxw : 0 ≤ x.toInt ∧ x.toInt < (aPr (aW cr inn k1) 7 : Nat)) (hyw : 0 ≤ y.toInt ∧ y.toInt ≤ 7) : zMi l T yX0_turned cX0_turned 4 (some .int) 2 0 0 [.ref h, .int x, .int y] [ww, z] (fun (r : Int32) bs => bs = [ww, z] ∧ (zWays cr inn k1 y = 0 ∧ r = -1 ∨ ¬ zWays cr inn k1 y = 0 ∧ r = nI (aTn (aW cr inn k1) x.toInt.toNat y.toInt.toNat))) := by
  refine zMi_of (own := RX0) (by decide) rfl (Nat.le_of_ble_eq_true rfl) ?_
  intro p e s m args below meth c A ls C hr hlocks hnm hAe G hl
  refine zHide (fun Qz_ hQz_ => ?_)
  have hx := C.1
  have hb := C.2.1
  have hl : lv_has ls 4 [(0, .ref h), (1, .int x), (2, .int y)] := hl
  refine lv_aload_n hx hb dX0_turned_0 rfl (lv_at hl 0 rfl) ?_
  refine zEx6 hww ?_
  intro a1_1 a2_2 a3_3 a4_4 a5_5 a6_6 hbs9
  clear hww
  subst hbs9
  have G : zS T A s.heap s [[zO0 h md wy la pc_ a1_1 a2_2 a3_3 a4_4 a5_5 a6_6], [zAr T 0 a1_1 7 f1], [zAr T 0 a2_2 7 f2], [zAr T 0 a3_3 7 f3], [zAr T 0 a4_4 n4 f4], [zAr T 0 a5_5 n4 f5], [zAr T 0 a6_6 n4 f6], z] _ _ := G.re rfl
  refine z_get C G clX0 0 rfl 2 (by decide) m_fl_RX0_14 rfl dX0_turned_1 ?_
  refine lv_iload_n hx hb dX0_turned_4 rfl (lv_at hl 2 rfl) ?_
  refine z_Vi (bc := [z]) (br := [[zO0 h md wy la pc_ a1_1 a2_2 a3_3 a4_4 a5_5 a6_6], [zAr T 0 a1_1 7 f1], [zAr T 0 a2_2 7 f2], [zAr T 0 a3_3 7 f3], [zAr T 0 a4_4 n4 f4], [zAr T 0 a5_5 n4 f5], [zAr T 0 a6_6 n4 f6]]) (As := [.int y]) (rest := []) C G (c_waysOut l T la cr inn k1 k2 k3 k4 z y hz) (kV_RX0_61 C.2.2.2.2 (Nat.le_of_ble_eq_true rfl) (Nat.le_of_ble_eq_true rfl)) [7] [7] rfl rfl (ci := 4) (qc := (RX4, TX4, 6)) rfl rfl (List.mem_flatten.mpr ⟨_, List.mem_of_getElem? (i := 0) rfl, (bLand_mem hz).choose_spec⟩) rfl rfl hl.1 dX0_turned_5 (Nat.le_of_ble_eq_true rfl) (Nat.le_of_ble_eq_true rfl) (fun r_8 b1 H locs hw G => ?_)
  refine zAn2 hw ?_
  intro hbs9 h_7
  clear hw
  subst hbs9
  have G : zS T A s.heap s [[zO0 h md wy la pc_ a1_1 a2_2 a3_3 a4_4 a5_5 a6_6], [zAr T 0 a1_1 7 f1], [zAr T 0 a2_2 7 f2], [zAr T 0 a3_3 7 f3], [zAr T 0 a4_4 n4 f4], [zAr T 0 a5_5 n4 f5], [zAr T 0 a6_6 n4 f6], z] _ _ := G
  subst h_7
  refine lv_istore_n (lv' := [(3, .int (zWays cr inn k1 y)), (0, .ref h), (1, .int x), (2, .int y)]) hx hb dX0_turned_8 rfl hl (by decide) (zLvf_h rfl) (fun ls hl => ?_)
  refine lv_iload_n hx hb dX0_turned_9 rfl (lv_at hl 0 rfl) ?_
  refine lv_if_ne (tgt := 15) hx hb dX0_turned_10 (by decide) (fun c_9 => ?_) (fun c_9 => ?_)
  · have c_9n : ¬ (zWays cr inn k1 y).toInt = (0 : Int) := fun q => c_9 ((fa_eq _ _).mpr q)
    have hwi := zWays_in (cr := cr) (inn := inn) (f1 := k1) (x := y) (by first | with_reducible assumption | assumption)
    refine lv_aload_n hx hb dX0_turned_15 rfl (lv_at hl 1 rfl) ?_
    refine lv_iload_n hx hb dX0_turned_16 rfl (lv_at hl 2 rfl) ?_
    refine lv_iload_n hx hb dX0_turned_17 rfl (lv_at hl 3 rfl) ?_
    have hw_10 : bWays T h la md wy pc_ f1 f2 f3 f4 f5 f6 n4 [zO0 h md wy la pc_ a1_1 a2_2 a3_3 a4_4 a5_5 a6_6, zAr T 0 a1_1 7 f1, zAr T 0 a2_2 7 f2, zAr T 0 a3_3 7 f3, zAr T 0 a4_4 n4 f4, zAr T 0 a5_5 n4 f5, zAr T 0 a6_6 n4 f6] := ⟨a1_1, a2_2, a3_3, a4_4, a5_5, a6_6, rfl⟩
    have G : zS T A s.heap s [[zO0 h md wy la pc_ a1_1 a2_2 a3_3 a4_4 a5_5 a6_6, zAr T 0 a1_1 7 f1, zAr T 0 a2_2 7 f2, zAr T 0 a3_3 7 f3, zAr T 0 a4_4 n4 f4, zAr T 0 a5_5 n4 f5, zAr T 0 a6_6 n4 f6], z] _ _ := G.re rfl
    refine z_Vi (bc := [[zO0 h md wy la pc_ a1_1 a2_2 a3_3 a4_4 a5_5 a6_6, zAr T 0 a1_1 7 f1, zAr T 0 a2_2 7 f2, zAr T 0 a3_3 7 f3, zAr T 0 a4_4 n4 f4, zAr T 0 a5_5 n4 f5, zAr T 0 a6_6 n4 f6]]) (br := [z]) (As := [.int x, .int y]) (rest := []) C G (c_road l T h la md wy pc_ f1 f2 f3 f4 f5 f6 n4 ([zO0 h md wy la pc_ a1_1 a2_2 a3_3 a4_4 a5_5 a6_6, zAr T 0 a1_1 7 f1, zAr T 0 a2_2 7 f2, zAr T 0 a3_3 7 f3, zAr T 0 a4_4 n4 f4, zAr T 0 a5_5 n4 f5, zAr T 0 a6_6 n4 f6]) x y hw_10) (kV_RX0_81 C.2.2.2.2 (Nat.le_of_ble_eq_true rfl) (Nat.le_of_ble_eq_true rfl)) [0] [0] rfl rfl (ci := 0) (qc := (RX0, TX0, 10)) rfl rfl (List.mem_flatten.mpr ⟨_, List.mem_of_getElem? (i := 0) rfl, (bWays_mem hw_10).choose_spec⟩) rfl rfl hl.1 dX0_turned_18 (Nat.le_of_ble_eq_true rfl) (Nat.le_of_ble_eq_true rfl) (fun r_12 b1 H locs hw G => ?_)
    refine zAn2 hw ?_
    intro hbs9 h_11
    clear hw
    subst hbs9
    have G : zS T A s.heap s [z, [zO0 h md wy la pc_ a1_1 a2_2 a3_3 a4_4 a5_5 a6_6, zAr T 0 a1_1 7 f1, zAr T 0 a2_2 7 f2, zAr T 0 a3_3 7 f3, zAr T 0 a4_4 n4 f4, zAr T 0 a5_5 n4 f5, zAr T 0 a6_6 n4 f6]] _ _ := G
    subst h_11
    refine lv_iconst (v := 1) hx hb dX0_turned_21 (by decide) ?_
    refine lv_iadd hx hb dX0_turned_22 ?_
    refine lv_iload_n hx hb dX0_turned_23 rfl (lv_at hl 0 rfl) ?_
    refine lv_icmp_ge (tgt := 38) hx hb dX0_turned_24 (by decide) (fun c_13 => ?_) (fun c_13 => ?_)
    · have c_13n : (zWays cr inn k1 y).toInt ≤ ((zRoad f1 f2 x y) + 1).toInt := (fa_le _ _).mp c_13
      refine lv_iload_n hx hb dX0_turned_38 rfl (lv_at hl 2 rfl) ?_
      refine lv_iload_n hx hb dX0_turned_39 rfl (lv_at hl 0 rfl) ?_
      refine lv_iconst (v := 1) hx hb dX0_turned_40 (by decide) ?_
      refine lv_isub hx hb dX0_turned_41 ?_
      refine lv_aload_n hx hb dX0_turned_42 rfl (lv_at hl 1 rfl) ?_
      have G : zS T A s.heap s [z, [zO0 h md wy la pc_ a1_1 a2_2 a3_3 a4_4 a5_5 a6_6], [zAr T 0 a1_1 7 f1], [zAr T 0 a2_2 7 f2], [zAr T 0 a3_3 7 f3], [zAr T 0 a4_4 n4 f4], [zAr T 0 a5_5 n4 f5], [zAr T 0 a6_6 n4 f6]] _ _ := G.re rfl
      refine z_get C G clX0 1 rfl 5 (by decide) m_fl_RX0_22 rfl dX0_turned_43 ?_
      refine lv_iload_n hx hb dX0_turned_46 rfl (lv_at hl 3 rfl) ?_
      refine z_ild C G 3 rfl (vp_in_iff.mpr ⟨hwi.1, hwi.2.2.1⟩) dX0_turned_47 ?_
      refine lv_topi (fun v_14 ev_14 => ?_)
      subst ev_14
      refine lv_imul hx hb dX0_turned_48 ?_
      refine lv_isub hx hb dX0_turned_49 ?_
      have hw_15 : bWays T h la md wy pc_ f1 f2 f3 f4 f5 f6 n4 [zO0 h md wy la pc_ a1_1 a2_2 a3_3 a4_4 a5_5 a6_6, zAr T 0 a1_1 7 f1, zAr T 0 a2_2 7 f2, zAr T 0 a3_3 7 f3, zAr T 0 a4_4 n4 f4, zAr T 0 a5_5 n4 f5, zAr T 0 a6_6 n4 f6] := ⟨a1_1, a2_2, a3_3, a4_4, a5_5, a6_6, rfl⟩
      have G : zS T A s.heap s [z, [zO0 h md wy la pc_ a1_1 a2_2 a3_3 a4_4 a5_5 a6_6, zAr T 0 a1_1 7 f1, zAr T 0 a2_2 7 f2, zAr T 0 a3_3 7 f3, zAr T 0 a4_4 n4 f4, zAr T 0 a5_5 n4 f5, zAr T 0 a6_6 n4 f6]] _ _ := G.re rfl
      have G := G.sub (bs' := [[zO0 h md wy la pc_ a1_1 a2_2 a3_3 a4_4 a5_5 a6_6, zAr T 0 a1_1 7 f1, zAr T 0 a2_2 7 f2, zAr T 0 a3_3 7 f3, zAr T 0 a4_4 n4 f4, zAr T 0 a5_5 n4 f5, zAr T 0 a6_6 n4 f6], z]) [1, 0] rfl
      exact z_back hQz_ (z_iret C hr hlocks G (Nat.le_of_ble_eq_true rfl) (Nat.le_of_ble_eq_true rfl) dX0_turned_50 ⟨rfl, (Or.inr ⟨by first | with_reducible assumption | assumption, by first | exact (aTn_e hI hF hO hxw (by first | with_reducible assumption | assumption)).1 (by omega) | exact (aTn_e hI hF hO hxw (by first | with_reducible assumption | assumption)).2 (by omega)⟩)⟩)
    · have c_13n : ¬ (zWays cr inn k1 y).toInt ≤ ((zRoad f1 f2 x y) + 1).toInt := fun q => c_13 ((fa_le _ _).mpr q)
      refine lv_iload_n hx hb dX0_turned_27 rfl (lv_at hl 2 rfl) ?_
      refine lv_aload_n hx hb dX0_turned_28 rfl (lv_at hl 1 rfl) ?_
      have G : zS T A s.heap s [z, [zO0 h md wy la pc_ a1_1 a2_2 a3_3 a4_4 a5_5 a6_6], [zAr T 0 a1_1 7 f1], [zAr T 0 a2_2 7 f2], [zAr T 0 a3_3 7 f3], [zAr T 0 a4_4 n4 f4], [zAr T 0 a5_5 n4 f5], [zAr T 0 a6_6 n4 f6]] _ _ := G.re rfl
      refine z_get C G clX0 1 rfl 5 (by decide) m_fl_RX0_22 rfl dX0_turned_29 ?_
      refine lv_iload_n hx hb dX0_turned_32 rfl (lv_at hl 3 rfl) ?_
      refine z_ild C G 3 rfl (vp_in_iff.mpr ⟨hwi.1, hwi.2.2.1⟩) dX0_turned_33 ?_
      refine lv_topi (fun v_16 ev_16 => ?_)
      subst ev_16
      refine lv_iadd hx hb dX0_turned_34 ?_
      refine lv_goto (tgt := 50) hx hb dX0_turned_35 (by decide) ?_
      have hw_17 : bWays T h la md wy pc_ f1 f2 f3 f4 f5 f6 n4 [zO0 h md wy la pc_ a1_1 a2_2 a3_3 a4_4 a5_5 a6_6, zAr T 0 a1_1 7 f1, zAr T 0 a2_2 7 f2, zAr T 0 a3_3 7 f3, zAr T 0 a4_4 n4 f4, zAr T 0 a5_5 n4 f5, zAr T 0 a6_6 n4 f6] := ⟨a1_1, a2_2, a3_3, a4_4, a5_5, a6_6, rfl⟩
      have G : zS T A s.heap s [z, [zO0 h md wy la pc_ a1_1 a2_2 a3_3 a4_4 a5_5 a6_6, zAr T 0 a1_1 7 f1, zAr T 0 a2_2 7 f2, zAr T 0 a3_3 7 f3, zAr T 0 a4_4 n4 f4, zAr T 0 a5_5 n4 f5, zAr T 0 a6_6 n4 f6]] _ _ := G.re rfl
      have G := G.sub (bs' := [[zO0 h md wy la pc_ a1_1 a2_2 a3_3 a4_4 a5_5 a6_6, zAr T 0 a1_1 7 f1, zAr T 0 a2_2 7 f2, zAr T 0 a3_3 7 f3, zAr T 0 a4_4 n4 f4, zAr T 0 a5_5 n4 f5, zAr T 0 a6_6 n4 f6], z]) [1, 0] rfl
      exact z_back hQz_ (z_iret C hr hlocks G (Nat.le_of_ble_eq_true rfl) (Nat.le_of_ble_eq_true rfl) dX0_turned_50 ⟨rfl, (Or.inr ⟨by first | with_reducible assumption | assumption, by first | exact (aTn_e hI hF hO hxw (by first | with_reducible assumption | assumption)).1 (by omega) | exact (aTn_e hI hF hO hxw (by first | with_reducible assumption | assumption)).2 (by omega)⟩)⟩)
  · have c_9n : (zWays cr inn k1 y).toInt = (0 : Int) := (fa_eq _ _).mp c_9
    refine lv_iconst (v := (-1)) hx hb dX0_turned_13 (by decide) ?_
    have hw_18 : bWays T h la md wy pc_ f1 f2 f3 f4 f5 f6 n4 [zO0 h md wy la pc_ a1_1 a2_2 a3_3 a4_4 a5_5 a6_6, zAr T 0 a1_1 7 f1, zAr T 0 a2_2 7 f2, zAr T 0 a3_3 7 f3, zAr T 0 a4_4 n4 f4, zAr T 0 a5_5 n4 f5, zAr T 0 a6_6 n4 f6] := ⟨a1_1, a2_2, a3_3, a4_4, a5_5, a6_6, rfl⟩
    have G : zS T A s.heap s [[zO0 h md wy la pc_ a1_1 a2_2 a3_3 a4_4 a5_5 a6_6, zAr T 0 a1_1 7 f1, zAr T 0 a2_2 7 f2, zAr T 0 a3_3 7 f3, zAr T 0 a4_4 n4 f4, zAr T 0 a5_5 n4 f5, zAr T 0 a6_6 n4 f6], z] _ _ := G.re rfl
    exact z_back hQz_ (z_iret C hr hlocks G (Nat.le_of_ble_eq_true rfl) (Nat.le_of_ble_eq_true rfl) dX0_turned_14 ⟨rfl, (Or.inl ⟨by first | with_reducible assumption | assumption, rfl⟩)⟩)
theorem nIm1 {n : Nat} (h : n < 2147483648) : ¬ nI n = -1 := fun q => by
  have e := congrArg Int32.toInt q
  rw [nI_toInt h] at e
  have : (-1 : Int32).toInt = -1 := rfl
  omega
set_option maxHeartbeats 4000000 in
set_option maxRecDepth 100000 in
/-- stepOnce -/
theorem c_f_stepOnce (l : Launch) (T : zTy) (h : Nat) (la : Nat) (md : Int32) (wy : Int32) (pc_ : Int32) (f1 : Nat → Int32) (f2 : Nat → Int32) (f3 : Nat → Int32) (f4 : Nat → Int32) (f5 : Nat → Int32) (f6 : Nat → Int32) (n4 : Nat) (ww : va_W) (cr : Int32) (inn : Int32) (k1 : Nat → Int32) (k2 : Nat → Int32) (k3 : Nat → Int32) (k4 : Nat → Int32) (z : va_W) (hww : bWays T h la md wy pc_ f1 f2 f3 f4 f5 f6 n4 ww) (hz : bLand T la cr inn k1 k2 k3 k4 z) (hI : zLI cr k1 k3) (hF : aF cr inn k1 f1 f2) (hO : aOk (aW cr inn k1) k2) (hpc : pc_.toInt = ((8 * aPr (aW cr inn k1) 7 : Nat) : Int)) (hpn : 8 * aPr (aW cr inn k1) 7 ≤ n4) (hn : n4 ≤ 131072) : zMv l T yX0_stepOnce cX0_stepOnce 5 4 0 0 [.ref h] [ww, z] (fun bs => ∃ (w2 : va_W) (g4 : Nat → Int32) (g5 : Nat → Int32), bs = [w2, z] ∧ bWays T h la md wy pc_ f1 f2 f3 g4 g5 f6 n4 w2 ∧ (∀ j, j < 8 * aPr (aW cr inn k1) 7 → g4 j = nI (aT (aW cr inn k1) k2 1 j)) ∧ (∀ j, j < 8 * aPr (aW cr inn k1) 7 → g5 j = nI (aT (aW cr inn k1) k2 1 j))) := by
  refine zMv_of (own := RX0) (by decide) rfl (Nat.le_of_ble_eq_true rfl) ?_
  intro p e s m args below meth c A ls C hr hlocks hnm hAe G hl
  refine zHide (fun Qz_ hQz_ => ?_)
  have hx := C.1
  have hb := C.2.1
  have hl : lv_has ls 5 [(0, .ref h)] := hl
  refine lv_iconst (v := 0) hx hb dX0_stepOnce_0 (by decide) ?_
  refine lv_istore_n (lv' := [(1, .int 0), (0, .ref h)]) hx hb dX0_stepOnce_1 rfl hl (by decide) (zLvf_h rfl) (fun ls hl => ?_)
  refine zEx6 hww ?_
  intro a1_1 a2_2 a3_3 a4_4 a5_5 a6_6 hbs9
  clear hww
  subst hbs9
  have G : zS T A s.heap s [[zO0 h md wy la pc_ a1_1 a2_2 a3_3 a4_4 a5_5 a6_6], [zAr T 0 a1_1 7 f1], [zAr T 0 a2_2 7 f2], [zAr T 0 a3_3 7 f3], [zAr T 0 a4_4 n4 f4], [zAr T 0 a5_5 n4 f5], [zAr T 0 a6_6 n4 f6], z] _ _ := G.re rfl
  refine zEx4 hz ?_
  intro a1_7 a2_8 a3_9 a4_10 hbs9
  clear hz
  subst hbs9
  have G : zS T A s.heap s [[zO0 h md wy la pc_ a1_1 a2_2 a3_3 a4_4 a5_5 a6_6], [zAr T 0 a1_1 7 f1], [zAr T 0 a2_2 7 f2], [zAr T 0 a3_3 7 f3], [zAr T 0 a4_4 n4 f4], [zAr T 0 a5_5 n4 f5], [zAr T 0 a6_6 n4 f6], [zO4 la cr inn a1_7 a2_8 a3_9 a4_10], [zAr T 0 a1_7 7 k1], [zAr T 0 a2_8 28 k2], [zAr T 0 a3_9 7 k3], [zAr T 0 a4_10 7 k4]] _ _ := G.re rfl
  have hw_11 : bWays T h la md wy pc_ f1 f2 f3 f4 f5 f6 n4 [zO0 h md wy la pc_ a1_1 a2_2 a3_3 a4_4 a5_5 a6_6, zAr T 0 a1_1 7 f1, zAr T 0 a2_2 7 f2, zAr T 0 a3_3 7 f3, zAr T 0 a4_4 n4 f4, zAr T 0 a5_5 n4 f5, zAr T 0 a6_6 n4 f6] := ⟨a1_1, a2_2, a3_3, a4_4, a5_5, a6_6, rfl⟩
  have G : zS T A s.heap s [[zO0 h md wy la pc_ a1_1 a2_2 a3_3 a4_4 a5_5 a6_6, zAr T 0 a1_1 7 f1, zAr T 0 a2_2 7 f2, zAr T 0 a3_3 7 f3, zAr T 0 a4_4 n4 f4, zAr T 0 a5_5 n4 f5, zAr T 0 a6_6 n4 f6], [zO4 la cr inn a1_7 a2_8 a3_9 a4_10], [zAr T 0 a1_7 7 k1], [zAr T 0 a2_8 28 k2], [zAr T 0 a3_9 7 k3], [zAr T 0 a4_10 7 k4]] _ _ := G.re rfl
  have hw_12 : bLand T la cr inn k1 k2 k3 k4 [zO4 la cr inn a1_7 a2_8 a3_9 a4_10, zAr T 0 a1_7 7 k1, zAr T 0 a2_8 28 k2, zAr T 0 a3_9 7 k3, zAr T 0 a4_10 7 k4] := ⟨a1_7, a2_8, a3_9, a4_10, rfl⟩
  have G : zS T A s.heap s [[zO0 h md wy la pc_ a1_1 a2_2 a3_3 a4_4 a5_5 a6_6, zAr T 0 a1_1 7 f1, zAr T 0 a2_2 7 f2, zAr T 0 a3_3 7 f3, zAr T 0 a4_4 n4 f4, zAr T 0 a5_5 n4 f5, zAr T 0 a6_6 n4 f6], [zO4 la cr inn a1_7 a2_8 a3_9 a4_10, zAr T 0 a1_7 7 k1, zAr T 0 a2_8 28 k2, zAr T 0 a3_9 7 k3, zAr T 0 a4_10 7 k4]] _ _ := G.re rfl
  refine z_lp4 (T := T) 2 (fun (i : Nat) (wt : va_W) (x4 : Nat → Int32) (x5 : Nat → Int32) => [wt, [zO4 la cr inn a1_7 a2_8 a3_9 a4_10, zAr T 0 a1_7 7 k1, zAr T 0 a2_8 28 k2, zAr T 0 a3_9 7 k3, zAr T 0 a4_10 7 k4]]) (fun (i : Nat) (wt : va_W) (x4 : Nat → Int32) (x5 : Nat → Int32) => [(1, .int (nI i)), (0, .ref h)]) (fun (i : Nat) (wt : va_W) (x4 : Nat → Int32) (x5 : Nat → Int32) => bWays T h la md wy pc_ f1 f2 f3 x4 x5 f6 n4 wt ∧ i ≤ pc_.toInt.toNat ∧ (∀ j, j < i → x4 j = nI (aT (aW cr inn k1) k2 1 j)) ∧ (∀ j, j < i → x5 j = nI (aT (aW cr inn k1) k2 1 j))) (fun (i : Nat) (wt : va_W) (x4 : Nat → Int32) (x5 : Nat → Int32) => pc_.toInt.toNat - i) ?_ 0 ([zO0 h md wy la pc_ a1_1 a2_2 a3_3 a4_4 a5_5 a6_6, zAr T 0 a1_1 7 f1, zAr T 0 a2_2 7 f2, zAr T 0 a3_3 7 f3, zAr T 0 a4_4 n4 f4, zAr T 0 a5_5 n4 f5, zAr T 0 a6_6 n4 f6]) f4 f5 (show bWays T h la md wy pc_ f1 f2 f3 f4 f5 f6 n4 ([zO0 h md wy la pc_ a1_1 a2_2 a3_3 a4_4 a5_5 a6_6, zAr T 0 a1_1 7 f1, zAr T 0 a2_2 7 f2, zAr T 0 a3_3 7 f3, zAr T 0 a4_4 n4 f4, zAr T 0 a5_5 n4 f5, zAr T 0 a6_6 n4 f6]) ∧ 0 ≤ pc_.toInt.toNat ∧ (∀ j, j < 0 → f4 j = nI (aT (aW cr inn k1) k2 1 j)) ∧ (∀ j, j < 0 → f5 j = nI (aT (aW cr inn k1) k2 1 j)) from ⟨hw_11, by omega, fun j hj => absurd hj (by omega), fun j hj => absurd hj (by omega)⟩) G (lv_sub hl [0, 1] rfl)
  intro i wt x4 x5 hI9 ih_2 H locs ls G hl
  replace hI9 : bWays T h la md wy pc_ f1 f2 f3 x4 x5 f6 n4 wt ∧ i ≤ pc_.toInt.toNat ∧ (∀ j, j < i → x4 j = nI (aT (aW cr inn k1) k2 1 j)) ∧ (∀ j, j < i → x5 j = nI (aT (aW cr inn k1) k2 1 j)) := hI9
  refine zAn4 hI9 ?_
  intro hwt hi hx4 hx5
  clear hI9
  replace G : zS T A s.heap s [wt, [zO4 la cr inn a1_7 a2_8 a3_9 a4_10, zAr T 0 a1_7 7 k1, zAr T 0 a2_8 28 k2, zAr T 0 a3_9 7 k3, zAr T 0 a4_10 7 k4]] _ _ := G
  replace hl : lv_has ls 5 [(1, .int (nI i)), (0, .ref h)] := hl
  refine lv_iload_n hx hb dX0_stepOnce_2 rfl (lv_at hl 0 rfl) ?_
  refine lv_aload_n hx hb dX0_stepOnce_3 rfl (lv_at hl 1 rfl) ?_
  refine zEx6 hwt ?_
  intro a1_13 a2_14 a3_15 a4_16 a5_17 a6_18 hbs9
  clear hwt
  subst hbs9
  have G : zS T A s.heap s [[zO0 h md wy la pc_ a1_13 a2_14 a3_15 a4_16 a5_17 a6_18], [zAr T 0 a1_13 7 f1], [zAr T 0 a2_14 7 f2], [zAr T 0 a3_15 7 f3], [zAr T 0 a4_16 n4 x4], [zAr T 0 a5_17 n4 x5], [zAr T 0 a6_18 n4 f6], [zO4 la cr inn a1_7 a2_8 a3_9 a4_10, zAr T 0 a1_7 7 k1, zAr T 0 a2_8 28 k2, zAr T 0 a3_9 7 k3, zAr T 0 a4_10 7 k4]] _ _ := G.re rfl
  refine z_get C G clX0 0 rfl 3 (by decide) m_fl_RX0_75 rfl dX0_stepOnce_4 ?_
  refine lv_icmp_ge (tgt := 108) hx hb dX0_stepOnce_7 (by decide) (fun c_19 => ?_) (fun c_19 => ?_)
  · have c_19n : pc_.toInt ≤ (i : Int) := by have q := (fa_le _ _).mp c_19; rw [nI_toInt (n := i) (by omega)] at q; exact q
    have hw_20 : bWays T h la md wy pc_ f1 f2 f3 x4 x5 f6 n4 [zO0 h md wy la pc_ a1_13 a2_14 a3_15 a4_16 a5_17 a6_18, zAr T 0 a1_13 7 f1, zAr T 0 a2_14 7 f2, zAr T 0 a3_15 7 f3, zAr T 0 a4_16 n4 x4, zAr T 0 a5_17 n4 x5, zAr T 0 a6_18 n4 f6] := ⟨a1_13, a2_14, a3_15, a4_16, a5_17, a6_18, rfl⟩
    have G : zS T A s.heap s [[zO0 h md wy la pc_ a1_13 a2_14 a3_15 a4_16 a5_17 a6_18, zAr T 0 a1_13 7 f1, zAr T 0 a2_14 7 f2, zAr T 0 a3_15 7 f3, zAr T 0 a4_16 n4 x4, zAr T 0 a5_17 n4 x5, zAr T 0 a6_18 n4 f6], [zO4 la cr inn a1_7 a2_8 a3_9 a4_10, zAr T 0 a1_7 7 k1, zAr T 0 a2_8 28 k2, zAr T 0 a3_9 7 k3, zAr T 0 a4_10 7 k4]] _ _ := G.re rfl
    exact z_back hQz_ (z_vret C hr hlocks G (Nat.le_of_ble_eq_true rfl) (Nat.le_of_ble_eq_true rfl) dX0_stepOnce_108 ⟨([zO0 h md wy la pc_ a1_13 a2_14 a3_15 a4_16 a5_17 a6_18, zAr T 0 a1_13 7 f1, zAr T 0 a2_14 7 f2, zAr T 0 a3_15 7 f3, zAr T 0 a4_16 n4 x4, zAr T 0 a5_17 n4 x5, zAr T 0 a6_18 n4 f6]), x4, x5, rfl, hw_20, (fun j hj => hx4 j (by omega)), (fun j hj => hx5 j (by omega))⟩)
  · have c_19n : ¬ pc_.toInt ≤ (i : Int) := fun q => c_19 ((fa_le _ _).mpr (by rw [nI_toInt (n := i) (by omega)]; exact q))
    refine lv_iload_n hx hb dX0_stepOnce_10 rfl (lv_at hl 0 rfl) ?_
    refine lv_aload_n hx hb dX0_stepOnce_11 rfl (lv_at hl 1 rfl) ?_
    refine z_get C G clX0 0 rfl 7 (by decide) m_fl_RX0_28 rfl dX0_stepOnce_12 ?_
    refine z_alen C G 4 0 rfl (v := nI n4) rfl rfl dX0_stepOnce_15 ?_
    refine lv_icmp_ge (tgt := 108) hx hb dX0_stepOnce_16 (by decide) (fun c_21 => ?_) (fun c_21 => ?_)
    · have c_21n : n4 ≤ i := (nI_leI (a := n4) (b := i) (by omega) (by omega)).mp c_21
      have hw_22 : bWays T h la md wy pc_ f1 f2 f3 x4 x5 f6 n4 [zO0 h md wy la pc_ a1_13 a2_14 a3_15 a4_16 a5_17 a6_18, zAr T 0 a1_13 7 f1, zAr T 0 a2_14 7 f2, zAr T 0 a3_15 7 f3, zAr T 0 a4_16 n4 x4, zAr T 0 a5_17 n4 x5, zAr T 0 a6_18 n4 f6] := ⟨a1_13, a2_14, a3_15, a4_16, a5_17, a6_18, rfl⟩
      have G : zS T A s.heap s [[zO0 h md wy la pc_ a1_13 a2_14 a3_15 a4_16 a5_17 a6_18, zAr T 0 a1_13 7 f1, zAr T 0 a2_14 7 f2, zAr T 0 a3_15 7 f3, zAr T 0 a4_16 n4 x4, zAr T 0 a5_17 n4 x5, zAr T 0 a6_18 n4 f6], [zO4 la cr inn a1_7 a2_8 a3_9 a4_10, zAr T 0 a1_7 7 k1, zAr T 0 a2_8 28 k2, zAr T 0 a3_9 7 k3, zAr T 0 a4_10 7 k4]] _ _ := G.re rfl
      exact z_back hQz_ (z_vret C hr hlocks G (Nat.le_of_ble_eq_true rfl) (Nat.le_of_ble_eq_true rfl) dX0_stepOnce_108 ⟨([zO0 h md wy la pc_ a1_13 a2_14 a3_15 a4_16 a5_17 a6_18, zAr T 0 a1_13 7 f1, zAr T 0 a2_14 7 f2, zAr T 0 a3_15 7 f3, zAr T 0 a4_16 n4 x4, zAr T 0 a5_17 n4 x5, zAr T 0 a6_18 n4 f6]), x4, x5, rfl, hw_22, (fun j hj => hx4 j (by omega)), (fun j hj => hx5 j (by omega))⟩)
    · have c_21n : ¬ n4 ≤ i := fun q => c_21 ((nI_leI (a := n4) (b := i) (by omega) (by omega)).mpr q)
      refine lv_iload_n hx hb dX0_stepOnce_19 rfl (lv_at hl 0 rfl) ?_
      refine lv_aload_n hx hb dX0_stepOnce_20 rfl (lv_at hl 1 rfl) ?_
      refine z_get C G clX0 0 rfl 8 (by decide) m_fl_RX0_31 rfl dX0_stepOnce_21 ?_
      refine z_alen C G 5 0 rfl (v := nI n4) rfl rfl dX0_stepOnce_24 ?_
      refine lv_icmp_ge (tgt := 108) hx hb dX0_stepOnce_25 (by decide) (fun q => absurd q c_21) (fun _ => ?_)
      have hp9 := hO.2.2
      have hi9 : i < 8 * aPr (aW cr inn k1) 7 := by omega
      refine lv_iload_n hx hb dX0_stepOnce_28 rfl (lv_at hl 0 rfl) ?_
      refine lv_iconst (v := 3) hx hb dX0_stepOnce_29 (by decide) ?_
      refine lv_ishr hx hb dX0_stepOnce_30 ?_
      refine lv_topi (fun y_23 ey_23 => ?_)
      obtain rfl : y_23 = nI (i / 8) := ey_23.trans (aSh (by omega))
      refine lv_istore_n (lv' := [(2, .int (nI (i / 8))), (1, .int (nI i)), (0, .ref h)]) hx hb dX0_stepOnce_31 rfl hl (by decide) (zLvf_h rfl) (fun ls hl => ?_)
      refine lv_iload_n hx hb dX0_stepOnce_32 rfl (lv_at hl 1 rfl) ?_
      refine lv_bipush (v := 7) hx hb dX0_stepOnce_33 (by decide) ?_
      refine lv_iand hx hb dX0_stepOnce_35 ?_
      refine lv_topi (fun y_24 ey_24 => ?_)
      obtain rfl : y_24 = nI (i % 8) := ey_24.trans (aAn (by omega))
      refine lv_istore_n (lv' := [(3, .int (nI (i % 8))), (2, .int (nI (i / 8))), (1, .int (nI i)), (0, .ref h)]) hx hb dX0_stepOnce_36 rfl hl (by decide) (zLvf_h rfl) (fun ls hl => ?_)
      refine lv_aload_n hx hb dX0_stepOnce_37 rfl (lv_at hl 3 rfl) ?_
      refine lv_iload_n hx hb dX0_stepOnce_38 rfl (lv_at hl 1 rfl) ?_
      refine lv_iload_n hx hb dX0_stepOnce_39 rfl (lv_at hl 0 rfl) ?_
      have hw_25 : bWays T h la md wy pc_ f1 f2 f3 x4 x5 f6 n4 [zO0 h md wy la pc_ a1_13 a2_14 a3_15 a4_16 a5_17 a6_18, zAr T 0 a1_13 7 f1, zAr T 0 a2_14 7 f2, zAr T 0 a3_15 7 f3, zAr T 0 a4_16 n4 x4, zAr T 0 a5_17 n4 x5, zAr T 0 a6_18 n4 f6] := ⟨a1_13, a2_14, a3_15, a4_16, a5_17, a6_18, rfl⟩
      have G : zS T A s.heap s [[zO0 h md wy la pc_ a1_13 a2_14 a3_15 a4_16 a5_17 a6_18, zAr T 0 a1_13 7 f1, zAr T 0 a2_14 7 f2, zAr T 0 a3_15 7 f3, zAr T 0 a4_16 n4 x4, zAr T 0 a5_17 n4 x5, zAr T 0 a6_18 n4 f6], [zO4 la cr inn a1_7 a2_8 a3_9 a4_10, zAr T 0 a1_7 7 k1, zAr T 0 a2_8 28 k2, zAr T 0 a3_9 7 k3, zAr T 0 a4_10 7 k4]] _ _ := G.re rfl
      refine z_Vi (bc := [[zO0 h md wy la pc_ a1_13 a2_14 a3_15 a4_16 a5_17 a6_18, zAr T 0 a1_13 7 f1, zAr T 0 a2_14 7 f2, zAr T 0 a3_15 7 f3, zAr T 0 a4_16 n4 x4, zAr T 0 a5_17 n4 x5, zAr T 0 a6_18 n4 f6], [zO4 la cr inn a1_7 a2_8 a3_9 a4_10, zAr T 0 a1_7 7 k1, zAr T 0 a2_8 28 k2, zAr T 0 a3_9 7 k3, zAr T 0 a4_10 7 k4]]) (br := []) (As := [.int (nI (i / 8)), .int (nI (i % 8))]) (rest := []) C G (c_f_turned l T h la md wy pc_ f1 f2 f3 x4 x5 f6 n4 ([zO0 h md wy la pc_ a1_13 a2_14 a3_15 a4_16 a5_17 a6_18, zAr T 0 a1_13 7 f1, zAr T 0 a2_14 7 f2, zAr T 0 a3_15 7 f3, zAr T 0 a4_16 n4 x4, zAr T 0 a5_17 n4 x5, zAr T 0 a6_18 n4 f6]) cr inn k1 k2 k3 k4 ([zO4 la cr inn a1_7 a2_8 a3_9 a4_10, zAr T 0 a1_7 7 k1, zAr T 0 a2_8 28 k2, zAr T 0 a3_9 7 k3, zAr T 0 a4_10 7 k4]) (nI (i / 8)) (nI (i % 8)) hw_25 hw_12 (by first | with_reducible assumption | with_reducible rfl | omega | assumption | rfl) (by first | with_reducible assumption | with_reducible rfl | omega | assumption | rfl) (by first | with_reducible assumption | with_reducible rfl | omega | assumption | rfl) (by rw [nI_toInt (by omega)]; omega) (by rw [nI_toInt (by omega)]; omega)) (kV_RX0_78 C.2.2.2.2 (Nat.le_of_ble_eq_true rfl) (Nat.le_of_ble_eq_true rfl)) [0, 1] [0, 0] rfl rfl (ci := 0) (qc := (RX0, TX0, 10)) rfl rfl (List.mem_flatten.mpr ⟨_, List.mem_of_getElem? (i := 0) rfl, (bWays_mem hw_25).choose_spec⟩) rfl rfl hl.1 dX0_stepOnce_40 (Nat.le_of_ble_eq_true rfl) (Nat.le_of_ble_eq_true rfl) (fun r_27 b1 H locs hw G => ?_)
      refine zAn2 hw ?_
      intro hbs9 h_26
      clear hw
      subst hbs9
      have G : zS T A s.heap s [[zO0 h md wy la pc_ a1_13 a2_14 a3_15 a4_16 a5_17 a6_18, zAr T 0 a1_13 7 f1, zAr T 0 a2_14 7 f2, zAr T 0 a3_15 7 f3, zAr T 0 a4_16 n4 x4, zAr T 0 a5_17 n4 x5, zAr T 0 a6_18 n4 f6], [zO4 la cr inn a1_7 a2_8 a3_9 a4_10, zAr T 0 a1_7 7 k1, zAr T 0 a2_8 28 k2, zAr T 0 a3_9 7 k3, zAr T 0 a4_10 7 k4]] _ _ := G
      have ti9 := nI_n (n := i / 8) (by omega)
      have tj9 := nI_n (n := i % 8) (by omega)
      rw [ti9, tj9] at h_26
      refine lv_istore (lv' := [(4, .int r_27), (3, .int (nI (i % 8))), (2, .int (nI (i / 8))), (1, .int (nI i)), (0, .ref h)]) hx hb dX0_stepOnce_43 hl (by decide) (zLvf_h rfl) (fun ls hl => ?_)
      refine lv_iload hx hb dX0_stepOnce_45 (lv_at hl 0 rfl) ?_
      refine lv_iconst (v := (-1)) hx hb dX0_stepOnce_47 (by decide) ?_
      refine lv_icmp_ne (tgt := 61) hx hb dX0_stepOnce_48 (by decide) (fun c_28 => ?_) (fun c_28 => ?_)
      · have c_28n : ¬ r_27.toInt = (-1 : Int) := fun q => c_28 ((fa_eq _ _).mpr q)
        have hr9 : ¬ zWays cr inn k1 (nI (i % 8)) = 0 ∧ r_27 = nI (aTn (aW cr inn k1) (i / 8) (i % 8)) := h_26.resolve_left (fun q9 => absurd (congrArg Int32.toInt q9.2) (by first | with_reducible assumption | assumption))
        refine lv_aload_n hx hb dX0_stepOnce_61 rfl (lv_at hl 4 rfl) ?_
        have G : zS T A s.heap s [[zO0 h md wy la pc_ a1_13 a2_14 a3_15 a4_16 a5_17 a6_18], [zAr T 0 a1_13 7 f1], [zAr T 0 a2_14 7 f2], [zAr T 0 a3_15 7 f3], [zAr T 0 a4_16 n4 x4], [zAr T 0 a5_17 n4 x5], [zAr T 0 a6_18 n4 f6], [zO4 la cr inn a1_7 a2_8 a3_9 a4_10, zAr T 0 a1_7 7 k1, zAr T 0 a2_8 28 k2, zAr T 0 a3_9 7 k3, zAr T 0 a4_10 7 k4]] _ _ := G.re rfl
        refine z_get C G clX0 0 rfl 7 (by decide) m_fl_RX0_28 rfl dX0_stepOnce_62 ?_
        refine lv_iload_n hx hb dX0_stepOnce_65 rfl (lv_at hl 3 rfl) ?_
        refine lv_iload hx hb dX0_stepOnce_66 (lv_at hl 0 rfl) ?_
        refine lv_aload_n hx hb dX0_stepOnce_68 rfl (lv_at hl 4 rfl) ?_
        refine z_get C G clX0 0 rfl 2 (by decide) m_fl_RX0_14 rfl dX0_stepOnce_69 ?_
        refine lv_iload_n hx hb dX0_stepOnce_72 rfl (lv_at hl 1 rfl) ?_
        refine lv_aload_n hx hb dX0_stepOnce_73 rfl (lv_at hl 4 rfl) ?_
        refine lv_iload hx hb dX0_stepOnce_74 (lv_at hl 0 rfl) ?_
        refine lv_iload_n hx hb dX0_stepOnce_76 rfl (lv_at hl 1 rfl) ?_
        have hw_29 : bWays T h la md wy pc_ f1 f2 f3 x4 x5 f6 n4 [zO0 h md wy la pc_ a1_13 a2_14 a3_15 a4_16 a5_17 a6_18, zAr T 0 a1_13 7 f1, zAr T 0 a2_14 7 f2, zAr T 0 a3_15 7 f3, zAr T 0 a4_16 n4 x4, zAr T 0 a5_17 n4 x5, zAr T 0 a6_18 n4 f6] := ⟨a1_13, a2_14, a3_15, a4_16, a5_17, a6_18, rfl⟩
        have G : zS T A s.heap s [[zO0 h md wy la pc_ a1_13 a2_14 a3_15 a4_16 a5_17 a6_18, zAr T 0 a1_13 7 f1, zAr T 0 a2_14 7 f2, zAr T 0 a3_15 7 f3, zAr T 0 a4_16 n4 x4, zAr T 0 a5_17 n4 x5, zAr T 0 a6_18 n4 f6], [zO4 la cr inn a1_7 a2_8 a3_9 a4_10, zAr T 0 a1_7 7 k1, zAr T 0 a2_8 28 k2, zAr T 0 a3_9 7 k3, zAr T 0 a4_10 7 k4]] _ _ := G.re rfl
        refine z_Vi (bc := [[zO0 h md wy la pc_ a1_13 a2_14 a3_15 a4_16 a5_17 a6_18, zAr T 0 a1_13 7 f1, zAr T 0 a2_14 7 f2, zAr T 0 a3_15 7 f3, zAr T 0 a4_16 n4 x4, zAr T 0 a5_17 n4 x5, zAr T 0 a6_18 n4 f6]]) (br := [[zO4 la cr inn a1_7 a2_8 a3_9 a4_10, zAr T 0 a1_7 7 k1, zAr T 0 a2_8 28 k2, zAr T 0 a3_9 7 k3, zAr T 0 a4_10 7 k4]]) (As := [.int r_27, .int (nI (i % 8))]) (rest := [.int (nI (i % 8)), .ref la, .int r_27, .int (nI i), .ref a4_16]) C G (c_road l T h la md wy pc_ f1 f2 f3 x4 x5 f6 n4 ([zO0 h md wy la pc_ a1_13 a2_14 a3_15 a4_16 a5_17 a6_18, zAr T 0 a1_13 7 f1, zAr T 0 a2_14 7 f2, zAr T 0 a3_15 7 f3, zAr T 0 a4_16 n4 x4, zAr T 0 a5_17 n4 x5, zAr T 0 a6_18 n4 f6]) r_27 (nI (i % 8)) hw_29) (kV_RX0_81 C.2.2.2.2 (Nat.le_of_ble_eq_true rfl) (Nat.le_of_ble_eq_true rfl)) [0] [0] rfl rfl (ci := 0) (qc := (RX0, TX0, 10)) rfl rfl (List.mem_flatten.mpr ⟨_, List.mem_of_getElem? (i := 0) rfl, (bWays_mem hw_29).choose_spec⟩) rfl rfl hl.1 dX0_stepOnce_77 (Nat.le_of_ble_eq_true rfl) (Nat.le_of_ble_eq_true rfl) (fun r_31 b1 H locs hw G => ?_)
        refine zAn2 hw ?_
        intro hbs9 h_30
        clear hw
        subst hbs9
        have G : zS T A s.heap s [[zO4 la cr inn a1_7 a2_8 a3_9 a4_10, zAr T 0 a1_7 7 k1, zAr T 0 a2_8 28 k2, zAr T 0 a3_9 7 k3, zAr T 0 a4_10 7 k4], [zO0 h md wy la pc_ a1_13 a2_14 a3_15 a4_16 a5_17 a6_18, zAr T 0 a1_13 7 f1, zAr T 0 a2_14 7 f2, zAr T 0 a3_15 7 f3, zAr T 0 a4_16 n4 x4, zAr T 0 a5_17 n4 x5, zAr T 0 a6_18 n4 f6]] _ _ := G
        subst h_30
        refine z_Vi (bc := [[zO4 la cr inn a1_7 a2_8 a3_9 a4_10, zAr T 0 a1_7 7 k1, zAr T 0 a2_8 28 k2, zAr T 0 a3_9 7 k3, zAr T 0 a4_10 7 k4]]) (br := [[zO0 h md wy la pc_ a1_13 a2_14 a3_15 a4_16 a5_17 a6_18, zAr T 0 a1_13 7 f1, zAr T 0 a2_14 7 f2, zAr T 0 a3_15 7 f3, zAr T 0 a4_16 n4 x4, zAr T 0 a5_17 n4 x5, zAr T 0 a6_18 n4 f6]]) (As := [.int (nI (i % 8)), .int (zRoad f1 f2 r_27 (nI (i % 8)))]) (rest := [.int r_27, .int (nI i), .ref a4_16]) C G (c_target l T la cr inn k1 k2 k3 k4 ([zO4 la cr inn a1_7 a2_8 a3_9 a4_10, zAr T 0 a1_7 7 k1, zAr T 0 a2_8 28 k2, zAr T 0 a3_9 7 k3, zAr T 0 a4_10 7 k4]) (nI (i % 8)) (zRoad f1 f2 r_27 (nI (i % 8))) hw_12) (kV_RX0_84 C.2.2.2.2 (Nat.le_of_ble_eq_true rfl) (Nat.le_of_ble_eq_true rfl)) [0] [0] rfl rfl (ci := 4) (qc := (RX4, TX4, 6)) rfl rfl (List.mem_flatten.mpr ⟨_, List.mem_of_getElem? (i := 0) rfl, (bLand_mem hw_12).choose_spec⟩) rfl rfl hl.1 dX0_stepOnce_80 (Nat.le_of_ble_eq_true rfl) (Nat.le_of_ble_eq_true rfl) (fun r_33 b1 H locs hw G => ?_)
        refine zAn2 hw ?_
        intro hbs9 h_32
        clear hw
        subst hbs9
        have G : zS T A s.heap s [[zO0 h md wy la pc_ a1_13 a2_14 a3_15 a4_16 a5_17 a6_18, zAr T 0 a1_13 7 f1, zAr T 0 a2_14 7 f2, zAr T 0 a3_15 7 f3, zAr T 0 a4_16 n4 x4, zAr T 0 a5_17 n4 x5, zAr T 0 a6_18 n4 f6], [zO4 la cr inn a1_7 a2_8 a3_9 a4_10, zAr T 0 a1_7 7 k1, zAr T 0 a2_8 28 k2, zAr T 0 a3_9 7 k3, zAr T 0 a4_10 7 k4]] _ _ := G
        subst h_32
        refine z_Si (bc := []) (br := [[zO0 h md wy la pc_ a1_13 a2_14 a3_15 a4_16 a5_17 a6_18, zAr T 0 a1_13 7 f1, zAr T 0 a2_14 7 f2, zAr T 0 a3_15 7 f3, zAr T 0 a4_16 n4 x4, zAr T 0 a5_17 n4 x5, zAr T 0 a6_18 n4 f6], [zO4 la cr inn a1_7 a2_8 a3_9 a4_10, zAr T 0 a1_7 7 k1, zAr T 0 a2_8 28 k2, zAr T 0 a3_9 7 k3, zAr T 0 a4_10 7 k4]]) (As := [.int r_27, .int (zTarget cr k1 k2 (nI (i % 8)) (zRoad f1 f2 r_27 (nI (i % 8))))]) (rest := [.int (nI i), .ref a4_16]) C G (c_place l T r_27 (zTarget cr k1 k2 (nI (i % 8)) (zRoad f1 f2 r_27 (nI (i % 8))))) (kS_RX0_87 C.2.2.2.2 (Nat.le_of_ble_eq_true rfl) (Nat.le_of_ble_eq_true rfl)) [] [] rfl rfl rfl rfl hl.1 dX0_stepOnce_83 (Nat.le_of_ble_eq_true rfl) (Nat.le_of_ble_eq_true rfl) (fun r_35 b1 H locs hw G => ?_)
        refine zAn2 hw ?_
        intro hbs9 h_34
        clear hw
        subst hbs9
        have G : zS T A s.heap s [[zO0 h md wy la pc_ a1_13 a2_14 a3_15 a4_16 a5_17 a6_18, zAr T 0 a1_13 7 f1, zAr T 0 a2_14 7 f2, zAr T 0 a3_15 7 f3, zAr T 0 a4_16 n4 x4, zAr T 0 a5_17 n4 x5, zAr T 0 a6_18 n4 f6], [zO4 la cr inn a1_7 a2_8 a3_9 a4_10, zAr T 0 a1_7 7 k1, zAr T 0 a2_8 28 k2, zAr T 0 a3_9 7 k3, zAr T 0 a4_10 7 k4]] _ _ := G
        subst h_34
        refine lv_ldc (v := 131072) hx hb C.2.2.2.1 (C.2.2.2.2 _ m_ko_RX0_71) dX0_stepOnce_86 ?_
        refine lv_iadd hx hb dX0_stepOnce_88 ?_
        refine lv_topi (fun y_36 ey_36 => ?_)
        obtain rfl : y_36 = nI (aT (aW cr inn k1) k2 1 i) := ey_36.trans (aT_y hI hF hO hi9 hr9.1 hr9.2)
        have G : zS T A s.heap s [[zO0 h md wy la pc_ a1_13 a2_14 a3_15 a4_16 a5_17 a6_18], [zAr T 0 a1_13 7 f1], [zAr T 0 a2_14 7 f2], [zAr T 0 a3_15 7 f3], [zAr T 0 a4_16 n4 x4], [zAr T 0 a5_17 n4 x5], [zAr T 0 a6_18 n4 f6], [zO4 la cr inn a1_7 a2_8 a3_9 a4_10, zAr T 0 a1_7 7 k1, zAr T 0 a2_8 28 k2, zAr T 0 a3_9 7 k3, zAr T 0 a4_10 7 k4]] _ _ := G.re rfl
        refine z_ist C G 4 rfl (vp_in_nI (by omega) (by omega)) dX0_stepOnce_89 (fun H locs G => ?_)
        rw [nI_clamp (by omega)] at G
        have G : zS T A s.heap s [[zO0 h md wy la pc_ a1_13 a2_14 a3_15 a4_16 a5_17 a6_18], [zAr T 0 a1_13 7 f1], [zAr T 0 a2_14 7 f2], [zAr T 0 a3_15 7 f3], [zAr T 0 a4_16 n4 (upd x4 i (nI (aT (aW cr inn k1) k2 1 i)))], [zAr T 0 a5_17 n4 x5], [zAr T 0 a6_18 n4 f6], [zO4 la cr inn a1_7 a2_8 a3_9 a4_10, zAr T 0 a1_7 7 k1, zAr T 0 a2_8 28 k2, zAr T 0 a3_9 7 k3, zAr T 0 a4_10 7 k4]] _ _ := G
        refine lv_aload_n hx hb dX0_stepOnce_90 rfl (lv_at hl 4 rfl) ?_
        refine z_get C G clX0 0 rfl 8 (by decide) m_fl_RX0_31 rfl dX0_stepOnce_91 ?_
        refine lv_iload_n hx hb dX0_stepOnce_94 rfl (lv_at hl 3 rfl) ?_
        refine lv_aload_n hx hb dX0_stepOnce_95 rfl (lv_at hl 4 rfl) ?_
        refine z_get C G clX0 0 rfl 7 (by decide) m_fl_RX0_28 rfl dX0_stepOnce_96 ?_
        refine lv_iload_n hx hb dX0_stepOnce_99 rfl (lv_at hl 3 rfl) ?_
        refine z_ild C G 4 rfl (vp_in_nI (by omega) (by omega)) dX0_stepOnce_100 ?_
        refine lv_topi (fun v_37 ev_37 => ?_)
        rw [nI_clamp (by omega)] at ev_37
        subst ev_37
        refine lv_topi (fun y_38 ey_38 => ?_)
        obtain rfl : y_38 = nI (aT (aW cr inn k1) k2 1 i) := ey_38.trans (pk_us)
        refine z_ist C G 5 rfl (vp_in_nI (by omega) (by omega)) dX0_stepOnce_101 (fun H locs G => ?_)
        rw [nI_clamp (by omega)] at G
        have G : zS T A s.heap s [[zO0 h md wy la pc_ a1_13 a2_14 a3_15 a4_16 a5_17 a6_18], [zAr T 0 a1_13 7 f1], [zAr T 0 a2_14 7 f2], [zAr T 0 a3_15 7 f3], [zAr T 0 a4_16 n4 (upd x4 i (nI (aT (aW cr inn k1) k2 1 i)))], [zAr T 0 a5_17 n4 (upd x5 i (nI (aT (aW cr inn k1) k2 1 i)))], [zAr T 0 a6_18 n4 f6], [zO4 la cr inn a1_7 a2_8 a3_9 a4_10, zAr T 0 a1_7 7 k1, zAr T 0 a2_8 28 k2, zAr T 0 a3_9 7 k3, zAr T 0 a4_10 7 k4]] _ _ := G
        refine lv_iinc (v := nI (i + 1)) (lv' := [(1, .int (nI (i + 1))), (4, .int r_27), (3, .int (nI (i % 8))), (2, .int (nI (i / 8))), (0, .ref h)]) hx hb dX0_stepOnce_102 hl (k := 3) rfl (z_inc i 1) (by decide) (zLvf_h rfl) (fun ls hl => ?_)
        refine lv_goto (tgt := 2) hx hb dX0_stepOnce_105 (by decide) ?_
        have hw_39 : bWays T h la md wy pc_ f1 f2 f3 (upd x4 i (nI (aT (aW cr inn k1) k2 1 i))) (upd x5 i (nI (aT (aW cr inn k1) k2 1 i))) f6 n4 [zO0 h md wy la pc_ a1_13 a2_14 a3_15 a4_16 a5_17 a6_18, zAr T 0 a1_13 7 f1, zAr T 0 a2_14 7 f2, zAr T 0 a3_15 7 f3, zAr T 0 a4_16 n4 (upd x4 i (nI (aT (aW cr inn k1) k2 1 i))), zAr T 0 a5_17 n4 (upd x5 i (nI (aT (aW cr inn k1) k2 1 i))), zAr T 0 a6_18 n4 f6] := ⟨a1_13, a2_14, a3_15, a4_16, a5_17, a6_18, rfl⟩
        have G : zS T A s.heap s [[zO0 h md wy la pc_ a1_13 a2_14 a3_15 a4_16 a5_17 a6_18, zAr T 0 a1_13 7 f1, zAr T 0 a2_14 7 f2, zAr T 0 a3_15 7 f3, zAr T 0 a4_16 n4 (upd x4 i (nI (aT (aW cr inn k1) k2 1 i))), zAr T 0 a5_17 n4 (upd x5 i (nI (aT (aW cr inn k1) k2 1 i))), zAr T 0 a6_18 n4 f6], [zO4 la cr inn a1_7 a2_8 a3_9 a4_10, zAr T 0 a1_7 7 k1, zAr T 0 a2_8 28 k2, zAr T 0 a3_9 7 k3, zAr T 0 a4_10 7 k4]] _ _ := G.re rfl
        exact ih_2 (i + 1) ([zO0 h md wy la pc_ a1_13 a2_14 a3_15 a4_16 a5_17 a6_18, zAr T 0 a1_13 7 f1, zAr T 0 a2_14 7 f2, zAr T 0 a3_15 7 f3, zAr T 0 a4_16 n4 (upd x4 i (nI (aT (aW cr inn k1) k2 1 i))), zAr T 0 a5_17 n4 (upd x5 i (nI (aT (aW cr inn k1) k2 1 i))), zAr T 0 a6_18 n4 f6]) (upd x4 i (nI (aT (aW cr inn k1) k2 1 i))) (upd x5 i (nI (aT (aW cr inn k1) k2 1 i))) (show bWays T h la md wy pc_ f1 f2 f3 (upd x4 i (nI (aT (aW cr inn k1) k2 1 i))) (upd x5 i (nI (aT (aW cr inn k1) k2 1 i))) f6 n4 ([zO0 h md wy la pc_ a1_13 a2_14 a3_15 a4_16 a5_17 a6_18, zAr T 0 a1_13 7 f1, zAr T 0 a2_14 7 f2, zAr T 0 a3_15 7 f3, zAr T 0 a4_16 n4 (upd x4 i (nI (aT (aW cr inn k1) k2 1 i))), zAr T 0 a5_17 n4 (upd x5 i (nI (aT (aW cr inn k1) k2 1 i))), zAr T 0 a6_18 n4 f6]) ∧ (i + 1) ≤ pc_.toInt.toNat ∧ (∀ j, j < (i + 1) → (upd x4 i (nI (aT (aW cr inn k1) k2 1 i))) j = nI (aT (aW cr inn k1) k2 1 j)) ∧ (∀ j, j < (i + 1) → (upd x5 i (nI (aT (aW cr inn k1) k2 1 i))) j = nI (aT (aW cr inn k1) k2 1 j)) from ⟨hw_39, by omega, z_upS0 (f := fun j => nI (aT (aW cr inn k1) k2 1 j)) hx4 rfl, z_upS0 (f := fun j => nI (aT (aW cr inn k1) k2 1 j)) hx5 rfl⟩) (show pc_.toInt.toNat - (i + 1) < pc_.toInt.toNat - i from by omega) _ _ ls G (lv_sub hl [0, 4] rfl)
      · have c_28n : r_27.toInt = (-1 : Int) := (fa_eq _ _).mp c_28
        have hz9 : zWays cr inn k1 (nI (i % 8)) = 0 := by rcases h_26 with q9 | q9 <;> first | exact q9.1 | exact absurd (q9.2.symm.trans (by first | with_reducible assumption | assumption)) (nIm1 (Nat.lt_trans (aTn_lt (by have q7 := zWays_in q9.1; have q6 := nI_toInt (n := i % 8) (by omega); omega) (by omega)) (by omega)))
        refine lv_aload_n hx hb dX0_stepOnce_51 rfl (lv_at hl 4 rfl) ?_
        have G : zS T A s.heap s [[zO0 h md wy la pc_ a1_13 a2_14 a3_15 a4_16 a5_17 a6_18], [zAr T 0 a1_13 7 f1], [zAr T 0 a2_14 7 f2], [zAr T 0 a3_15 7 f3], [zAr T 0 a4_16 n4 x4], [zAr T 0 a5_17 n4 x5], [zAr T 0 a6_18 n4 f6], [zO4 la cr inn a1_7 a2_8 a3_9 a4_10, zAr T 0 a1_7 7 k1, zAr T 0 a2_8 28 k2, zAr T 0 a3_9 7 k3, zAr T 0 a4_10 7 k4]] _ _ := G.re rfl
        refine z_get C G clX0 0 rfl 7 (by decide) m_fl_RX0_28 rfl dX0_stepOnce_52 ?_
        refine lv_iload_n hx hb dX0_stepOnce_55 rfl (lv_at hl 3 rfl) ?_
        refine lv_iload_n hx hb dX0_stepOnce_56 rfl (lv_at hl 3 rfl) ?_
        refine lv_topi (fun y_40 ey_40 => ?_)
        obtain rfl : y_40 = nI (aT (aW cr inn k1) k2 1 i) := ey_40.trans (aT_n hz9)
        refine z_ist C G 4 rfl (vp_in_nI (by omega) (by omega)) dX0_stepOnce_57 (fun H locs G => ?_)
        rw [nI_clamp (by omega)] at G
        have G : zS T A s.heap s [[zO0 h md wy la pc_ a1_13 a2_14 a3_15 a4_16 a5_17 a6_18], [zAr T 0 a1_13 7 f1], [zAr T 0 a2_14 7 f2], [zAr T 0 a3_15 7 f3], [zAr T 0 a4_16 n4 (upd x4 i (nI (aT (aW cr inn k1) k2 1 i)))], [zAr T 0 a5_17 n4 x5], [zAr T 0 a6_18 n4 f6], [zO4 la cr inn a1_7 a2_8 a3_9 a4_10, zAr T 0 a1_7 7 k1, zAr T 0 a2_8 28 k2, zAr T 0 a3_9 7 k3, zAr T 0 a4_10 7 k4]] _ _ := G
        refine lv_goto (tgt := 90) hx hb dX0_stepOnce_58 (by decide) ?_
        refine lv_aload_n hx hb dX0_stepOnce_90 rfl (lv_at hl 4 rfl) ?_
        refine z_get C G clX0 0 rfl 8 (by decide) m_fl_RX0_31 rfl dX0_stepOnce_91 ?_
        refine lv_iload_n hx hb dX0_stepOnce_94 rfl (lv_at hl 3 rfl) ?_
        refine lv_aload_n hx hb dX0_stepOnce_95 rfl (lv_at hl 4 rfl) ?_
        refine z_get C G clX0 0 rfl 7 (by decide) m_fl_RX0_28 rfl dX0_stepOnce_96 ?_
        refine lv_iload_n hx hb dX0_stepOnce_99 rfl (lv_at hl 3 rfl) ?_
        refine z_ild C G 4 rfl (vp_in_nI (by omega) (by omega)) dX0_stepOnce_100 ?_
        refine lv_topi (fun v_41 ev_41 => ?_)
        rw [nI_clamp (by omega)] at ev_41
        subst ev_41
        refine lv_topi (fun y_42 ey_42 => ?_)
        obtain rfl : y_42 = nI (aT (aW cr inn k1) k2 1 i) := ey_42.trans (pk_us)
        refine z_ist C G 5 rfl (vp_in_nI (by omega) (by omega)) dX0_stepOnce_101 (fun H locs G => ?_)
        rw [nI_clamp (by omega)] at G
        have G : zS T A s.heap s [[zO0 h md wy la pc_ a1_13 a2_14 a3_15 a4_16 a5_17 a6_18], [zAr T 0 a1_13 7 f1], [zAr T 0 a2_14 7 f2], [zAr T 0 a3_15 7 f3], [zAr T 0 a4_16 n4 (upd x4 i (nI (aT (aW cr inn k1) k2 1 i)))], [zAr T 0 a5_17 n4 (upd x5 i (nI (aT (aW cr inn k1) k2 1 i)))], [zAr T 0 a6_18 n4 f6], [zO4 la cr inn a1_7 a2_8 a3_9 a4_10, zAr T 0 a1_7 7 k1, zAr T 0 a2_8 28 k2, zAr T 0 a3_9 7 k3, zAr T 0 a4_10 7 k4]] _ _ := G
        refine lv_iinc (v := nI (i + 1)) (lv' := [(1, .int (nI (i + 1))), (4, .int r_27), (3, .int (nI (i % 8))), (2, .int (nI (i / 8))), (0, .ref h)]) hx hb dX0_stepOnce_102 hl (k := 3) rfl (z_inc i 1) (by decide) (zLvf_h rfl) (fun ls hl => ?_)
        refine lv_goto (tgt := 2) hx hb dX0_stepOnce_105 (by decide) ?_
        have hw_43 : bWays T h la md wy pc_ f1 f2 f3 (upd x4 i (nI (aT (aW cr inn k1) k2 1 i))) (upd x5 i (nI (aT (aW cr inn k1) k2 1 i))) f6 n4 [zO0 h md wy la pc_ a1_13 a2_14 a3_15 a4_16 a5_17 a6_18, zAr T 0 a1_13 7 f1, zAr T 0 a2_14 7 f2, zAr T 0 a3_15 7 f3, zAr T 0 a4_16 n4 (upd x4 i (nI (aT (aW cr inn k1) k2 1 i))), zAr T 0 a5_17 n4 (upd x5 i (nI (aT (aW cr inn k1) k2 1 i))), zAr T 0 a6_18 n4 f6] := ⟨a1_13, a2_14, a3_15, a4_16, a5_17, a6_18, rfl⟩
        have G : zS T A s.heap s [[zO0 h md wy la pc_ a1_13 a2_14 a3_15 a4_16 a5_17 a6_18, zAr T 0 a1_13 7 f1, zAr T 0 a2_14 7 f2, zAr T 0 a3_15 7 f3, zAr T 0 a4_16 n4 (upd x4 i (nI (aT (aW cr inn k1) k2 1 i))), zAr T 0 a5_17 n4 (upd x5 i (nI (aT (aW cr inn k1) k2 1 i))), zAr T 0 a6_18 n4 f6], [zO4 la cr inn a1_7 a2_8 a3_9 a4_10, zAr T 0 a1_7 7 k1, zAr T 0 a2_8 28 k2, zAr T 0 a3_9 7 k3, zAr T 0 a4_10 7 k4]] _ _ := G.re rfl
        exact ih_2 (i + 1) ([zO0 h md wy la pc_ a1_13 a2_14 a3_15 a4_16 a5_17 a6_18, zAr T 0 a1_13 7 f1, zAr T 0 a2_14 7 f2, zAr T 0 a3_15 7 f3, zAr T 0 a4_16 n4 (upd x4 i (nI (aT (aW cr inn k1) k2 1 i))), zAr T 0 a5_17 n4 (upd x5 i (nI (aT (aW cr inn k1) k2 1 i))), zAr T 0 a6_18 n4 f6]) (upd x4 i (nI (aT (aW cr inn k1) k2 1 i))) (upd x5 i (nI (aT (aW cr inn k1) k2 1 i))) (show bWays T h la md wy pc_ f1 f2 f3 (upd x4 i (nI (aT (aW cr inn k1) k2 1 i))) (upd x5 i (nI (aT (aW cr inn k1) k2 1 i))) f6 n4 ([zO0 h md wy la pc_ a1_13 a2_14 a3_15 a4_16 a5_17 a6_18, zAr T 0 a1_13 7 f1, zAr T 0 a2_14 7 f2, zAr T 0 a3_15 7 f3, zAr T 0 a4_16 n4 (upd x4 i (nI (aT (aW cr inn k1) k2 1 i))), zAr T 0 a5_17 n4 (upd x5 i (nI (aT (aW cr inn k1) k2 1 i))), zAr T 0 a6_18 n4 f6]) ∧ (i + 1) ≤ pc_.toInt.toNat ∧ (∀ j, j < (i + 1) → (upd x4 i (nI (aT (aW cr inn k1) k2 1 i))) j = nI (aT (aW cr inn k1) k2 1 j)) ∧ (∀ j, j < (i + 1) → (upd x5 i (nI (aT (aW cr inn k1) k2 1 i))) j = nI (aT (aW cr inn k1) k2 1 j)) from ⟨hw_43, by omega, z_upS0 (f := fun j => nI (aT (aW cr inn k1) k2 1 j)) hx4 rfl, z_upS0 (f := fun j => nI (aT (aW cr inn k1) k2 1 j)) hx5 rfl⟩) (show pc_.toInt.toNat - (i + 1) < pc_.toInt.toNat - i from by omega) _ _ ls G (lv_sub hl [0, 4] rfl)
set_option maxHeartbeats 4000000 in
set_option maxRecDepth 100000 in
/-- doubleAll -/
theorem c_f_doubleAll (l : Launch) (T : zTy) (h : Nat) (la : Nat) (md : Int32) (wy : Int32) (pc_ : Int32) (f1 : Nat → Int32) (f2 : Nat → Int32) (f3 : Nat → Int32) (f4 : Nat → Int32) (f5 : Nat → Int32) (f6 : Nat → Int32) (n4 : Nat) (ww : va_W) (W_ : Nat → Int32) (L_ : Nat → Int32) (m_ : Nat) (hww : bWays T h la md wy pc_ f1 f2 f3 f4 f5 f6 n4 ww) (hO : aOk W_ L_) (hpc : pc_.toInt = ((8 * aPr W_ 7 : Nat) : Int)) (hpn : 8 * aPr W_ 7 ≤ n4) (hn : n4 ≤ 131072) (hm : m_ ≤ 499) (hE : (∀ j, j < 8 * aPr W_ 7 → f5 j = nI (aT W_ L_ m_ j))) : zMv l T yX0_doubleAll cX0_doubleAll 6 1 0 0 [.ref h] [ww] (fun bs => ∃ (w2 : va_W) (g5 : Nat → Int32) (g6 : Nat → Int32), bs = [w2] ∧ bWays T h la md wy pc_ f1 f2 f3 f4 g5 g6 n4 w2 ∧ (∀ j, j < 8 * aPr W_ 7 → g5 j = nI (aT W_ L_ (m_ + m_) j))) := by
  refine zMv_of (own := RX0) (by decide) rfl (Nat.le_of_ble_eq_true rfl) ?_
  intro p e s m args below meth c A ls C hr hlocks hnm hAe G hl
  refine zHide (fun Qz_ hQz_ => ?_)
  have hx := C.1
  have hb := C.2.1
  have hl : lv_has ls 6 [(0, .ref h)] := hl
  refine lv_aload_n hx hb dX0_doubleAll_0 rfl (lv_at hl 0 rfl) ?_
  refine zEx6 hww ?_
  intro a1_1 a2_2 a3_3 a4_4 a5_5 a6_6 hbs9
  clear hww
  subst hbs9
  have G : zS T A s.heap s [[zO0 h md wy la pc_ a1_1 a2_2 a3_3 a4_4 a5_5 a6_6], [zAr T 0 a1_1 7 f1], [zAr T 0 a2_2 7 f2], [zAr T 0 a3_3 7 f3], [zAr T 0 a4_4 n4 f4], [zAr T 0 a5_5 n4 f5], [zAr T 0 a6_6 n4 f6]] _ _ := G.re rfl
  refine z_get C G clX0 0 rfl 8 (by decide) m_fl_RX0_31 rfl dX0_doubleAll_1 ?_
  refine lv_astore_n (lv' := [(1, .ref a5_5), (0, .ref h)]) hx hb dX0_doubleAll_4 rfl hl (by decide) (zLvf_h rfl) (fun ls hl => ?_)
  refine lv_aload_n hx hb dX0_doubleAll_5 rfl (lv_at hl 1 rfl) ?_
  refine z_get C G clX0 0 rfl 9 (by decide) m_fl_RX0_34 rfl dX0_doubleAll_6 ?_
  refine lv_astore_n (lv' := [(2, .ref a6_6), (1, .ref a5_5), (0, .ref h)]) hx hb dX0_doubleAll_9 rfl hl (by decide) (zLvf_h rfl) (fun ls hl => ?_)
  refine lv_iconst (v := 0) hx hb dX0_doubleAll_10 (by decide) ?_
  refine lv_istore_n (lv' := [(3, .int 0), (2, .ref a6_6), (1, .ref a5_5), (0, .ref h)]) hx hb dX0_doubleAll_11 rfl hl (by decide) (zLvf_h rfl) (fun ls hl => ?_)
  refine z_lp2 (T := T) 12 (fun (i : Nat) (x6 : Nat → Int32) => [[zO0 h md wy la pc_ a1_1 a2_2 a3_3 a4_4 a5_5 a6_6], [zAr T 0 a1_1 7 f1], [zAr T 0 a2_2 7 f2], [zAr T 0 a3_3 7 f3], [zAr T 0 a4_4 n4 f4], [zAr T 0 a5_5 n4 f5], [zAr T 0 a6_6 n4 x6]]) (fun (i : Nat) (x6 : Nat → Int32) => [(3, .int (nI i)), (2, .ref a6_6), (1, .ref a5_5), (0, .ref h)]) (fun (i : Nat) (x6 : Nat → Int32) => i ≤ pc_.toInt.toNat ∧ (∀ j, j < i → x6 j = nI (aT W_ L_ (m_ + m_) j))) (fun (i : Nat) (x6 : Nat → Int32) => pc_.toInt.toNat - i) ?_ 0 f6 (show 0 ≤ pc_.toInt.toNat ∧ (∀ j, j < 0 → f6 j = nI (aT W_ L_ (m_ + m_) j)) from ⟨by omega, fun j hj => absurd hj (by omega)⟩) G (lv_sub hl [0, 1, 2, 3] rfl)
  intro i x6 hI9 ih_12 H locs ls G hl
  replace hI9 : i ≤ pc_.toInt.toNat ∧ (∀ j, j < i → x6 j = nI (aT W_ L_ (m_ + m_) j)) := hI9
  refine zAn2 hI9 ?_
  intro hi hx6
  clear hI9
  replace G : zS T A s.heap s [[zO0 h md wy la pc_ a1_1 a2_2 a3_3 a4_4 a5_5 a6_6], [zAr T 0 a1_1 7 f1], [zAr T 0 a2_2 7 f2], [zAr T 0 a3_3 7 f3], [zAr T 0 a4_4 n4 f4], [zAr T 0 a5_5 n4 f5], [zAr T 0 a6_6 n4 x6]] _ _ := G
  replace hl : lv_has ls 6 [(3, .int (nI i)), (2, .ref a6_6), (1, .ref a5_5), (0, .ref h)] := hl
  refine lv_iload_n hx hb dX0_doubleAll_12 rfl (lv_at hl 0 rfl) ?_
  refine lv_aload_n hx hb dX0_doubleAll_13 rfl (lv_at hl 3 rfl) ?_
  refine z_get C G clX0 0 rfl 3 (by decide) m_fl_RX0_75 rfl dX0_doubleAll_14 ?_
  refine lv_icmp_ge (tgt := 75) hx hb dX0_doubleAll_17 (by decide) (fun c_7 => ?_) (fun c_7 => ?_)
  · have c_7n : pc_.toInt ≤ (i : Int) := by have q := (fa_le _ _).mp c_7; rw [nI_toInt (n := i) (by omega)] at q; exact q
    refine lv_aload_n hx hb dX0_doubleAll_75 rfl (lv_at hl 3 rfl) ?_
    refine lv_aload_n hx hb dX0_doubleAll_76 rfl (lv_at hl 1 rfl) ?_
    refine z_put C G clX0 0 rfl 8 (by decide) m_fl_RX0_31 rfl rfl rfl (Nat.le_of_ble_eq_true rfl) dX0_doubleAll_77 (fun H locs G => ?_)
    have G : zS T A s.heap s [[zO0 h md wy la pc_ a1_1 a2_2 a3_3 a4_4 a6_6 a6_6], [zAr T 0 a1_1 7 f1], [zAr T 0 a2_2 7 f2], [zAr T 0 a3_3 7 f3], [zAr T 0 a4_4 n4 f4], [zAr T 0 a5_5 n4 f5], [zAr T 0 a6_6 n4 x6]] _ _ := G
    refine lv_aload_n hx hb dX0_doubleAll_80 rfl (lv_at hl 3 rfl) ?_
    refine lv_aload_n hx hb dX0_doubleAll_81 rfl (lv_at hl 2 rfl) ?_
    refine z_put C G clX0 0 rfl 9 (by decide) m_fl_RX0_34 rfl rfl rfl (Nat.le_of_ble_eq_true rfl) dX0_doubleAll_82 (fun H locs G => ?_)
    have G : zS T A s.heap s [[zO0 h md wy la pc_ a1_1 a2_2 a3_3 a4_4 a6_6 a5_5], [zAr T 0 a1_1 7 f1], [zAr T 0 a2_2 7 f2], [zAr T 0 a3_3 7 f3], [zAr T 0 a4_4 n4 f4], [zAr T 0 a5_5 n4 f5], [zAr T 0 a6_6 n4 x6]] _ _ := G
    have G := G.sub (bs' := [[zO0 h md wy la pc_ a1_1 a2_2 a3_3 a4_4 a6_6 a5_5], [zAr T 0 a1_1 7 f1], [zAr T 0 a2_2 7 f2], [zAr T 0 a3_3 7 f3], [zAr T 0 a4_4 n4 f4], [zAr T 0 a6_6 n4 x6], [zAr T 0 a5_5 n4 f5]]) [0, 1, 2, 3, 4, 6, 5] rfl
    have hw_8 : bWays T h la md wy pc_ f1 f2 f3 f4 x6 f5 n4 [zO0 h md wy la pc_ a1_1 a2_2 a3_3 a4_4 a6_6 a5_5, zAr T 0 a1_1 7 f1, zAr T 0 a2_2 7 f2, zAr T 0 a3_3 7 f3, zAr T 0 a4_4 n4 f4, zAr T 0 a6_6 n4 x6, zAr T 0 a5_5 n4 f5] := ⟨a1_1, a2_2, a3_3, a4_4, a6_6, a5_5, rfl⟩
    have G : zS T A s.heap s [[zO0 h md wy la pc_ a1_1 a2_2 a3_3 a4_4 a6_6 a5_5, zAr T 0 a1_1 7 f1, zAr T 0 a2_2 7 f2, zAr T 0 a3_3 7 f3, zAr T 0 a4_4 n4 f4, zAr T 0 a6_6 n4 x6, zAr T 0 a5_5 n4 f5]] _ _ := G.re rfl
    exact z_back hQz_ (z_vret C hr hlocks G (Nat.le_of_ble_eq_true rfl) (Nat.le_of_ble_eq_true rfl) dX0_doubleAll_85 ⟨([zO0 h md wy la pc_ a1_1 a2_2 a3_3 a4_4 a6_6 a5_5, zAr T 0 a1_1 7 f1, zAr T 0 a2_2 7 f2, zAr T 0 a3_3 7 f3, zAr T 0 a4_4 n4 f4, zAr T 0 a6_6 n4 x6, zAr T 0 a5_5 n4 f5]), x6, f5, rfl, hw_8, (fun j hj => hx6 j (by omega))⟩)
  · have c_7n : ¬ pc_.toInt ≤ (i : Int) := fun q => c_7 ((fa_le _ _).mpr (by rw [nI_toInt (n := i) (by omega)]; exact q))
    refine lv_iload_n hx hb dX0_doubleAll_20 rfl (lv_at hl 0 rfl) ?_
    refine lv_aload_n hx hb dX0_doubleAll_21 rfl (lv_at hl 2 rfl) ?_
    refine z_alen C G 5 0 rfl (v := nI n4) rfl rfl dX0_doubleAll_22 ?_
    refine lv_icmp_ge (tgt := 75) hx hb dX0_doubleAll_23 (by decide) (fun c_9 => ?_) (fun c_9 => ?_)
    · have c_9n : n4 ≤ i := (nI_leI (a := n4) (b := i) (by omega) (by omega)).mp c_9
      refine lv_aload_n hx hb dX0_doubleAll_75 rfl (lv_at hl 3 rfl) ?_
      refine lv_aload_n hx hb dX0_doubleAll_76 rfl (lv_at hl 1 rfl) ?_
      refine z_put C G clX0 0 rfl 8 (by decide) m_fl_RX0_31 rfl rfl rfl (Nat.le_of_ble_eq_true rfl) dX0_doubleAll_77 (fun H locs G => ?_)
      have G : zS T A s.heap s [[zO0 h md wy la pc_ a1_1 a2_2 a3_3 a4_4 a6_6 a6_6], [zAr T 0 a1_1 7 f1], [zAr T 0 a2_2 7 f2], [zAr T 0 a3_3 7 f3], [zAr T 0 a4_4 n4 f4], [zAr T 0 a5_5 n4 f5], [zAr T 0 a6_6 n4 x6]] _ _ := G
      refine lv_aload_n hx hb dX0_doubleAll_80 rfl (lv_at hl 3 rfl) ?_
      refine lv_aload_n hx hb dX0_doubleAll_81 rfl (lv_at hl 2 rfl) ?_
      refine z_put C G clX0 0 rfl 9 (by decide) m_fl_RX0_34 rfl rfl rfl (Nat.le_of_ble_eq_true rfl) dX0_doubleAll_82 (fun H locs G => ?_)
      have G : zS T A s.heap s [[zO0 h md wy la pc_ a1_1 a2_2 a3_3 a4_4 a6_6 a5_5], [zAr T 0 a1_1 7 f1], [zAr T 0 a2_2 7 f2], [zAr T 0 a3_3 7 f3], [zAr T 0 a4_4 n4 f4], [zAr T 0 a5_5 n4 f5], [zAr T 0 a6_6 n4 x6]] _ _ := G
      have G := G.sub (bs' := [[zO0 h md wy la pc_ a1_1 a2_2 a3_3 a4_4 a6_6 a5_5], [zAr T 0 a1_1 7 f1], [zAr T 0 a2_2 7 f2], [zAr T 0 a3_3 7 f3], [zAr T 0 a4_4 n4 f4], [zAr T 0 a6_6 n4 x6], [zAr T 0 a5_5 n4 f5]]) [0, 1, 2, 3, 4, 6, 5] rfl
      have hw_10 : bWays T h la md wy pc_ f1 f2 f3 f4 x6 f5 n4 [zO0 h md wy la pc_ a1_1 a2_2 a3_3 a4_4 a6_6 a5_5, zAr T 0 a1_1 7 f1, zAr T 0 a2_2 7 f2, zAr T 0 a3_3 7 f3, zAr T 0 a4_4 n4 f4, zAr T 0 a6_6 n4 x6, zAr T 0 a5_5 n4 f5] := ⟨a1_1, a2_2, a3_3, a4_4, a6_6, a5_5, rfl⟩
      have G : zS T A s.heap s [[zO0 h md wy la pc_ a1_1 a2_2 a3_3 a4_4 a6_6 a5_5, zAr T 0 a1_1 7 f1, zAr T 0 a2_2 7 f2, zAr T 0 a3_3 7 f3, zAr T 0 a4_4 n4 f4, zAr T 0 a6_6 n4 x6, zAr T 0 a5_5 n4 f5]] _ _ := G.re rfl
      exact z_back hQz_ (z_vret C hr hlocks G (Nat.le_of_ble_eq_true rfl) (Nat.le_of_ble_eq_true rfl) dX0_doubleAll_85 ⟨([zO0 h md wy la pc_ a1_1 a2_2 a3_3 a4_4 a6_6 a5_5, zAr T 0 a1_1 7 f1, zAr T 0 a2_2 7 f2, zAr T 0 a3_3 7 f3, zAr T 0 a4_4 n4 f4, zAr T 0 a6_6 n4 x6, zAr T 0 a5_5 n4 f5]), x6, f5, rfl, hw_10, (fun j hj => hx6 j (by omega))⟩)
    · have c_9n : ¬ n4 ≤ i := fun q => c_9 ((nI_leI (a := n4) (b := i) (by omega) (by omega)).mpr q)
      refine lv_iload_n hx hb dX0_doubleAll_26 rfl (lv_at hl 0 rfl) ?_
      refine lv_aload_n hx hb dX0_doubleAll_27 rfl (lv_at hl 1 rfl) ?_
      refine z_alen C G 6 0 rfl (v := nI n4) rfl rfl dX0_doubleAll_28 ?_
      refine lv_icmp_ge (tgt := 75) hx hb dX0_doubleAll_29 (by decide) (fun q => absurd q c_9) (fun _ => ?_)
      refine lv_aload_n hx hb dX0_doubleAll_32 rfl (lv_at hl 2 rfl) ?_
      refine lv_iload_n hx hb dX0_doubleAll_33 rfl (lv_at hl 0 rfl) ?_
      refine z_ild C G 5 rfl (vp_in_nI (by omega) (by omega)) dX0_doubleAll_34 ?_
      refine lv_topi (fun v_11 ev_11 => ?_)
      rw [nI_clamp (by omega)] at ev_11
      subst ev_11
      have hp9 := hO.2.2
      have hi9 : i < 8 * aPr W_ 7 := by omega
      obtain ⟨_, hb1, hb2, _, _, _⟩ := aT_b hO (n := m_) hi9
      refine lv_topi (fun y_12 ey_12 => ?_)
      obtain rfl : y_12 = nI (aT W_ L_ m_ i) := ey_12.trans (hE i hi9)
      refine lv_istore (lv' := [(4, .int (nI (aT W_ L_ m_ i))), (3, .int (nI i)), (2, .ref a6_6), (1, .ref a5_5), (0, .ref h)]) hx hb dX0_doubleAll_35 hl (by decide) (zLvf_h rfl) (fun ls hl => ?_)
      refine lv_iload hx hb dX0_doubleAll_37 (lv_at hl 0 rfl) ?_
      refine lv_ldc (v := 131071) hx hb C.2.2.2.1 (C.2.2.2.2 _ m_ko_RX0_90) dX0_doubleAll_39 ?_
      refine lv_iand hx hb dX0_doubleAll_41 ?_
      refine lv_topi (fun y_13 ey_13 => ?_)
      obtain rfl : y_13 = nI (aT W_ L_ m_ i % 131072) := ey_13.trans (aAp (by omega))
      refine lv_istore (lv' := [(5, .int (nI (aT W_ L_ m_ i % 131072))), (4, .int (nI (aT W_ L_ m_ i))), (3, .int (nI i)), (2, .ref a6_6), (1, .ref a5_5), (0, .ref h)]) hx hb dX0_doubleAll_42 hl (by decide) (zLvf_h rfl) (fun ls hl => ?_)
      refine lv_aload_n hx hb dX0_doubleAll_44 rfl (lv_at hl 3 rfl) ?_
      refine lv_iload_n hx hb dX0_doubleAll_45 rfl (lv_at hl 2 rfl) ?_
      refine lv_iload hx hb dX0_doubleAll_46 (lv_at hl 0 rfl) ?_
      refine lv_aload_n hx hb dX0_doubleAll_48 rfl (lv_at hl 4 rfl) ?_
      refine z_alen C G 5 0 rfl (v := nI n4) rfl rfl dX0_doubleAll_49 ?_
      refine lv_icmp_ge (tgt := 66) hx hb dX0_doubleAll_50 (by decide) (fun c_14 => ?_) (fun c_14 => ?_)
      · have c_14n : n4 ≤ aT W_ L_ m_ i % 131072 := (nI_leI (a := n4) (b := aT W_ L_ m_ i % 131072) (by omega) (by omega)).mp c_14
        exfalso; omega
      · have c_14n : ¬ n4 ≤ aT W_ L_ m_ i % 131072 := fun q => c_14 ((nI_leI (a := n4) (b := aT W_ L_ m_ i % 131072) (by omega) (by omega)).mpr q)
        refine lv_aload_n hx hb dX0_doubleAll_53 rfl (lv_at hl 4 rfl) ?_
        refine lv_iload hx hb dX0_doubleAll_54 (lv_at hl 0 rfl) ?_
        refine z_ild C G 5 rfl (vp_in_nI (by omega) (by omega)) dX0_doubleAll_56 ?_
        refine lv_topi (fun v_15 ev_15 => ?_)
        rw [nI_clamp (by omega)] at ev_15
        subst ev_15
        refine lv_topi (fun y_16 ey_16 => ?_)
        obtain rfl : y_16 = nI (aT W_ L_ m_ (aT W_ L_ m_ i % 131072)) := ey_16.trans (hE _ hb1)
        refine lv_iload hx hb dX0_doubleAll_57 (lv_at hl 1 rfl) ?_
        refine lv_iload hx hb dX0_doubleAll_59 (lv_at hl 0 rfl) ?_
        refine lv_isub hx hb dX0_doubleAll_61 ?_
        refine lv_topi (fun y_17 ey_17 => ?_)
        obtain rfl : y_17 = nI (aT W_ L_ m_ i - (aT W_ L_ m_ i % 131072)) := ey_17.trans (pk_sub (Nat.mod_le _ _))
        refine lv_iadd hx hb dX0_doubleAll_62 ?_
        refine lv_topi (fun y_18 ey_18 => ?_)
        obtain rfl : y_18 = nI ((aT W_ L_ m_ (aT W_ L_ m_ i % 131072)) + (aT W_ L_ m_ i - (aT W_ L_ m_ i % 131072))) := ey_18.trans (z_iaddn (aT W_ L_ m_ (aT W_ L_ m_ i % 131072)) (aT W_ L_ m_ i - (aT W_ L_ m_ i % 131072)) rfl rfl)
        refine lv_goto (tgt := 68) hx hb dX0_doubleAll_63 (by decide) ?_
        refine lv_topi (fun y_19 ey_19 => ?_)
        obtain rfl : y_19 = nI (aT W_ L_ (m_ + m_) i) := ey_19.trans (congrArg nI (aT_a hO hi9).symm)
        refine z_ist C G 6 rfl (vp_in_nI (by omega) (by omega)) dX0_doubleAll_68 (fun H locs G => ?_)
        rw [nI_clamp (by omega)] at G
        have G : zS T A s.heap s [[zO0 h md wy la pc_ a1_1 a2_2 a3_3 a4_4 a5_5 a6_6], [zAr T 0 a1_1 7 f1], [zAr T 0 a2_2 7 f2], [zAr T 0 a3_3 7 f3], [zAr T 0 a4_4 n4 f4], [zAr T 0 a5_5 n4 f5], [zAr T 0 a6_6 n4 (upd x6 i (nI (aT W_ L_ (m_ + m_) i)))]] _ _ := G
        refine lv_iinc (v := nI (i + 1)) (lv' := [(3, .int (nI (i + 1))), (5, .int (nI (aT W_ L_ m_ i % 131072))), (4, .int (nI (aT W_ L_ m_ i))), (2, .ref a6_6), (1, .ref a5_5), (0, .ref h)]) hx hb dX0_doubleAll_69 hl (k := 2) rfl (z_inc i 1) (by decide) (zLvf_h rfl) (fun ls hl => ?_)
        refine lv_goto (tgt := 12) hx hb dX0_doubleAll_72 (by decide) ?_
        exact ih_12 (i + 1) (upd x6 i (nI (aT W_ L_ (m_ + m_) i))) (show (i + 1) ≤ pc_.toInt.toNat ∧ (∀ j, j < (i + 1) → (upd x6 i (nI (aT W_ L_ (m_ + m_) i))) j = nI (aT W_ L_ (m_ + m_) j)) from ⟨by omega, z_upS0 (f := fun j => nI (aT W_ L_ (m_ + m_) j)) hx6 rfl⟩) (show pc_.toInt.toNat - (i + 1) < pc_.toInt.toNat - i from by omega) _ _ ls G (lv_sub hl [0, 3, 4, 5] rfl)
set_option maxHeartbeats 4000000 in
set_option maxRecDepth 100000 in
/-- oneMore -/
theorem c_f_oneMore (l : Launch) (T : zTy) (h : Nat) (la : Nat) (md : Int32) (wy : Int32) (pc_ : Int32) (f1 : Nat → Int32) (f2 : Nat → Int32) (f3 : Nat → Int32) (f4 : Nat → Int32) (f5 : Nat → Int32) (f6 : Nat → Int32) (n4 : Nat) (ww : va_W) (W_ : Nat → Int32) (L_ : Nat → Int32) (m_ : Nat) (hww : bWays T h la md wy pc_ f1 f2 f3 f4 f5 f6 n4 ww) (hO : aOk W_ L_) (hpc : pc_.toInt = ((8 * aPr W_ 7 : Nat) : Int)) (hpn : 8 * aPr W_ 7 ≤ n4) (hn : n4 ≤ 131072) (hm : m_ ≤ 499) (hE : (∀ j, j < 8 * aPr W_ 7 → f5 j = nI (aT W_ L_ m_ j))) (hE1 : (∀ j, j < 8 * aPr W_ 7 → f4 j = nI (aT W_ L_ 1 j))) : zMv l T yX0_oneMore cX0_oneMore 4 1 0 0 [.ref h] [ww] (fun bs => ∃ (w2 : va_W) (g5 : Nat → Int32) (g6 : Nat → Int32), bs = [w2] ∧ bWays T h la md wy pc_ f1 f2 f3 f4 g5 g6 n4 w2 ∧ (∀ j, j < 8 * aPr W_ 7 → g5 j = nI (aT W_ L_ (m_ + 1) j))) := by
  refine zMv_of (own := RX0) (by decide) rfl (Nat.le_of_ble_eq_true rfl) ?_
  intro p e s m args below meth c A ls C hr hlocks hnm hAe G hl
  refine zHide (fun Qz_ hQz_ => ?_)
  have hx := C.1
  have hb := C.2.1
  have hl : lv_has ls 4 [(0, .ref h)] := hl
  refine lv_iconst (v := 0) hx hb dX0_oneMore_0 (by decide) ?_
  refine lv_istore_n (lv' := [(1, .int 0), (0, .ref h)]) hx hb dX0_oneMore_1 rfl hl (by decide) (zLvf_h rfl) (fun ls hl => ?_)
  refine zEx6 hww ?_
  intro a1_1 a2_2 a3_3 a4_4 a5_5 a6_6 hbs9
  clear hww
  subst hbs9
  have G : zS T A s.heap s [[zO0 h md wy la pc_ a1_1 a2_2 a3_3 a4_4 a5_5 a6_6], [zAr T 0 a1_1 7 f1], [zAr T 0 a2_2 7 f2], [zAr T 0 a3_3 7 f3], [zAr T 0 a4_4 n4 f4], [zAr T 0 a5_5 n4 f5], [zAr T 0 a6_6 n4 f6]] _ _ := G.re rfl
  have hw_7 : bWays T h la md wy pc_ f1 f2 f3 f4 f5 f6 n4 [zO0 h md wy la pc_ a1_1 a2_2 a3_3 a4_4 a5_5 a6_6, zAr T 0 a1_1 7 f1, zAr T 0 a2_2 7 f2, zAr T 0 a3_3 7 f3, zAr T 0 a4_4 n4 f4, zAr T 0 a5_5 n4 f5, zAr T 0 a6_6 n4 f6] := ⟨a1_1, a2_2, a3_3, a4_4, a5_5, a6_6, rfl⟩
  have G : zS T A s.heap s [[zO0 h md wy la pc_ a1_1 a2_2 a3_3 a4_4 a5_5 a6_6, zAr T 0 a1_1 7 f1, zAr T 0 a2_2 7 f2, zAr T 0 a3_3 7 f3, zAr T 0 a4_4 n4 f4, zAr T 0 a5_5 n4 f5, zAr T 0 a6_6 n4 f6]] _ _ := G.re rfl
  refine z_lp3 (T := T) 2 (fun (i : Nat) (wt : va_W) (x5 : Nat → Int32) => [wt]) (fun (i : Nat) (wt : va_W) (x5 : Nat → Int32) => [(1, .int (nI i)), (0, .ref h)]) (fun (i : Nat) (wt : va_W) (x5 : Nat → Int32) => bWays T h la md wy pc_ f1 f2 f3 f4 x5 f6 n4 wt ∧ i ≤ pc_.toInt.toNat ∧ (∀ j, j < i → x5 j = nI (aT W_ L_ (m_ + 1) j)) ∧ (∀ j, i ≤ j → j < 8 * aPr W_ 7 → x5 j = nI (aT W_ L_ m_ j))) (fun (i : Nat) (wt : va_W) (x5 : Nat → Int32) => pc_.toInt.toNat - i) ?_ 0 ([zO0 h md wy la pc_ a1_1 a2_2 a3_3 a4_4 a5_5 a6_6, zAr T 0 a1_1 7 f1, zAr T 0 a2_2 7 f2, zAr T 0 a3_3 7 f3, zAr T 0 a4_4 n4 f4, zAr T 0 a5_5 n4 f5, zAr T 0 a6_6 n4 f6]) f5 (show bWays T h la md wy pc_ f1 f2 f3 f4 f5 f6 n4 ([zO0 h md wy la pc_ a1_1 a2_2 a3_3 a4_4 a5_5 a6_6, zAr T 0 a1_1 7 f1, zAr T 0 a2_2 7 f2, zAr T 0 a3_3 7 f3, zAr T 0 a4_4 n4 f4, zAr T 0 a5_5 n4 f5, zAr T 0 a6_6 n4 f6]) ∧ 0 ≤ pc_.toInt.toNat ∧ (∀ j, j < 0 → f5 j = nI (aT W_ L_ (m_ + 1) j)) ∧ (∀ j, 0 ≤ j → j < 8 * aPr W_ 7 → f5 j = nI (aT W_ L_ m_ j)) from ⟨hw_7, by omega, fun j hj => absurd hj (by omega), fun j _ hj => hE j hj⟩) G (lv_sub hl [0, 1] rfl)
  intro i wt x5 hI9 ih_2 H locs ls G hl
  replace hI9 : bWays T h la md wy pc_ f1 f2 f3 f4 x5 f6 n4 wt ∧ i ≤ pc_.toInt.toNat ∧ (∀ j, j < i → x5 j = nI (aT W_ L_ (m_ + 1) j)) ∧ (∀ j, i ≤ j → j < 8 * aPr W_ 7 → x5 j = nI (aT W_ L_ m_ j)) := hI9
  refine zAn4 hI9 ?_
  intro hwt hi hx5 hy5
  clear hI9
  replace G : zS T A s.heap s [wt] _ _ := G
  replace hl : lv_has ls 4 [(1, .int (nI i)), (0, .ref h)] := hl
  refine lv_iload_n hx hb dX0_oneMore_2 rfl (lv_at hl 0 rfl) ?_
  refine lv_aload_n hx hb dX0_oneMore_3 rfl (lv_at hl 1 rfl) ?_
  refine zEx6 hwt ?_
  intro a1_8 a2_9 a3_10 a4_11 a5_12 a6_13 hbs9
  clear hwt
  subst hbs9
  have G : zS T A s.heap s [[zO0 h md wy la pc_ a1_8 a2_9 a3_10 a4_11 a5_12 a6_13], [zAr T 0 a1_8 7 f1], [zAr T 0 a2_9 7 f2], [zAr T 0 a3_10 7 f3], [zAr T 0 a4_11 n4 f4], [zAr T 0 a5_12 n4 x5], [zAr T 0 a6_13 n4 f6]] _ _ := G.re rfl
  refine z_get C G clX0 0 rfl 3 (by decide) m_fl_RX0_75 rfl dX0_oneMore_4 ?_
  refine lv_icmp_ge (tgt := 66) hx hb dX0_oneMore_7 (by decide) (fun c_14 => ?_) (fun c_14 => ?_)
  · have c_14n : pc_.toInt ≤ (i : Int) := by have q := (fa_le _ _).mp c_14; rw [nI_toInt (n := i) (by omega)] at q; exact q
    have hw_15 : bWays T h la md wy pc_ f1 f2 f3 f4 x5 f6 n4 [zO0 h md wy la pc_ a1_8 a2_9 a3_10 a4_11 a5_12 a6_13, zAr T 0 a1_8 7 f1, zAr T 0 a2_9 7 f2, zAr T 0 a3_10 7 f3, zAr T 0 a4_11 n4 f4, zAr T 0 a5_12 n4 x5, zAr T 0 a6_13 n4 f6] := ⟨a1_8, a2_9, a3_10, a4_11, a5_12, a6_13, rfl⟩
    have G : zS T A s.heap s [[zO0 h md wy la pc_ a1_8 a2_9 a3_10 a4_11 a5_12 a6_13, zAr T 0 a1_8 7 f1, zAr T 0 a2_9 7 f2, zAr T 0 a3_10 7 f3, zAr T 0 a4_11 n4 f4, zAr T 0 a5_12 n4 x5, zAr T 0 a6_13 n4 f6]] _ _ := G.re rfl
    exact z_back hQz_ (z_vret C hr hlocks G (Nat.le_of_ble_eq_true rfl) (Nat.le_of_ble_eq_true rfl) dX0_oneMore_66 ⟨([zO0 h md wy la pc_ a1_8 a2_9 a3_10 a4_11 a5_12 a6_13, zAr T 0 a1_8 7 f1, zAr T 0 a2_9 7 f2, zAr T 0 a3_10 7 f3, zAr T 0 a4_11 n4 f4, zAr T 0 a5_12 n4 x5, zAr T 0 a6_13 n4 f6]), x5, f6, rfl, hw_15, (fun j hj => hx5 j (by omega))⟩)
  · have c_14n : ¬ pc_.toInt ≤ (i : Int) := fun q => c_14 ((fa_le _ _).mpr (by rw [nI_toInt (n := i) (by omega)]; exact q))
    refine lv_iload_n hx hb dX0_oneMore_10 rfl (lv_at hl 0 rfl) ?_
    refine lv_aload_n hx hb dX0_oneMore_11 rfl (lv_at hl 1 rfl) ?_
    refine z_get C G clX0 0 rfl 8 (by decide) m_fl_RX0_31 rfl dX0_oneMore_12 ?_
    refine z_alen C G 5 0 rfl (v := nI n4) rfl rfl dX0_oneMore_15 ?_
    refine lv_icmp_ge (tgt := 66) hx hb dX0_oneMore_16 (by decide) (fun c_16 => ?_) (fun c_16 => ?_)
    · have c_16n : n4 ≤ i := (nI_leI (a := n4) (b := i) (by omega) (by omega)).mp c_16
      have hw_17 : bWays T h la md wy pc_ f1 f2 f3 f4 x5 f6 n4 [zO0 h md wy la pc_ a1_8 a2_9 a3_10 a4_11 a5_12 a6_13, zAr T 0 a1_8 7 f1, zAr T 0 a2_9 7 f2, zAr T 0 a3_10 7 f3, zAr T 0 a4_11 n4 f4, zAr T 0 a5_12 n4 x5, zAr T 0 a6_13 n4 f6] := ⟨a1_8, a2_9, a3_10, a4_11, a5_12, a6_13, rfl⟩
      have G : zS T A s.heap s [[zO0 h md wy la pc_ a1_8 a2_9 a3_10 a4_11 a5_12 a6_13, zAr T 0 a1_8 7 f1, zAr T 0 a2_9 7 f2, zAr T 0 a3_10 7 f3, zAr T 0 a4_11 n4 f4, zAr T 0 a5_12 n4 x5, zAr T 0 a6_13 n4 f6]] _ _ := G.re rfl
      exact z_back hQz_ (z_vret C hr hlocks G (Nat.le_of_ble_eq_true rfl) (Nat.le_of_ble_eq_true rfl) dX0_oneMore_66 ⟨([zO0 h md wy la pc_ a1_8 a2_9 a3_10 a4_11 a5_12 a6_13, zAr T 0 a1_8 7 f1, zAr T 0 a2_9 7 f2, zAr T 0 a3_10 7 f3, zAr T 0 a4_11 n4 f4, zAr T 0 a5_12 n4 x5, zAr T 0 a6_13 n4 f6]), x5, f6, rfl, hw_17, (fun j hj => hx5 j (by omega))⟩)
    · have c_16n : ¬ n4 ≤ i := fun q => c_16 ((nI_leI (a := n4) (b := i) (by omega) (by omega)).mpr q)
      refine lv_aload_n hx hb dX0_oneMore_19 rfl (lv_at hl 1 rfl) ?_
      refine z_get C G clX0 0 rfl 8 (by decide) m_fl_RX0_31 rfl dX0_oneMore_20 ?_
      refine lv_iload_n hx hb dX0_oneMore_23 rfl (lv_at hl 0 rfl) ?_
      refine z_ild C G 5 rfl (vp_in_nI (by omega) (by omega)) dX0_oneMore_24 ?_
      refine lv_topi (fun v_18 ev_18 => ?_)
      rw [nI_clamp (by omega)] at ev_18
      subst ev_18
      have hp9 := hO.2.2
      have hi9 : i < 8 * aPr W_ 7 := by omega
      obtain ⟨_, hb1, hb2, _, _, _⟩ := aT_b hO (n := m_) hi9
      refine lv_topi (fun y_19 ey_19 => ?_)
      obtain rfl : y_19 = nI (aT W_ L_ m_ i) := ey_19.trans (hy5 i (Nat.le_refl _) hi9)
      refine lv_istore_n (lv' := [(2, .int (nI (aT W_ L_ m_ i))), (1, .int (nI i)), (0, .ref h)]) hx hb dX0_oneMore_25 rfl hl (by decide) (zLvf_h rfl) (fun ls hl => ?_)
      refine lv_iload_n hx hb dX0_oneMore_26 rfl (lv_at hl 0 rfl) ?_
      refine lv_ldc (v := 131071) hx hb C.2.2.2.1 (C.2.2.2.2 _ m_ko_RX0_90) dX0_oneMore_27 ?_
      refine lv_iand hx hb dX0_oneMore_29 ?_
      refine lv_topi (fun y_20 ey_20 => ?_)
      obtain rfl : y_20 = nI (aT W_ L_ m_ i % 131072) := ey_20.trans (aAp (by omega))
      refine lv_istore_n (lv' := [(3, .int (nI (aT W_ L_ m_ i % 131072))), (2, .int (nI (aT W_ L_ m_ i))), (1, .int (nI i)), (0, .ref h)]) hx hb dX0_oneMore_30 rfl hl (by decide) (zLvf_h rfl) (fun ls hl => ?_)
      refine lv_aload_n hx hb dX0_oneMore_31 rfl (lv_at hl 3 rfl) ?_
      refine z_get C G clX0 0 rfl 8 (by decide) m_fl_RX0_31 rfl dX0_oneMore_32 ?_
      refine lv_iload_n hx hb dX0_oneMore_35 rfl (lv_at hl 2 rfl) ?_
      refine lv_iload_n hx hb dX0_oneMore_36 rfl (lv_at hl 0 rfl) ?_
      refine lv_aload_n hx hb dX0_oneMore_37 rfl (lv_at hl 3 rfl) ?_
      refine z_get C G clX0 0 rfl 7 (by decide) m_fl_RX0_28 rfl dX0_oneMore_38 ?_
      refine z_alen C G 4 0 rfl (v := nI n4) rfl rfl dX0_oneMore_41 ?_
      refine lv_icmp_ge (tgt := 58) hx hb dX0_oneMore_42 (by decide) (fun c_21 => ?_) (fun c_21 => ?_)
      · have c_21n : n4 ≤ aT W_ L_ m_ i % 131072 := (nI_leI (a := n4) (b := aT W_ L_ m_ i % 131072) (by omega) (by omega)).mp c_21
        exfalso; omega
      · have c_21n : ¬ n4 ≤ aT W_ L_ m_ i % 131072 := fun q => c_21 ((nI_leI (a := n4) (b := aT W_ L_ m_ i % 131072) (by omega) (by omega)).mpr q)
        refine lv_aload_n hx hb dX0_oneMore_45 rfl (lv_at hl 3 rfl) ?_
        refine z_get C G clX0 0 rfl 7 (by decide) m_fl_RX0_28 rfl dX0_oneMore_46 ?_
        refine lv_iload_n hx hb dX0_oneMore_49 rfl (lv_at hl 0 rfl) ?_
        refine z_ild C G 4 rfl (vp_in_nI (by omega) (by omega)) dX0_oneMore_50 ?_
        refine lv_topi (fun v_22 ev_22 => ?_)
        rw [nI_clamp (by omega)] at ev_22
        subst ev_22
        refine lv_topi (fun y_23 ey_23 => ?_)
        obtain rfl : y_23 = nI (aT W_ L_ 1 (aT W_ L_ m_ i % 131072)) := ey_23.trans (hE1 _ hb1)
        refine lv_iload_n hx hb dX0_oneMore_51 rfl (lv_at hl 1 rfl) ?_
        refine lv_iload_n hx hb dX0_oneMore_52 rfl (lv_at hl 0 rfl) ?_
        refine lv_isub hx hb dX0_oneMore_53 ?_
        refine lv_topi (fun y_24 ey_24 => ?_)
        obtain rfl : y_24 = nI (aT W_ L_ m_ i - (aT W_ L_ m_ i % 131072)) := ey_24.trans (pk_sub (Nat.mod_le _ _))
        refine lv_iadd hx hb dX0_oneMore_54 ?_
        refine lv_topi (fun y_25 ey_25 => ?_)
        obtain rfl : y_25 = nI ((aT W_ L_ 1 (aT W_ L_ m_ i % 131072)) + (aT W_ L_ m_ i - (aT W_ L_ m_ i % 131072))) := ey_25.trans (z_iaddn (aT W_ L_ 1 (aT W_ L_ m_ i % 131072)) (aT W_ L_ m_ i - (aT W_ L_ m_ i % 131072)) rfl rfl)
        refine lv_goto (tgt := 59) hx hb dX0_oneMore_55 (by decide) ?_
        refine lv_topi (fun y_26 ey_26 => ?_)
        obtain rfl : y_26 = nI (aT W_ L_ (m_ + 1) i) := ey_26.trans (congrArg nI (aT_a hO hi9).symm)
        refine z_ist C G 5 rfl (vp_in_nI (by omega) (by omega)) dX0_oneMore_59 (fun H locs G => ?_)
        rw [nI_clamp (by omega)] at G
        have G : zS T A s.heap s [[zO0 h md wy la pc_ a1_8 a2_9 a3_10 a4_11 a5_12 a6_13], [zAr T 0 a1_8 7 f1], [zAr T 0 a2_9 7 f2], [zAr T 0 a3_10 7 f3], [zAr T 0 a4_11 n4 f4], [zAr T 0 a5_12 n4 (upd x5 i (nI (aT W_ L_ (m_ + 1) i)))], [zAr T 0 a6_13 n4 f6]] _ _ := G
        refine lv_iinc (v := nI (i + 1)) (lv' := [(1, .int (nI (i + 1))), (3, .int (nI (aT W_ L_ m_ i % 131072))), (2, .int (nI (aT W_ L_ m_ i))), (0, .ref h)]) hx hb dX0_oneMore_60 hl (k := 2) rfl (z_inc i 1) (by decide) (zLvf_h rfl) (fun ls hl => ?_)
        refine lv_goto (tgt := 2) hx hb dX0_oneMore_63 (by decide) ?_
        have hw_27 : bWays T h la md wy pc_ f1 f2 f3 f4 (upd x5 i (nI (aT W_ L_ (m_ + 1) i))) f6 n4 [zO0 h md wy la pc_ a1_8 a2_9 a3_10 a4_11 a5_12 a6_13, zAr T 0 a1_8 7 f1, zAr T 0 a2_9 7 f2, zAr T 0 a3_10 7 f3, zAr T 0 a4_11 n4 f4, zAr T 0 a5_12 n4 (upd x5 i (nI (aT W_ L_ (m_ + 1) i))), zAr T 0 a6_13 n4 f6] := ⟨a1_8, a2_9, a3_10, a4_11, a5_12, a6_13, rfl⟩
        have G : zS T A s.heap s [[zO0 h md wy la pc_ a1_8 a2_9 a3_10 a4_11 a5_12 a6_13, zAr T 0 a1_8 7 f1, zAr T 0 a2_9 7 f2, zAr T 0 a3_10 7 f3, zAr T 0 a4_11 n4 f4, zAr T 0 a5_12 n4 (upd x5 i (nI (aT W_ L_ (m_ + 1) i))), zAr T 0 a6_13 n4 f6]] _ _ := G.re rfl
        exact ih_2 (i + 1) ([zO0 h md wy la pc_ a1_8 a2_9 a3_10 a4_11 a5_12 a6_13, zAr T 0 a1_8 7 f1, zAr T 0 a2_9 7 f2, zAr T 0 a3_10 7 f3, zAr T 0 a4_11 n4 f4, zAr T 0 a5_12 n4 (upd x5 i (nI (aT W_ L_ (m_ + 1) i))), zAr T 0 a6_13 n4 f6]) (upd x5 i (nI (aT W_ L_ (m_ + 1) i))) (show bWays T h la md wy pc_ f1 f2 f3 f4 (upd x5 i (nI (aT W_ L_ (m_ + 1) i))) f6 n4 ([zO0 h md wy la pc_ a1_8 a2_9 a3_10 a4_11 a5_12 a6_13, zAr T 0 a1_8 7 f1, zAr T 0 a2_9 7 f2, zAr T 0 a3_10 7 f3, zAr T 0 a4_11 n4 f4, zAr T 0 a5_12 n4 (upd x5 i (nI (aT W_ L_ (m_ + 1) i))), zAr T 0 a6_13 n4 f6]) ∧ (i + 1) ≤ pc_.toInt.toNat ∧ (∀ j, j < (i + 1) → (upd x5 i (nI (aT W_ L_ (m_ + 1) i))) j = nI (aT W_ L_ (m_ + 1) j)) ∧ (∀ j, (i + 1) ≤ j → j < 8 * aPr W_ 7 → (upd x5 i (nI (aT W_ L_ (m_ + 1) i))) j = nI (aT W_ L_ m_ j)) from ⟨hw_27, by omega, z_upS0 (f := fun j => nI (aT W_ L_ (m_ + 1) j)) hx5 rfl, fun j h1 h2 => (z_ne (by omega)).trans (hy5 j (by omega) h2)⟩) (show pc_.toInt.toNat - (i + 1) < pc_.toInt.toNat - i from by omega) _ _ ls G (lv_sub hl [0, 3] rfl)
set_option maxHeartbeats 4000000 in
set_option maxRecDepth 100000 in
/-- make -/
theorem c_f_make (l : Launch) (T : zTy) (h : Nat) (la : Nat) (md : Int32) (wy : Int32) (pc_ : Int32) (f1 : Nat → Int32) (f2 : Nat → Int32) (f3 : Nat → Int32) (f4 : Nat → Int32) (f5 : Nat → Int32) (f6 : Nat → Int32) (n4 : Nat) (ww : va_W) (o : Nat) (cr : Int32) (inn : Int32) (k1 : Nat → Int32) (k2 : Nat → Int32) (k3 : Nat → Int32) (k4 : Nat → Int32) (z : va_W) (hww : bWays T h la md wy pc_ f1 f2 f3 f4 f5 f6 n4 ww) (hz : bLand T o cr inn k1 k2 k3 k4 z) (hI : zLI cr k1 k3) (hO : aOk (aW cr inn k1) k2) (hpw : zPw n4) (hmd : md = 0 ∨ la = o) (hT : md = 0 ∨ zTab cr inn k1 k2 wy pc_ f1 f2 f5 n4) : zMv l T yX0_make cX0_make 3 5 3 (6 * (zMk md n4 (zPl cr inn k1) - n4)) [.ref h, .ref o] [ww, z] (fun bs => ∃ (w2 : va_W) (m2 : Int32) (pc2 : Int32) (g1 : Nat → Int32) (g2 : Nat → Int32) (g4 : Nat → Int32) (g5 : Nat → Int32) (g6 : Nat → Int32), bs = [w2, z] ∧ bWays T h o m2 (zWy cr inn k1) pc2 g1 g2 f3 g4 g5 g6 (zMk md n4 (zPl cr inn k1)) w2 ∧ ¬ m2 = 0 ∧ zTab cr inn k1 k2 (zWy cr inn k1) pc2 g1 g2 g5 (zMk md n4 (zPl cr inn k1))) := by
  refine zMv_of (own := RX0) (by decide) rfl (Nat.le_of_ble_eq_true rfl) ?_
  intro p e s m args below meth c A ls C hr hlocks hnm hAe G hl
  refine zHide (fun Qz_ hQz_ => ?_)
  have hx := C.1
  have hb := C.2.1
  replace hmd : zHd (md = 0 ∨ la = o) := hmd
  replace hT : zHd (md = 0 ∨ zTab cr inn k1 k2 wy pc_ f1 f2 f5 n4) := hT
  have hl : lv_has ls 3 [(0, .ref h), (1, .ref o)] := hl
  refine lv_aload_n hx hb dX0_make_0 rfl (lv_at hl 0 rfl) ?_
  refine zEx6 hww ?_
  intro a1_1 a2_2 a3_3 a4_4 a5_5 a6_6 hbs9
  clear hww
  subst hbs9
  have G : zS T A s.heap s [[zO0 h md wy la pc_ a1_1 a2_2 a3_3 a4_4 a5_5 a6_6], [zAr T 0 a1_1 7 f1], [zAr T 0 a2_2 7 f2], [zAr T 0 a3_3 7 f3], [zAr T 0 a4_4 n4 f4], [zAr T 0 a5_5 n4 f5], [zAr T 0 a6_6 n4 f6], z] _ _ := G.re rfl
  refine z_get C G clX0 0 rfl 0 (by decide) m_fl_RX0_37 rfl dX0_make_1 ?_
  refine lv_if_eq (tgt := 8) hx hb dX0_make_4 (by decide) (fun c_7 => ?_) (fun c_7 => ?_)
  · have c_7n : md.toInt = (0 : Int) := (fa_eq _ _).mp c_7
    have hM : zMk md n4 (zPl cr inn k1) = zNl n4 (zPl cr inn k1) := by unfold zMk; rw [if_pos (by first | with_reducible assumption | assumption)]
    have hpl := zPl_le cr inn k1
    have hpw2 := zNl_pw (pl := zPl cr inn k1) hpw
    have hn2 := zPw_le hpw2
    have hwi := zWy_in (inn := inn) hI
    have hzp : (zPl cr inn k1).toInt = ((8 * aPr (aW cr inn k1) 7 : Nat) : Int) := by have q9 := aPr_7 (inn := inn) hI; rw [zPl_z hI, nI_toInt (by omega)]
    have hzn : 8 * aPr (aW cr inn k1) 7 ≤ zNl n4 (zPl cr inn k1) := by have q9 := zNl_le (n := n4) hpl; omega
    refine lv_aload_n hx hb dX0_make_8 rfl (lv_at hl 0 rfl) ?_
    refine lv_aload_n hx hb dX0_make_9 rfl (lv_at hl 1 rfl) ?_
    have hw_8 : bWays T h la md wy pc_ f1 f2 f3 f4 f5 f6 n4 [zO0 h md wy la pc_ a1_1 a2_2 a3_3 a4_4 a5_5 a6_6, zAr T 0 a1_1 7 f1, zAr T 0 a2_2 7 f2, zAr T 0 a3_3 7 f3, zAr T 0 a4_4 n4 f4, zAr T 0 a5_5 n4 f5, zAr T 0 a6_6 n4 f6] := ⟨a1_1, a2_2, a3_3, a4_4, a5_5, a6_6, rfl⟩
    have G : zS T A s.heap s [[zO0 h md wy la pc_ a1_1 a2_2 a3_3 a4_4 a5_5 a6_6, zAr T 0 a1_1 7 f1, zAr T 0 a2_2 7 f2, zAr T 0 a3_3 7 f3, zAr T 0 a4_4 n4 f4, zAr T 0 a5_5 n4 f5, zAr T 0 a6_6 n4 f6], z] _ _ := G.re rfl
    refine z_Vv (bc := [[zO0 h md wy la pc_ a1_1 a2_2 a3_3 a4_4 a5_5 a6_6, zAr T 0 a1_1 7 f1, zAr T 0 a2_2 7 f2, zAr T 0 a3_3 7 f3, zAr T 0 a4_4 n4 f4, zAr T 0 a5_5 n4 f5, zAr T 0 a6_6 n4 f6], z]) (br := []) (As := [.ref o]) (rest := []) C G (c_f_countWays l T h la md wy pc_ f1 f2 f3 f4 f5 f6 n4 ([zO0 h md wy la pc_ a1_1 a2_2 a3_3 a4_4 a5_5 a6_6, zAr T 0 a1_1 7 f1, zAr T 0 a2_2 7 f2, zAr T 0 a3_3 7 f3, zAr T 0 a4_4 n4 f4, zAr T 0 a5_5 n4 f5, zAr T 0 a6_6 n4 f6]) o cr inn k1 k2 k3 k4 z hw_8 hz) (kV_RX0_41 C.2.2.2.2 (Nat.le_of_ble_eq_true rfl) (Nat.le_of_ble_eq_true rfl)) [0, 1] [0, 0] rfl rfl (ci := 0) (qc := (RX0, TX0, 10)) rfl rfl (List.mem_flatten.mpr ⟨_, List.mem_of_getElem? (i := 0) rfl, (bWays_mem hw_8).choose_spec⟩) rfl rfl hl.1 dX0_make_10 (Nat.le_of_ble_eq_true rfl) (by show _ + 0 ≤ 6 * (zMk md n4 (zPl cr inn k1) - n4); omega) (fun b1 H locs hw G => ?_)
    refine zEx3 hw ?_
    intro w2_9 g1_10 g2_11
    refine zCu3 ?_
    intro hbs9 h_12 h_13
    clear hw
    subst hbs9
    have G : zS T A s.heap s [w2_9, z] _ _ := G
    refine lv_aload_n hx hb dX0_make_13 rfl (lv_at hl 0 rfl) ?_
    refine z_Vv (bc := [w2_9]) (br := [z]) (As := []) (rest := []) C G (c_Ways_grow l T h o md (zWy cr inn k1) (zPl cr inn k1) g1_10 g2_11 f3 f4 f5 f6 n4 w2_9 h_12 (by first | with_reducible assumption | with_reducible rfl | omega | assumption | rfl) (by first | with_reducible assumption | with_reducible rfl | omega | assumption | rfl)) (kV_RX0_45 C.2.2.2.2 (Nat.le_of_ble_eq_true rfl) (Nat.le_of_ble_eq_true rfl)) [0] [0] rfl rfl (ci := 0) (qc := (RX0, TX0, 10)) rfl rfl (List.mem_flatten.mpr ⟨_, List.mem_of_getElem? (i := 0) rfl, (bWays_mem h_12).choose_spec⟩) rfl rfl hl.1 dX0_make_14 (Nat.le_of_ble_eq_true rfl) (by show _ + (6 * (zNl n4 (zPl cr inn k1) - n4)) ≤ 6 * (zMk md n4 (zPl cr inn k1) - n4); omega) (fun b1 H locs hw G => ?_)
    refine zEx4 hw ?_
    intro w2_15 g4_16 g5_17 g6_18
    refine zCu2 ?_
    intro hbs9 h_19
    clear hw
    subst hbs9
    have G : zS T A s.heap s [z, w2_15] _ _ := G
    refine lv_aload_n hx hb dX0_make_17 rfl (lv_at hl 0 rfl) ?_
    refine z_Vv (bc := [w2_15, z]) (br := []) (As := []) (rest := []) C G (c_f_stepOnce l T h o md (zWy cr inn k1) (zPl cr inn k1) g1_10 g2_11 f3 g4_16 g5_17 g6_18 (zNl n4 (zPl cr inn k1)) w2_15 cr inn k1 k2 k3 k4 z h_19 hz (by first | with_reducible assumption | with_reducible rfl | omega | assumption | rfl) h_13 hO hzp hzn hn2) (kV_RX0_48 C.2.2.2.2 (Nat.le_of_ble_eq_true rfl) (Nat.le_of_ble_eq_true rfl)) [1, 0] [0, 0] rfl rfl (ci := 0) (qc := (RX0, TX0, 10)) rfl rfl (List.mem_flatten.mpr ⟨_, List.mem_of_getElem? (i := 0) rfl, (bWays_mem h_19).choose_spec⟩) rfl rfl hl.1 dX0_make_18 (Nat.le_of_ble_eq_true rfl) (by show _ + 0 ≤ 6 * (zMk md n4 (zPl cr inn k1) - n4); omega) (fun b1 H locs hw G => ?_)
    refine zEx3 hw ?_
    intro w2_21 g4_22 g5_23
    refine zCu4 ?_
    intro hbs9 h_24 h_25 h_26
    clear hw
    subst hbs9
    have G : zS T A s.heap s [w2_21, z] _ _ := G
    refine lv_sipush (v := 128) hx hb dX0_make_21 (by decide) ?_
    refine lv_istore_n (lv' := [(2, .int 128), (0, .ref h), (1, .ref o)]) hx hb dX0_make_24 rfl hl (by decide) (zLvf_h rfl) (fun ls hl => ?_)
    refine lv_iload_n hx hb dX0_make_25 rfl (lv_at hl 0 rfl) ?_
    refine lv_if_le (tgt := 52) hx hb dX0_make_26 (by decide) (fun q => absurd q (by decide)) (fun _ => ?_)
    refine lv_aload_n hx hb dX0_make_29 rfl (lv_at hl 1 rfl) ?_
    refine z_Vv (bc := [w2_21]) (br := [z]) (As := []) (rest := []) C G (c_f_doubleAll l T h o md (zWy cr inn k1) (zPl cr inn k1) g1_10 g2_11 f3 g4_22 g5_23 g6_18 (zNl n4 (zPl cr inn k1)) w2_21 (aW cr inn k1) k2 1 h_24 hO hzp hzn hn2 (by decide) h_26) (kV_RX0_51 C.2.2.2.2 (Nat.le_of_ble_eq_true rfl) (Nat.le_of_ble_eq_true rfl)) [0] [0] rfl rfl (ci := 0) (qc := (RX0, TX0, 10)) rfl rfl (List.mem_flatten.mpr ⟨_, List.mem_of_getElem? (i := 0) rfl, (bWays_mem h_24).choose_spec⟩) rfl rfl hl.1 dX0_make_30 (Nat.le_of_ble_eq_true rfl) (by show _ + 0 ≤ 6 * (zMk md n4 (zPl cr inn k1) - n4); omega) (fun b1 H locs hw G => ?_)
    refine zEx3 hw ?_
    intro w2_28 g5_29 g6_30
    refine zCu3 ?_
    intro hbs9 h_31 h_32
    clear hw
    subst hbs9
    have G : zS T A s.heap s [z, w2_28] _ _ := G
    refine lv_sipush (v := 499) hx hb dX0_make_33 (by decide) ?_
    refine lv_iload_n hx hb dX0_make_36 rfl (lv_at hl 0 rfl) ?_
    refine lv_iand hx hb dX0_make_37 ?_
    refine lv_topi (fun y_34 ey_34 => ?_)
    obtain rfl : y_34 = 128 := ey_34.trans (by decide)
    refine lv_if_eq (tgt := 45) hx hb dX0_make_38 (by decide) (fun q => absurd q (by decide)) (fun _ => ?_)
    refine lv_aload_n hx hb dX0_make_41 rfl (lv_at hl 1 rfl) ?_
    refine z_Vv (bc := [w2_28]) (br := [z]) (As := []) (rest := []) C G (c_f_oneMore l T h o md (zWy cr inn k1) (zPl cr inn k1) g1_10 g2_11 f3 g4_22 g5_29 g6_30 (zNl n4 (zPl cr inn k1)) w2_28 (aW cr inn k1) k2 2 h_31 hO hzp hzn hn2 (by decide) h_32 h_25) (kV_RX0_54 C.2.2.2.2 (Nat.le_of_ble_eq_true rfl) (Nat.le_of_ble_eq_true rfl)) [1] [1] rfl rfl (ci := 0) (qc := (RX0, TX0, 10)) rfl rfl (List.mem_flatten.mpr ⟨_, List.mem_of_getElem? (i := 0) rfl, (bWays_mem h_31).choose_spec⟩) rfl rfl hl.1 dX0_make_42 (Nat.le_of_ble_eq_true rfl) (by show _ + 0 ≤ 6 * (zMk md n4 (zPl cr inn k1) - n4); omega) (fun b1 H locs hw G => ?_)
    refine zEx3 hw ?_
    intro w2_35 g5_36 g6_37
    refine zCu3 ?_
    intro hbs9 h_38 h_39
    clear hw
    subst hbs9
    have G : zS T A s.heap s [z, w2_35] _ _ := G
    refine lv_iload_n hx hb dX0_make_45 rfl (lv_at hl 0 rfl) ?_
    refine lv_iconst (v := 1) hx hb dX0_make_46 (by decide) ?_
    refine lv_ishr hx hb dX0_make_47 ?_
    refine lv_topi (fun y_41 ey_41 => ?_)
    obtain rfl : y_41 = 64 := ey_41.trans (by decide)
    refine lv_istore_n (lv' := [(2, .int 64), (0, .ref h), (1, .ref o)]) hx hb dX0_make_48 rfl hl (by decide) (zLvf_h rfl) (fun ls hl => ?_)
    refine lv_goto (tgt := 25) hx hb dX0_make_49 (by decide) ?_
    refine lv_iload_n hx hb dX0_make_25 rfl (lv_at hl 0 rfl) ?_
    refine lv_if_le (tgt := 52) hx hb dX0_make_26 (by decide) (fun q => absurd q (by decide)) (fun _ => ?_)
    refine lv_aload_n hx hb dX0_make_29 rfl (lv_at hl 1 rfl) ?_
    refine z_Vv (bc := [w2_35]) (br := [z]) (As := []) (rest := []) C G (c_f_doubleAll l T h o md (zWy cr inn k1) (zPl cr inn k1) g1_10 g2_11 f3 g4_22 g5_36 g6_37 (zNl n4 (zPl cr inn k1)) w2_35 (aW cr inn k1) k2 3 h_38 hO hzp hzn hn2 (by decide) h_39) (kV_RX0_51 C.2.2.2.2 (Nat.le_of_ble_eq_true rfl) (Nat.le_of_ble_eq_true rfl)) [1] [1] rfl rfl (ci := 0) (qc := (RX0, TX0, 10)) rfl rfl (List.mem_flatten.mpr ⟨_, List.mem_of_getElem? (i := 0) rfl, (bWays_mem h_38).choose_spec⟩) rfl rfl hl.1 dX0_make_30 (Nat.le_of_ble_eq_true rfl) (by show _ + 0 ≤ 6 * (zMk md n4 (zPl cr inn k1) - n4); omega) (fun b1 H locs hw G => ?_)
    refine zEx3 hw ?_
    intro w2_42 g5_43 g6_44
    refine zCu3 ?_
    intro hbs9 h_45 h_46
    clear hw
    subst hbs9
    have G : zS T A s.heap s [z, w2_42] _ _ := G
    refine lv_sipush (v := 499) hx hb dX0_make_33 (by decide) ?_
    refine lv_iload_n hx hb dX0_make_36 rfl (lv_at hl 0 rfl) ?_
    refine lv_iand hx hb dX0_make_37 ?_
    refine lv_topi (fun y_48 ey_48 => ?_)
    obtain rfl : y_48 = 64 := ey_48.trans (by decide)
    refine lv_if_eq (tgt := 45) hx hb dX0_make_38 (by decide) (fun q => absurd q (by decide)) (fun _ => ?_)
    refine lv_aload_n hx hb dX0_make_41 rfl (lv_at hl 1 rfl) ?_
    refine z_Vv (bc := [w2_42]) (br := [z]) (As := []) (rest := []) C G (c_f_oneMore l T h o md (zWy cr inn k1) (zPl cr inn k1) g1_10 g2_11 f3 g4_22 g5_43 g6_44 (zNl n4 (zPl cr inn k1)) w2_42 (aW cr inn k1) k2 6 h_45 hO hzp hzn hn2 (by decide) h_46 h_25) (kV_RX0_54 C.2.2.2.2 (Nat.le_of_ble_eq_true rfl) (Nat.le_of_ble_eq_true rfl)) [1] [1] rfl rfl (ci := 0) (qc := (RX0, TX0, 10)) rfl rfl (List.mem_flatten.mpr ⟨_, List.mem_of_getElem? (i := 0) rfl, (bWays_mem h_45).choose_spec⟩) rfl rfl hl.1 dX0_make_42 (Nat.le_of_ble_eq_true rfl) (by show _ + 0 ≤ 6 * (zMk md n4 (zPl cr inn k1) - n4); omega) (fun b1 H locs hw G => ?_)
    refine zEx3 hw ?_
    intro w2_49 g5_50 g6_51
    refine zCu3 ?_
    intro hbs9 h_52 h_53
    clear hw
    subst hbs9
    have G : zS T A s.heap s [z, w2_49] _ _ := G
    refine lv_iload_n hx hb dX0_make_45 rfl (lv_at hl 0 rfl) ?_
    refine lv_iconst (v := 1) hx hb dX0_make_46 (by decide) ?_
    refine lv_ishr hx hb dX0_make_47 ?_
    refine lv_topi (fun y_55 ey_55 => ?_)
    obtain rfl : y_55 = 32 := ey_55.trans (by decide)
    refine lv_istore_n (lv' := [(2, .int 32), (0, .ref h), (1, .ref o)]) hx hb dX0_make_48 rfl hl (by decide) (zLvf_h rfl) (fun ls hl => ?_)
    refine lv_goto (tgt := 25) hx hb dX0_make_49 (by decide) ?_
    refine lv_iload_n hx hb dX0_make_25 rfl (lv_at hl 0 rfl) ?_
    refine lv_if_le (tgt := 52) hx hb dX0_make_26 (by decide) (fun q => absurd q (by decide)) (fun _ => ?_)
    refine lv_aload_n hx hb dX0_make_29 rfl (lv_at hl 1 rfl) ?_
    refine z_Vv (bc := [w2_49]) (br := [z]) (As := []) (rest := []) C G (c_f_doubleAll l T h o md (zWy cr inn k1) (zPl cr inn k1) g1_10 g2_11 f3 g4_22 g5_50 g6_51 (zNl n4 (zPl cr inn k1)) w2_49 (aW cr inn k1) k2 7 h_52 hO hzp hzn hn2 (by decide) h_53) (kV_RX0_51 C.2.2.2.2 (Nat.le_of_ble_eq_true rfl) (Nat.le_of_ble_eq_true rfl)) [1] [1] rfl rfl (ci := 0) (qc := (RX0, TX0, 10)) rfl rfl (List.mem_flatten.mpr ⟨_, List.mem_of_getElem? (i := 0) rfl, (bWays_mem h_52).choose_spec⟩) rfl rfl hl.1 dX0_make_30 (Nat.le_of_ble_eq_true rfl) (by show _ + 0 ≤ 6 * (zMk md n4 (zPl cr inn k1) - n4); omega) (fun b1 H locs hw G => ?_)
    refine zEx3 hw ?_
    intro w2_56 g5_57 g6_58
    refine zCu3 ?_
    intro hbs9 h_59 h_60
    clear hw
    subst hbs9
    have G : zS T A s.heap s [z, w2_56] _ _ := G
    refine lv_sipush (v := 499) hx hb dX0_make_33 (by decide) ?_
    refine lv_iload_n hx hb dX0_make_36 rfl (lv_at hl 0 rfl) ?_
    refine lv_iand hx hb dX0_make_37 ?_
    refine lv_topi (fun y_62 ey_62 => ?_)
    obtain rfl : y_62 = 32 := ey_62.trans (by decide)
    refine lv_if_eq (tgt := 45) hx hb dX0_make_38 (by decide) (fun q => absurd q (by decide)) (fun _ => ?_)
    refine lv_aload_n hx hb dX0_make_41 rfl (lv_at hl 1 rfl) ?_
    refine z_Vv (bc := [w2_56]) (br := [z]) (As := []) (rest := []) C G (c_f_oneMore l T h o md (zWy cr inn k1) (zPl cr inn k1) g1_10 g2_11 f3 g4_22 g5_57 g6_58 (zNl n4 (zPl cr inn k1)) w2_56 (aW cr inn k1) k2 14 h_59 hO hzp hzn hn2 (by decide) h_60 h_25) (kV_RX0_54 C.2.2.2.2 (Nat.le_of_ble_eq_true rfl) (Nat.le_of_ble_eq_true rfl)) [1] [1] rfl rfl (ci := 0) (qc := (RX0, TX0, 10)) rfl rfl (List.mem_flatten.mpr ⟨_, List.mem_of_getElem? (i := 0) rfl, (bWays_mem h_59).choose_spec⟩) rfl rfl hl.1 dX0_make_42 (Nat.le_of_ble_eq_true rfl) (by show _ + 0 ≤ 6 * (zMk md n4 (zPl cr inn k1) - n4); omega) (fun b1 H locs hw G => ?_)
    refine zEx3 hw ?_
    intro w2_63 g5_64 g6_65
    refine zCu3 ?_
    intro hbs9 h_66 h_67
    clear hw
    subst hbs9
    have G : zS T A s.heap s [z, w2_63] _ _ := G
    refine lv_iload_n hx hb dX0_make_45 rfl (lv_at hl 0 rfl) ?_
    refine lv_iconst (v := 1) hx hb dX0_make_46 (by decide) ?_
    refine lv_ishr hx hb dX0_make_47 ?_
    refine lv_topi (fun y_69 ey_69 => ?_)
    obtain rfl : y_69 = 16 := ey_69.trans (by decide)
    refine lv_istore_n (lv' := [(2, .int 16), (0, .ref h), (1, .ref o)]) hx hb dX0_make_48 rfl hl (by decide) (zLvf_h rfl) (fun ls hl => ?_)
    refine lv_goto (tgt := 25) hx hb dX0_make_49 (by decide) ?_
    refine lv_iload_n hx hb dX0_make_25 rfl (lv_at hl 0 rfl) ?_
    refine lv_if_le (tgt := 52) hx hb dX0_make_26 (by decide) (fun q => absurd q (by decide)) (fun _ => ?_)
    refine lv_aload_n hx hb dX0_make_29 rfl (lv_at hl 1 rfl) ?_
    refine z_Vv (bc := [w2_63]) (br := [z]) (As := []) (rest := []) C G (c_f_doubleAll l T h o md (zWy cr inn k1) (zPl cr inn k1) g1_10 g2_11 f3 g4_22 g5_64 g6_65 (zNl n4 (zPl cr inn k1)) w2_63 (aW cr inn k1) k2 15 h_66 hO hzp hzn hn2 (by decide) h_67) (kV_RX0_51 C.2.2.2.2 (Nat.le_of_ble_eq_true rfl) (Nat.le_of_ble_eq_true rfl)) [1] [1] rfl rfl (ci := 0) (qc := (RX0, TX0, 10)) rfl rfl (List.mem_flatten.mpr ⟨_, List.mem_of_getElem? (i := 0) rfl, (bWays_mem h_66).choose_spec⟩) rfl rfl hl.1 dX0_make_30 (Nat.le_of_ble_eq_true rfl) (by show _ + 0 ≤ 6 * (zMk md n4 (zPl cr inn k1) - n4); omega) (fun b1 H locs hw G => ?_)
    refine zEx3 hw ?_
    intro w2_70 g5_71 g6_72
    refine zCu3 ?_
    intro hbs9 h_73 h_74
    clear hw
    subst hbs9
    have G : zS T A s.heap s [z, w2_70] _ _ := G
    refine lv_sipush (v := 499) hx hb dX0_make_33 (by decide) ?_
    refine lv_iload_n hx hb dX0_make_36 rfl (lv_at hl 0 rfl) ?_
    refine lv_iand hx hb dX0_make_37 ?_
    refine lv_topi (fun y_76 ey_76 => ?_)
    obtain rfl : y_76 = 16 := ey_76.trans (by decide)
    refine lv_if_eq (tgt := 45) hx hb dX0_make_38 (by decide) (fun q => absurd q (by decide)) (fun _ => ?_)
    refine lv_aload_n hx hb dX0_make_41 rfl (lv_at hl 1 rfl) ?_
    refine z_Vv (bc := [w2_70]) (br := [z]) (As := []) (rest := []) C G (c_f_oneMore l T h o md (zWy cr inn k1) (zPl cr inn k1) g1_10 g2_11 f3 g4_22 g5_71 g6_72 (zNl n4 (zPl cr inn k1)) w2_70 (aW cr inn k1) k2 30 h_73 hO hzp hzn hn2 (by decide) h_74 h_25) (kV_RX0_54 C.2.2.2.2 (Nat.le_of_ble_eq_true rfl) (Nat.le_of_ble_eq_true rfl)) [1] [1] rfl rfl (ci := 0) (qc := (RX0, TX0, 10)) rfl rfl (List.mem_flatten.mpr ⟨_, List.mem_of_getElem? (i := 0) rfl, (bWays_mem h_73).choose_spec⟩) rfl rfl hl.1 dX0_make_42 (Nat.le_of_ble_eq_true rfl) (by show _ + 0 ≤ 6 * (zMk md n4 (zPl cr inn k1) - n4); omega) (fun b1 H locs hw G => ?_)
    refine zEx3 hw ?_
    intro w2_77 g5_78 g6_79
    refine zCu3 ?_
    intro hbs9 h_80 h_81
    clear hw
    subst hbs9
    have G : zS T A s.heap s [z, w2_77] _ _ := G
    refine lv_iload_n hx hb dX0_make_45 rfl (lv_at hl 0 rfl) ?_
    refine lv_iconst (v := 1) hx hb dX0_make_46 (by decide) ?_
    refine lv_ishr hx hb dX0_make_47 ?_
    refine lv_topi (fun y_83 ey_83 => ?_)
    obtain rfl : y_83 = 8 := ey_83.trans (by decide)
    refine lv_istore_n (lv' := [(2, .int 8), (0, .ref h), (1, .ref o)]) hx hb dX0_make_48 rfl hl (by decide) (zLvf_h rfl) (fun ls hl => ?_)
    refine lv_goto (tgt := 25) hx hb dX0_make_49 (by decide) ?_
    refine lv_iload_n hx hb dX0_make_25 rfl (lv_at hl 0 rfl) ?_
    refine lv_if_le (tgt := 52) hx hb dX0_make_26 (by decide) (fun q => absurd q (by decide)) (fun _ => ?_)
    refine lv_aload_n hx hb dX0_make_29 rfl (lv_at hl 1 rfl) ?_
    refine z_Vv (bc := [w2_77]) (br := [z]) (As := []) (rest := []) C G (c_f_doubleAll l T h o md (zWy cr inn k1) (zPl cr inn k1) g1_10 g2_11 f3 g4_22 g5_78 g6_79 (zNl n4 (zPl cr inn k1)) w2_77 (aW cr inn k1) k2 31 h_80 hO hzp hzn hn2 (by decide) h_81) (kV_RX0_51 C.2.2.2.2 (Nat.le_of_ble_eq_true rfl) (Nat.le_of_ble_eq_true rfl)) [1] [1] rfl rfl (ci := 0) (qc := (RX0, TX0, 10)) rfl rfl (List.mem_flatten.mpr ⟨_, List.mem_of_getElem? (i := 0) rfl, (bWays_mem h_80).choose_spec⟩) rfl rfl hl.1 dX0_make_30 (Nat.le_of_ble_eq_true rfl) (by show _ + 0 ≤ 6 * (zMk md n4 (zPl cr inn k1) - n4); omega) (fun b1 H locs hw G => ?_)
    refine zEx3 hw ?_
    intro w2_84 g5_85 g6_86
    refine zCu3 ?_
    intro hbs9 h_87 h_88
    clear hw
    subst hbs9
    have G : zS T A s.heap s [z, w2_84] _ _ := G
    refine lv_sipush (v := 499) hx hb dX0_make_33 (by decide) ?_
    refine lv_iload_n hx hb dX0_make_36 rfl (lv_at hl 0 rfl) ?_
    refine lv_iand hx hb dX0_make_37 ?_
    refine lv_topi (fun y_90 ey_90 => ?_)
    obtain rfl : y_90 = 0 := ey_90.trans (by decide)
    refine lv_if_eq (tgt := 45) hx hb dX0_make_38 (by decide) (fun _ => ?_) (fun q => absurd (by decide) q)
    refine lv_iload_n hx hb dX0_make_45 rfl (lv_at hl 0 rfl) ?_
    refine lv_iconst (v := 1) hx hb dX0_make_46 (by decide) ?_
    refine lv_ishr hx hb dX0_make_47 ?_
    refine lv_topi (fun y_91 ey_91 => ?_)
    obtain rfl : y_91 = 4 := ey_91.trans (by decide)
    refine lv_istore_n (lv' := [(2, .int 4), (0, .ref h), (1, .ref o)]) hx hb dX0_make_48 rfl hl (by decide) (zLvf_h rfl) (fun ls hl => ?_)
    refine lv_goto (tgt := 25) hx hb dX0_make_49 (by decide) ?_
    refine lv_iload_n hx hb dX0_make_25 rfl (lv_at hl 0 rfl) ?_
    refine lv_if_le (tgt := 52) hx hb dX0_make_26 (by decide) (fun q => absurd q (by decide)) (fun _ => ?_)
    refine lv_aload_n hx hb dX0_make_29 rfl (lv_at hl 1 rfl) ?_
    refine z_Vv (bc := [w2_84]) (br := [z]) (As := []) (rest := []) C G (c_f_doubleAll l T h o md (zWy cr inn k1) (zPl cr inn k1) g1_10 g2_11 f3 g4_22 g5_85 g6_86 (zNl n4 (zPl cr inn k1)) w2_84 (aW cr inn k1) k2 62 h_87 hO hzp hzn hn2 (by decide) h_88) (kV_RX0_51 C.2.2.2.2 (Nat.le_of_ble_eq_true rfl) (Nat.le_of_ble_eq_true rfl)) [1] [1] rfl rfl (ci := 0) (qc := (RX0, TX0, 10)) rfl rfl (List.mem_flatten.mpr ⟨_, List.mem_of_getElem? (i := 0) rfl, (bWays_mem h_87).choose_spec⟩) rfl rfl hl.1 dX0_make_30 (Nat.le_of_ble_eq_true rfl) (by show _ + 0 ≤ 6 * (zMk md n4 (zPl cr inn k1) - n4); omega) (fun b1 H locs hw G => ?_)
    refine zEx3 hw ?_
    intro w2_92 g5_93 g6_94
    refine zCu3 ?_
    intro hbs9 h_95 h_96
    clear hw
    subst hbs9
    have G : zS T A s.heap s [z, w2_92] _ _ := G
    refine lv_sipush (v := 499) hx hb dX0_make_33 (by decide) ?_
    refine lv_iload_n hx hb dX0_make_36 rfl (lv_at hl 0 rfl) ?_
    refine lv_iand hx hb dX0_make_37 ?_
    refine lv_topi (fun y_98 ey_98 => ?_)
    obtain rfl : y_98 = 0 := ey_98.trans (by decide)
    refine lv_if_eq (tgt := 45) hx hb dX0_make_38 (by decide) (fun _ => ?_) (fun q => absurd (by decide) q)
    refine lv_iload_n hx hb dX0_make_45 rfl (lv_at hl 0 rfl) ?_
    refine lv_iconst (v := 1) hx hb dX0_make_46 (by decide) ?_
    refine lv_ishr hx hb dX0_make_47 ?_
    refine lv_topi (fun y_99 ey_99 => ?_)
    obtain rfl : y_99 = 2 := ey_99.trans (by decide)
    refine lv_istore_n (lv' := [(2, .int 2), (0, .ref h), (1, .ref o)]) hx hb dX0_make_48 rfl hl (by decide) (zLvf_h rfl) (fun ls hl => ?_)
    refine lv_goto (tgt := 25) hx hb dX0_make_49 (by decide) ?_
    refine lv_iload_n hx hb dX0_make_25 rfl (lv_at hl 0 rfl) ?_
    refine lv_if_le (tgt := 52) hx hb dX0_make_26 (by decide) (fun q => absurd q (by decide)) (fun _ => ?_)
    refine lv_aload_n hx hb dX0_make_29 rfl (lv_at hl 1 rfl) ?_
    refine z_Vv (bc := [w2_92]) (br := [z]) (As := []) (rest := []) C G (c_f_doubleAll l T h o md (zWy cr inn k1) (zPl cr inn k1) g1_10 g2_11 f3 g4_22 g5_93 g6_94 (zNl n4 (zPl cr inn k1)) w2_92 (aW cr inn k1) k2 124 h_95 hO hzp hzn hn2 (by decide) h_96) (kV_RX0_51 C.2.2.2.2 (Nat.le_of_ble_eq_true rfl) (Nat.le_of_ble_eq_true rfl)) [1] [1] rfl rfl (ci := 0) (qc := (RX0, TX0, 10)) rfl rfl (List.mem_flatten.mpr ⟨_, List.mem_of_getElem? (i := 0) rfl, (bWays_mem h_95).choose_spec⟩) rfl rfl hl.1 dX0_make_30 (Nat.le_of_ble_eq_true rfl) (by show _ + 0 ≤ 6 * (zMk md n4 (zPl cr inn k1) - n4); omega) (fun b1 H locs hw G => ?_)
    refine zEx3 hw ?_
    intro w2_100 g5_101 g6_102
    refine zCu3 ?_
    intro hbs9 h_103 h_104
    clear hw
    subst hbs9
    have G : zS T A s.heap s [z, w2_100] _ _ := G
    refine lv_sipush (v := 499) hx hb dX0_make_33 (by decide) ?_
    refine lv_iload_n hx hb dX0_make_36 rfl (lv_at hl 0 rfl) ?_
    refine lv_iand hx hb dX0_make_37 ?_
    refine lv_topi (fun y_106 ey_106 => ?_)
    obtain rfl : y_106 = 2 := ey_106.trans (by decide)
    refine lv_if_eq (tgt := 45) hx hb dX0_make_38 (by decide) (fun q => absurd q (by decide)) (fun _ => ?_)
    refine lv_aload_n hx hb dX0_make_41 rfl (lv_at hl 1 rfl) ?_
    refine z_Vv (bc := [w2_100]) (br := [z]) (As := []) (rest := []) C G (c_f_oneMore l T h o md (zWy cr inn k1) (zPl cr inn k1) g1_10 g2_11 f3 g4_22 g5_101 g6_102 (zNl n4 (zPl cr inn k1)) w2_100 (aW cr inn k1) k2 248 h_103 hO hzp hzn hn2 (by decide) h_104 h_25) (kV_RX0_54 C.2.2.2.2 (Nat.le_of_ble_eq_true rfl) (Nat.le_of_ble_eq_true rfl)) [1] [1] rfl rfl (ci := 0) (qc := (RX0, TX0, 10)) rfl rfl (List.mem_flatten.mpr ⟨_, List.mem_of_getElem? (i := 0) rfl, (bWays_mem h_103).choose_spec⟩) rfl rfl hl.1 dX0_make_42 (Nat.le_of_ble_eq_true rfl) (by show _ + 0 ≤ 6 * (zMk md n4 (zPl cr inn k1) - n4); omega) (fun b1 H locs hw G => ?_)
    refine zEx3 hw ?_
    intro w2_107 g5_108 g6_109
    refine zCu3 ?_
    intro hbs9 h_110 h_111
    clear hw
    subst hbs9
    have G : zS T A s.heap s [z, w2_107] _ _ := G
    refine lv_iload_n hx hb dX0_make_45 rfl (lv_at hl 0 rfl) ?_
    refine lv_iconst (v := 1) hx hb dX0_make_46 (by decide) ?_
    refine lv_ishr hx hb dX0_make_47 ?_
    refine lv_topi (fun y_113 ey_113 => ?_)
    obtain rfl : y_113 = 1 := ey_113.trans (by decide)
    refine lv_istore_n (lv' := [(2, .int 1), (0, .ref h), (1, .ref o)]) hx hb dX0_make_48 rfl hl (by decide) (zLvf_h rfl) (fun ls hl => ?_)
    refine lv_goto (tgt := 25) hx hb dX0_make_49 (by decide) ?_
    refine lv_iload_n hx hb dX0_make_25 rfl (lv_at hl 0 rfl) ?_
    refine lv_if_le (tgt := 52) hx hb dX0_make_26 (by decide) (fun q => absurd q (by decide)) (fun _ => ?_)
    refine lv_aload_n hx hb dX0_make_29 rfl (lv_at hl 1 rfl) ?_
    refine z_Vv (bc := [w2_107]) (br := [z]) (As := []) (rest := []) C G (c_f_doubleAll l T h o md (zWy cr inn k1) (zPl cr inn k1) g1_10 g2_11 f3 g4_22 g5_108 g6_109 (zNl n4 (zPl cr inn k1)) w2_107 (aW cr inn k1) k2 249 h_110 hO hzp hzn hn2 (by decide) h_111) (kV_RX0_51 C.2.2.2.2 (Nat.le_of_ble_eq_true rfl) (Nat.le_of_ble_eq_true rfl)) [1] [1] rfl rfl (ci := 0) (qc := (RX0, TX0, 10)) rfl rfl (List.mem_flatten.mpr ⟨_, List.mem_of_getElem? (i := 0) rfl, (bWays_mem h_110).choose_spec⟩) rfl rfl hl.1 dX0_make_30 (Nat.le_of_ble_eq_true rfl) (by show _ + 0 ≤ 6 * (zMk md n4 (zPl cr inn k1) - n4); omega) (fun b1 H locs hw G => ?_)
    refine zEx3 hw ?_
    intro w2_114 g5_115 g6_116
    refine zCu3 ?_
    intro hbs9 h_117 h_118
    clear hw
    subst hbs9
    have G : zS T A s.heap s [z, w2_114] _ _ := G
    refine lv_sipush (v := 499) hx hb dX0_make_33 (by decide) ?_
    refine lv_iload_n hx hb dX0_make_36 rfl (lv_at hl 0 rfl) ?_
    refine lv_iand hx hb dX0_make_37 ?_
    refine lv_topi (fun y_120 ey_120 => ?_)
    obtain rfl : y_120 = 1 := ey_120.trans (by decide)
    refine lv_if_eq (tgt := 45) hx hb dX0_make_38 (by decide) (fun q => absurd q (by decide)) (fun _ => ?_)
    refine lv_aload_n hx hb dX0_make_41 rfl (lv_at hl 1 rfl) ?_
    refine z_Vv (bc := [w2_114]) (br := [z]) (As := []) (rest := []) C G (c_f_oneMore l T h o md (zWy cr inn k1) (zPl cr inn k1) g1_10 g2_11 f3 g4_22 g5_115 g6_116 (zNl n4 (zPl cr inn k1)) w2_114 (aW cr inn k1) k2 498 h_117 hO hzp hzn hn2 (by decide) h_118 h_25) (kV_RX0_54 C.2.2.2.2 (Nat.le_of_ble_eq_true rfl) (Nat.le_of_ble_eq_true rfl)) [1] [1] rfl rfl (ci := 0) (qc := (RX0, TX0, 10)) rfl rfl (List.mem_flatten.mpr ⟨_, List.mem_of_getElem? (i := 0) rfl, (bWays_mem h_117).choose_spec⟩) rfl rfl hl.1 dX0_make_42 (Nat.le_of_ble_eq_true rfl) (by show _ + 0 ≤ 6 * (zMk md n4 (zPl cr inn k1) - n4); omega) (fun b1 H locs hw G => ?_)
    refine zEx3 hw ?_
    intro w2_121 g5_122 g6_123
    refine zCu3 ?_
    intro hbs9 h_124 h_125
    clear hw
    subst hbs9
    have G : zS T A s.heap s [z, w2_121] _ _ := G
    refine lv_iload_n hx hb dX0_make_45 rfl (lv_at hl 0 rfl) ?_
    refine lv_iconst (v := 1) hx hb dX0_make_46 (by decide) ?_
    refine lv_ishr hx hb dX0_make_47 ?_
    refine lv_topi (fun y_127 ey_127 => ?_)
    obtain rfl : y_127 = 0 := ey_127.trans (by decide)
    refine lv_istore_n (lv' := [(2, .int 0), (0, .ref h), (1, .ref o)]) hx hb dX0_make_48 rfl hl (by decide) (zLvf_h rfl) (fun ls hl => ?_)
    refine lv_goto (tgt := 25) hx hb dX0_make_49 (by decide) ?_
    refine lv_iload_n hx hb dX0_make_25 rfl (lv_at hl 0 rfl) ?_
    refine lv_if_le (tgt := 52) hx hb dX0_make_26 (by decide) (fun _ => ?_) (fun q => absurd (by decide) q)
    refine lv_aload_n hx hb dX0_make_52 rfl (lv_at hl 1 rfl) ?_
    refine lv_iconst (v := 1) hx hb dX0_make_53 (by decide) ?_
    refine zEx6 h_124 ?_
    intro a1_128 a2_129 a3_130 a4_131 a5_132 a6_133 hbs9
    clear h_124
    subst hbs9
    have G : zS T A s.heap s [z, [zO0 h md (zWy cr inn k1) o (zPl cr inn k1) a1_128 a2_129 a3_130 a4_131 a5_132 a6_133], [zAr T 0 a1_128 7 g1_10], [zAr T 0 a2_129 7 g2_11], [zAr T 0 a3_130 7 f3], [zAr T 0 a4_131 (zNl n4 (zPl cr inn k1)) g4_22], [zAr T 0 a5_132 (zNl n4 (zPl cr inn k1)) g5_122], [zAr T 0 a6_133 (zNl n4 (zPl cr inn k1)) g6_123]] _ _ := G.re rfl
    refine z_put C G clX0 1 rfl 0 (by decide) m_fl_RX0_37 rfl rfl rfl (Nat.le_of_ble_eq_true rfl) dX0_make_54 (fun H locs G => ?_)
    have G : zS T A s.heap s [z, [zO0 h 1 (zWy cr inn k1) o (zPl cr inn k1) a1_128 a2_129 a3_130 a4_131 a5_132 a6_133], [zAr T 0 a1_128 7 g1_10], [zAr T 0 a2_129 7 g2_11], [zAr T 0 a3_130 7 f3], [zAr T 0 a4_131 (zNl n4 (zPl cr inn k1)) g4_22], [zAr T 0 a5_132 (zNl n4 (zPl cr inn k1)) g5_122], [zAr T 0 a6_133 (zNl n4 (zPl cr inn k1)) g6_123]] _ _ := G
    have hw_134 : bWays T h o 1 (zWy cr inn k1) (zPl cr inn k1) g1_10 g2_11 f3 g4_22 g5_122 g6_123 (zNl n4 (zPl cr inn k1)) [zO0 h 1 (zWy cr inn k1) o (zPl cr inn k1) a1_128 a2_129 a3_130 a4_131 a5_132 a6_133, zAr T 0 a1_128 7 g1_10, zAr T 0 a2_129 7 g2_11, zAr T 0 a3_130 7 f3, zAr T 0 a4_131 (zNl n4 (zPl cr inn k1)) g4_22, zAr T 0 a5_132 (zNl n4 (zPl cr inn k1)) g5_122, zAr T 0 a6_133 (zNl n4 (zPl cr inn k1)) g6_123] := ⟨a1_128, a2_129, a3_130, a4_131, a5_132, a6_133, rfl⟩
    have G : zS T A s.heap s [z, [zO0 h 1 (zWy cr inn k1) o (zPl cr inn k1) a1_128 a2_129 a3_130 a4_131 a5_132 a6_133, zAr T 0 a1_128 7 g1_10, zAr T 0 a2_129 7 g2_11, zAr T 0 a3_130 7 f3, zAr T 0 a4_131 (zNl n4 (zPl cr inn k1)) g4_22, zAr T 0 a5_132 (zNl n4 (zPl cr inn k1)) g5_122, zAr T 0 a6_133 (zNl n4 (zPl cr inn k1)) g6_123]] _ _ := G.re rfl
    have G := G.sub (bs' := [[zO0 h 1 (zWy cr inn k1) o (zPl cr inn k1) a1_128 a2_129 a3_130 a4_131 a5_132 a6_133, zAr T 0 a1_128 7 g1_10, zAr T 0 a2_129 7 g2_11, zAr T 0 a3_130 7 f3, zAr T 0 a4_131 (zNl n4 (zPl cr inn k1)) g4_22, zAr T 0 a5_132 (zNl n4 (zPl cr inn k1)) g5_122, zAr T 0 a6_133 (zNl n4 (zPl cr inn k1)) g6_123], z]) [1, 0] rfl
    exact z_back hQz_ (z_vret C hr hlocks G (Nat.le_of_ble_eq_true rfl) (by omega) dX0_make_57 ⟨([zO0 h 1 (zWy cr inn k1) o (zPl cr inn k1) a1_128 a2_129 a3_130 a4_131 a5_132 a6_133, zAr T 0 a1_128 7 g1_10, zAr T 0 a2_129 7 g2_11, zAr T 0 a3_130 7 f3, zAr T 0 a4_131 (zNl n4 (zPl cr inn k1)) g4_22, zAr T 0 a5_132 (zNl n4 (zPl cr inn k1)) g5_122, zAr T 0 a6_133 (zNl n4 (zPl cr inn k1)) g6_123]), 1, (zPl cr inn k1), g1_10, g2_11, g4_22, g5_122, g6_123, rfl, (hM.symm ▸ hw_134), (by decide), (by rw [hM]; exact ⟨rfl, rfl, h_13, hzn, h_125⟩)⟩)
  · have c_7n : ¬ md.toInt = (0 : Int) := fun q => c_7 ((fa_eq _ _).mpr q)
    obtain rfl : la = o := hmd.resolve_left (by first | with_reducible assumption | assumption)
    have hM : n4 = zMk md n4 (zPl cr inn k1) := by unfold zMk; rw [if_neg (by first | with_reducible assumption | assumption)]
    have hT9 := hT.resolve_left (by first | with_reducible assumption | assumption)
    obtain rfl := hT9.1
    have hw_135 : bWays T h la md (zWy cr inn k1) pc_ f1 f2 f3 f4 f5 f6 n4 [zO0 h md (zWy cr inn k1) la pc_ a1_1 a2_2 a3_3 a4_4 a5_5 a6_6, zAr T 0 a1_1 7 f1, zAr T 0 a2_2 7 f2, zAr T 0 a3_3 7 f3, zAr T 0 a4_4 n4 f4, zAr T 0 a5_5 n4 f5, zAr T 0 a6_6 n4 f6] := ⟨a1_1, a2_2, a3_3, a4_4, a5_5, a6_6, rfl⟩
    have G : zS T A s.heap s [[zO0 h md (zWy cr inn k1) la pc_ a1_1 a2_2 a3_3 a4_4 a5_5 a6_6, zAr T 0 a1_1 7 f1, zAr T 0 a2_2 7 f2, zAr T 0 a3_3 7 f3, zAr T 0 a4_4 n4 f4, zAr T 0 a5_5 n4 f5, zAr T 0 a6_6 n4 f6], z] _ _ := G.re rfl
    exact z_back hQz_ (z_vret C hr hlocks G (Nat.le_of_ble_eq_true rfl) (by omega) dX0_make_7 ⟨([zO0 h md (zWy cr inn k1) la pc_ a1_1 a2_2 a3_3 a4_4 a5_5 a6_6, zAr T 0 a1_1 7 f1, zAr T 0 a2_2 7 f2, zAr T 0 a3_3 7 f3, zAr T 0 a4_4 n4 f4, zAr T 0 a5_5 n4 f5, zAr T 0 a6_6 n4 f6]), md, pc_, f1, f2, f4, f5, f6, rfl, (hM ▸ hw_135), (by first | with_reducible assumption | assumption), (hM ▸ hT9)⟩)
/-- the way as told, by its last n digits -/
def aDg (W P : Nat → Int32) (c : Nat) : Nat := if 0 < (W c).toInt then (P c).toInt.toNat else 0
def aRs (W P : Nat → Int32) : Nat → Nat
  | 0 => 0
  | n + 1 => aDg W P (6 - n) * aPr W n + aRs W P n
/-- its first n digits -/
def aFs (W P : Nat → Int32) : Nat → Nat
  | 0 => 0
  | n + 1 => aFs W P n + aDg W P n * aPr W (6 - n)
theorem aFs_r {W P : Nat → Int32} : ∀ n, n ≤ 7 → aFs W P n + aRs W P (7 - n) = aRs W P 7
  | 0, _ => Nat.zero_add _
  | n + 1, h => by
    have ih := aFs_r (W := W) (P := P) n (by omega)
    have e : aRs W P (7 - n) = aDg W P n * aPr W (6 - n) + aRs W P (6 - n) := by
      rw [show 7 - n = (6 - n) + 1 by omega]
      show aDg W P (6 - (6 - n)) * aPr W (6 - n) + aRs W P (6 - n) = _
      rw [show 6 - (6 - n) = n by omega]
    rw [show 7 - (n + 1) = 6 - n by omega]
    show aFs W P n + aDg W P n * aPr W (6 - n) + aRs W P (6 - n) = aRs W P 7
    omega
theorem aFs_7 {W P : Nat → Int32} : aFs W P 7 = aRs W P 7 := by
  have e := aFs_r (W := W) (P := P) 7 (Nat.le_refl _)
  have e0 : aRs W P (7 - 7) = 0 := rfl
  omega
theorem aDg_lt {W P : Nat → Int32} {c : Nat} (h : 0 < (W c).toInt → (P c).toInt = 0 ∨ (P c).toInt < (W c).toInt) : aDg W P c < aCh W c := by
  have p := aCh_p (W := W) (c := c)
  unfold aDg
  by_cases q : 0 < (W c).toInt
  · rw [if_pos q]
    have e : aCh W c = (W c).toInt.toNat := if_neg (by omega)
    have h := h q
    omega
  · rw [if_neg q]
    exact p
theorem aRs_lt {W P : Nat → Int32} (h : ∀ c, c < 7 → 0 < (W c).toInt → (P c).toInt = 0 ∨ (P c).toInt < (W c).toInt) : ∀ n, n ≤ 7 → aRs W P n < aPr W n
  | 0, _ => Nat.zero_lt_one
  | n + 1, hn => by
    have ih := aRs_lt h n (by omega)
    have d := aDg_lt (h (6 - n) (by omega))
    have m : (aDg W P (6 - n) + 1) * aPr W n ≤ aCh W (6 - n) * aPr W n := Nat.mul_le_mul_right _ d
    rw [Nat.add_mul, Nat.one_mul, Nat.mul_comm (aCh W (6 - n))] at m
    show aDg W P (6 - n) * aPr W n + aRs W P n < aPr W n * aCh W (6 - n)
    omega
theorem aRs_q {W P : Nat → Int32} (m : Nat) : ∀ k, ∃ q, aRs W P (m + k) = q * aPr W m + aRs W P m
  | 0 => ⟨0, by rw [Nat.zero_mul, Nat.zero_add]; rfl⟩
  | k + 1 => by
    obtain ⟨q, e⟩ := aRs_q (W := W) (P := P) m k
    obtain ⟨s, hs⟩ := aPr_m (W := W) m k
    refine ⟨aDg W P (6 - (m + k)) * s + q, ?_⟩
    show aDg W P (6 - (m + k)) * aPr W (m + k) + aRs W P (m + k) = _
    rw [e, hs, Nat.add_mul, Nat.mul_comm (aPr W m) s, Nat.mul_assoc, Nat.add_assoc]
theorem aRs_d {W P : Nat → Int32} (h : ∀ c, c < 7 → 0 < (W c).toInt → (P c).toInt = 0 ∨ (P c).toInt < (W c).toInt) {c : Nat} (hc : c < 7) : aRd W (aRs W P 7) c = aDg W P c := by
  obtain ⟨q, e⟩ := aRs_q (W := W) (P := P) (7 - c) c
  rw [show 7 - c + c = 7 by omega] at e
  have e2 : aRs W P (7 - c) = aDg W P c * aPr W (6 - c) + aRs W P (6 - c) := by
    rw [show 7 - c = (6 - c) + 1 by omega]
    show aDg W P (6 - (6 - c)) * aPr W (6 - c) + aRs W P (6 - c) = _
    rw [show 6 - (6 - c) = c by omega]
  have e3 : aPr W (7 - c) = aPr W (6 - c) * aCh W c := by
    rw [show 7 - c = 6 - c + 1 by omega]
    exact aPr_s (by omega)
  have D := (aDq (q := q) (d := aDg W P c) (r := aRs W P (6 - c)) (p := aPr W (6 - c)) (m := aCh W c) (aPr_p _) (aDg_lt (h c hc)) (aRs_lt h _ (by omega))).2.1
  unfold aRd
  rw [e, e2, e3, ← Nat.add_assoc]
  exact D
theorem aDg_cg {W V P Q : Nat → Int32} {c : Nat} (h1 : W c = V c) (h2 : P c = Q c) : aDg W P c = aDg V Q c := by
  unfold aDg
  rw [h1, h2]
theorem aCh_cg {W V : Nat → Int32} {c : Nat} (h : W c = V c) : aCh W c = aCh V c := by
  unfold aCh
  rw [h]
theorem aPr_cg {W V : Nat → Int32} (h : ∀ j, j < 7 → W j = V j) : ∀ n, aPr W n = aPr V n
  | 0 => rfl
  | n + 1 => by
    show aPr W n * aCh W (6 - n) = aPr V n * aCh V (6 - n)
    rw [aPr_cg h n, aCh_cg (h (6 - n) (by omega))]
theorem aRs_cg {W V P Q : Nat → Int32} (h : ∀ j, j < 7 → W j = V j) (h2 : ∀ j, j < 7 → P j = Q j) : ∀ n, aRs W P n = aRs V Q n
  | 0 => rfl
  | n + 1 => by
    show aDg W P (6 - n) * aPr W n + aRs W P n = aDg V Q (6 - n) * aPr V n + aRs V Q n
    rw [aRs_cg h h2 n, aPr_cg h n, aDg_cg (h (6 - n) (by omega)) (h2 (6 - n) (by omega))]
theorem aRd_cg {W V : Nat → Int32} (h : ∀ j, j < 7 → W j = V j) {w c : Nat} (hc : c < 7) : aRd W w c = aRd V w c := by
  unfold aRd
  rw [aPr_cg h, aCh_cg (h c hc)]
theorem aTn_cg {W V : Nat → Int32} (h : ∀ j, j < 7 → W j = V j) {w c : Nat} (hc : c < 7) : aTn W w c = aTn V w c := by
  unfold aTn
  rw [aPr_cg h, aPr_cg h, aRd_cg h hc, aCh_cg (h c hc)]
theorem aN_cg {W V L M : Nat → Int32} (h : ∀ j, j < 7 → W j = V j) (hL : zLs W L M) (h4 : ∀ j, j < 7 → (W j).toInt ≤ 4) : ∀ n w c k, aN W L n w c k = aN V M n w c k
  | 0, w, c, k => rfl
  | n + 1, w, c, k => by
    by_cases q : c < 7 ∧ 0 < (W c).toInt
    · have e1 : aN W L (n + 1) w c k = aN W L n (aTn W w c) (L (4 * c + aRd W (aTn W w c) c)).toInt.toNat (k + 1) := if_pos q
      have e2 : aN V M (n + 1) w c k = aN V M n (aTn V w c) (M (4 * c + aRd V (aTn V w c) c)).toInt.toNat (k + 1) := if_pos ⟨q.1, by rw [← h c q.1]; exact q.2⟩
      have rl := aRd_lt (W := W) (w := aTn W w c) (c := c)
      have ch : aCh W c = (W c).toInt.toNat := if_neg (by omega)
      have b4 := h4 c q.1
      rw [e1, e2, ← aTn_cg h q.1, ← aRd_cg h q.1, ← hL c _ q.1 (show aRd W (aTn W w c) c < 4 by omega) (by omega)]
      exact aN_cg h hL h4 n _ _ _
    · rw [aN_s q, aN_s (fun z => q ⟨z.1, by rw [h c z.1]; exact z.2⟩)]
theorem aWo_1 {f : Nat → Int32} {z n c : Int32} (h : ¬ zInn n c) (h1 : 0 < (zRd f z c).toInt) (h0 : 0 ≤ c.toInt) (h6 : c.toInt ≤ 6) : zRd f z c = nI (aCh (zWo f z n) c.toInt.toNat) ∧ 0 < (zWo f z n c.toInt.toNat).toInt := by
  have e2 : nI c.toInt.toNat = c := (z_nI (by omega) (by omega)).symm
  have e : zWo f z n c.toInt.toNat = zRd f z c := if_neg (by rw [e2]; exact h)
  refine ⟨?_, by rw [e]; exact h1⟩
  unfold aCh
  rw [e, if_neg (by omega)]
  exact z_nI (by omega) (by have := Int32.toInt_lt (zRd f z c); omega)
theorem aWo_0 {f : Nat → Int32} {z n c : Int32} (h : zInn n c ∨ (zRd f z c).toInt ≤ 0) (h0 : 0 ≤ c.toInt) (h6 : c.toInt ≤ 6) : (zWo f z n c.toInt.toNat).toInt ≤ 0 ∧ aCh (zWo f z n) c.toInt.toNat = 1 := by
  have e2 : nI c.toInt.toNat = c := (z_nI (by omega) (by omega)).symm
  have q : (zWo f z n c.toInt.toNat).toInt ≤ 0 := by
    unfold zWo
    by_cases g : zBit n (nI c.toInt.toNat) = 1
    · rw [if_pos g]
      decide
    · rw [if_neg g]
      rw [e2] at g
      exact (h.resolve_left g)
  exact ⟨q, if_pos q⟩
theorem aCh_m {f : Nat → Int32} {z cr n : Int32} (h : zML f z cr) {c : Nat} (hc : c < 7) : aCh (zWo f z n) c ≤ 4 := by
  have r : 0 ≤ (zRo f z c).toInt ∧ (zRo f z c).toInt ≤ 4 := (h.2.2.2.1 c hc).1
  unfold aCh zWo
  by_cases g : zBit n (nI c) = 1
  · rw [if_pos g, if_pos (by decide)]
    decide
  · rw [if_neg g]
    split <;> omega
/-- behind the last crossing: no roads -/
def zVZ (f : Nat → Int32) (z : Int32) (cr : Int32) : Prop := ∀ j : Nat, j < 7 → cr.toInt ≤ (j : Int) → (zRo f z j).toInt ≤ 0
theorem zVZ_w {f : Nat → Int32} {z cr n : Int32} (h : zVZ f z cr) {j : Nat} (hj : j < 7) (hc : cr.toInt ≤ (j : Int)) : (zWo f z n j).toInt ≤ 0 := by
  unfold zWo
  split
  · decide
  · exact h j hj hc
def aQr (W : Nat → Int32) : Nat → Nat
  | 0 => 1
  | n + 1 => aQr W n * aCh W n
theorem aQr_e {W : Nat → Int32} : ∀ n, n ≤ 7 → aPr W n * aQr W (7 - n) = aQr W 7
  | 0, _ => Nat.one_mul _
  | n + 1, h => by
    have ih := aQr_e (W := W) n (by omega)
    have e : aQr W (7 - n) = aQr W (6 - n) * aCh W (6 - n) := by
      rw [show 7 - n = (6 - n) + 1 by omega]
      rfl
    rw [e] at ih
    rw [show 7 - (n + 1) = 6 - n by omega]
    show aPr W n * aCh W (6 - n) * aQr W (6 - n) = _
    rw [Nat.mul_assoc, Nat.mul_comm (aCh W (6 - n))]
    exact ih
theorem aQr_7 {W : Nat → Int32} : aPr W 7 = aQr W 7 := by
  have e := aQr_e (W := W) 7 (Nat.le_refl _)
  have e0 : aQr W (7 - 7) = 1 := rfl
  rw [e0, Nat.mul_one] at e
  exact e
theorem aQr_c {W : Nat → Int32} {c : Nat} (h : ∀ j, j < 7 → c ≤ j → aCh W j = 1) : ∀ n, c + n ≤ 7 → aQr W (c + n) = aQr W c
  | 0, _ => rfl
  | n + 1, hn => by
    show aQr W (c + n) * aCh W (c + n) = _
    rw [aQr_c h n (by omega), h (c + n) (by omega) (by omega), Nat.mul_one]
theorem aPr_c {W : Nat → Int32} {c : Nat} (h : ∀ j, j < 7 → c ≤ j → aCh W j = 1) : ∀ n, c + n ≤ 7 → aPr W n = 1
  | 0, _ => rfl
  | n + 1, hn => by
    show aPr W n * aCh W (6 - n) = 1
    rw [aPr_c h n (by omega), h (6 - n) (by omega) (by omega)]
theorem zVZ_c {f : Nat → Int32} {z cr n : Int32} (h : zVZ f z cr) {c : Nat} (hc : cr.toInt = (c : Int)) : ∀ j, j < 7 → c ≤ j → aCh (zWo f z n) j = 1 := fun j hj q => if_pos (zVZ_w h hj (by omega))
/-- the digits set from the last one on -/
def zMVp (R P : Nat → Int32) (c : Int) : Prop := ∀ k : Nat, k < 7 → c < (k : Int) → (R k).toInt ≤ 0 ∨ (P k).toInt = 0 ∨ (P k).toInt < (R k).toInt
theorem zMVp_u {R P : Nat → Int32} {c v : Int32} {d : Int} (h : zMVp R P c.toInt) (h0 : 0 ≤ c.toInt) (hd : d = c.toInt - 1) (hv : v.toInt = 0 ∨ v.toInt < (R c.toInt.toNat).toInt) : zMVp R (upd P c.toNatClampNeg v) d := by
  intro k hk hc
  have e := z_clI h0
  by_cases q : k = c.toNatClampNeg
  · rw [z_eq q, show R k = R c.toInt.toNat from congrArg R q]
    exact Or.inr hv
  · rw [z_ne q]
    exact h k hk (by omega)
def zPwp (W : Nat → Int32) (w : Nat) (P : Nat → Int32) (c cr : Int) : Prop := ∀ k : Nat, k < 7 → c < (k : Int) → (k : Int) < cr → P k = aPo W w k
theorem zPwp_u {W P : Nat → Int32} {w : Nat} {c v : Int32} {d cr : Int} (h : zPwp W w P c.toInt cr) (h0 : 0 ≤ c.toInt) (hd : d = c.toInt - 1) (hv : v = aPo W w c.toInt.toNat) : zPwp W w (upd P c.toNatClampNeg v) d cr := by
  intro k hk hc hr
  have e := z_clI h0
  by_cases q : k = c.toNatClampNeg
  · rw [z_eq q, hv]
    exact congrArg (aPo W w) q.symm
  · rw [z_ne q]
    exact h k hk (by omega) hr
/-- one digit more -/
theorem aSw {W : Nat → Int32} {w : Nat} {c lf rd : Int32} (hw : w < 2147483648) (h0 : 0 ≤ c.toInt) (h6 : c.toInt ≤ 6) (hl : lf = nI (w / aPr W (6 - c.toInt).toNat)) (hr : rd = nI (aCh W c.toInt.toNat)) (h4 : aCh W c.toInt.toNat ≤ 4) : lf - lf / rd * rd = aPo W w c.toInt.toNat ∧ lf / rd = nI (w / aPr W (7 - c.toInt).toNat) := by
  have p1 := aCh_p (W := W) (c := c.toInt.toNat)
  have d := Nat.div_le_self w (aPr W (6 - c.toInt).toNat)
  have e6 : 6 - c.toInt.toNat = (6 - c.toInt).toNat := by omega
  rw [hl, hr, pk_rem (by omega) (by omega) (by omega), pk_div (by omega) (by omega) (by omega)]
  constructor
  · unfold aPo aRd
    rw [e6]
  · rw [Nat.div_div_eq_div_mul, show (7 - c.toInt).toNat = (6 - c.toInt.toNat) + 1 by omega, aPr_s (by omega), e6]
theorem aPo_1 {W : Nat → Int32} {w c : Nat} (h : aCh W c = 1) : (0 : Int32) = aPo W w c := by
  unfold aPo aRd
  rw [h, Nat.mod_one]
  rfl
/-- which posts two ways set unlike -/
def aUn (W : Nat → Int32) (w v : Nat) : Nat → Int32
  | 0 => 0
  | n + 1 => aUn W w v n ||| (if aRd W w n = aRd W v n then (0 : Int32) else (1 : Int32) <<< (nI n &&& 31))
def aNu (W : Nat → Int32) (w : Nat) : Nat → Int32
  | 0 => 1
  | n + 1 => aNu W w n * 10 + nI (aRd W w n)
theorem aPo_q {W : Nat → Int32} {w v c : Nat} {p t : Int32} (h4 : aCh W c ≤ 4) (hp : p = aPo W w c) (ht : t = aPo W v c) : p = t ↔ aRd W w c = aRd W v c := by
  have l1 := aRd_lt (W := W) (w := w) (c := c)
  have l2 := aRd_lt (W := W) (w := v) (c := c)
  rw [hp, ht]
  constructor
  · intro q
    have q := congrArg Int32.toInt q
    unfold aPo at q
    rw [nI_toInt (by omega), nI_toInt (by omega)] at q
    omega
  · intro q
    unfold aPo
    rw [q]
set_option maxHeartbeats 4000000 in
set_option maxRecDepth 100000 in
/-- c_fm_waysMany -/
theorem c_fm_waysMany (l : Launch) (T : zTy) (mo : Nat) (m_all : Nat) (m_has : Nat) (i_size : Int32) (i_next : Int32) (i_where : Int32) (i_token : Int32) (i_number : Int32) (i_word : Int32) (i_wrong : Int32) (i_farCrossing : Int32) (m_read : Nat) (i_z0 : Int32) (i_crossings : Int32) (i_inns : Int32) (m_posts : Nat) (m_shut : Nat) (m_here : Nat) (i_steps : Int32) (i_done : Int32) (i_at : Int32) (i_gone : Int32) (m_was : Nat) (m_came : Nat) (m_seenAt : Nat) (m_rowWorth : Nat) (m_farBy : Nat) (m_used : Nat) (i_everywhere : Int32) (i_again0 : Int32) (i_d0 : Int32) (i_never : Int32) (i_firstCame : Int32) (i_longRun : Int32) (i_moved : Int32) (i_crowd : Int32) (i_l0 : Int32) (i_fitMany : Int32) (i_fitLeast : Int32) (i_fitMost : Int32) (m_fitPost : Nat) (m_fitEnd : Nat) (m_keptPosts : Nat) (i_x0 : Int32) (f_all : Nat → Int32) (hL : zML f_all i_z0 i_crossings) (hZ : zVZ f_all i_z0 i_crossings) : zMi l T yX12_waysMany cX12_waysMany 3 (some .int) 3 0 0 [.ref mo] [[zO11 mo m_all m_has i_size i_next i_where i_token i_number i_word i_wrong i_farCrossing m_read i_z0 i_crossings i_inns m_posts m_shut m_here i_steps i_done i_at i_gone m_was m_came m_seenAt m_rowWorth m_farBy m_used i_everywhere i_again0 i_d0 i_never i_firstCame i_longRun i_moved i_crowd i_l0 i_fitMany i_fitLeast i_fitMost m_fitPost m_fitEnd m_keptPosts i_x0], [zAr T 0 m_all 3952 f_all]] (fun (r : Int32) bs => bs = [[zO11 mo m_all m_has i_size i_next i_where i_token i_number i_word i_wrong i_farCrossing m_read i_z0 i_crossings i_inns m_posts m_shut m_here i_steps i_done i_at i_gone m_was m_came m_seenAt m_rowWorth m_farBy m_used i_everywhere i_again0 i_d0 i_never i_firstCame i_longRun i_moved i_crowd i_l0 i_fitMany i_fitLeast i_fitMost m_fitPost m_fitEnd m_keptPosts i_x0], [zAr T 0 m_all 3952 f_all]] ∧ 1 ≤ r.toInt ∧ r.toInt ≤ 16384 ∧ r = nI (aPr (zWo f_all i_z0 i_inns) 7)) := by
  refine zMi_of (own := RX12) (by decide) rfl (Nat.le_of_ble_eq_true rfl) ?_
  intro p e s m args below meth c A ls C hr hlocks hnm hAe G hl
  refine zHide (fun Qz_ hQz_ => ?_)
  have hx := C.1
  have hb := C.2.1
  have hl : lv_has ls 3 [(0, .ref mo)] := hl
  have hz := hL.1
  have hcr := hL.cr
  refine lv_iconst (v := 1) hx hb dX12_waysMany_0 (by decide) ?_
  refine lv_istore_n (lv' := [(1, .int 1), (0, .ref mo)]) hx hb dX12_waysMany_1 rfl hl (by decide) (zLvf_h rfl) (fun ls hl => ?_)
  refine lv_iconst (v := 0) hx hb dX12_waysMany_2 (by decide) ?_
  refine lv_istore_n (lv' := [(2, .int 0), (1, .int 1), (0, .ref mo)]) hx hb dX12_waysMany_3 rfl hl (by decide) (zLvf_h rfl) (fun ls hl => ?_)
  refine z_lp2 (T := T) 4 (fun (i : Nat) (v : Int32) => [[zO11 mo m_all m_has i_size i_next i_where i_token i_number i_word i_wrong i_farCrossing m_read i_z0 i_crossings i_inns m_posts m_shut m_here i_steps i_done i_at i_gone m_was m_came m_seenAt m_rowWorth m_farBy m_used i_everywhere i_again0 i_d0 i_never i_firstCame i_longRun i_moved i_crowd i_l0 i_fitMany i_fitLeast i_fitMost m_fitPost m_fitEnd m_keptPosts i_x0], [zAr T 0 m_all 3952 f_all]]) (fun (i : Nat) (v : Int32) => [(2, .int (nI i)), (1, .int v), (0, .ref mo)]) (fun (i : Nat) (v : Int32) => i ≤ 7 ∧ (1 ≤ v.toInt ∧ v.toInt ≤ ((4 ^ i : Nat) : Int)) ∧ (i : Int) ≤ i_crossings.toInt ∧ v = nI (aQr (zWo f_all i_z0 i_inns) i)) (fun (i : Nat) (v : Int32) => 7 - i) ?_ 0 1 (show 0 ≤ 7 ∧ (1 ≤ (1 : Int32).toInt ∧ (1 : Int32).toInt ≤ ((4 ^ 0 : Nat) : Int)) ∧ (0 : Int) ≤ i_crossings.toInt ∧ 1 = nI (aQr (zWo f_all i_z0 i_inns) 0) from ⟨by omega, (by decide), by omega, rfl⟩) G (lv_sub hl [0, 1, 2] rfl)
  intro i v hI9 ih_4 H locs ls G hl
  replace hI9 : i ≤ 7 ∧ (1 ≤ v.toInt ∧ v.toInt ≤ ((4 ^ i : Nat) : Int)) ∧ (i : Int) ≤ i_crossings.toInt ∧ v = nI (aQr (zWo f_all i_z0 i_inns) i) := hI9
  refine zAn4 hI9 ?_
  intro hi hv hic hw
  clear hI9
  replace G : zS T A s.heap s [[zO11 mo m_all m_has i_size i_next i_where i_token i_number i_word i_wrong i_farCrossing m_read i_z0 i_crossings i_inns m_posts m_shut m_here i_steps i_done i_at i_gone m_was m_came m_seenAt m_rowWorth m_farBy m_used i_everywhere i_again0 i_d0 i_never i_firstCame i_longRun i_moved i_crowd i_l0 i_fitMany i_fitLeast i_fitMost m_fitPost m_fitEnd m_keptPosts i_x0], [zAr T 0 m_all 3952 f_all]] _ _ := G
  replace hl : lv_has ls 3 [(2, .int (nI i)), (1, .int v), (0, .ref mo)] := hl
  refine lv_iload_n hx hb dX12_waysMany_4 rfl (lv_at hl 0 rfl) ?_
  refine lv_aload_n hx hb dX12_waysMany_5 rfl (lv_at hl 2 rfl) ?_
  refine z_get C G clX12 0 rfl 12 (by decide) m_fl_RX12_169 rfl dX12_waysMany_6 ?_
  refine lv_icmp_ge (tgt := 38) hx hb dX12_waysMany_9 (by decide) (fun c_1 => ?_) (fun c_1 => ?_)
  · have c_1n : i_crossings.toInt ≤ (i : Int) := by have q := (fa_le _ _).mp c_1; rw [nI_toInt (n := i) (by omega)] at q; exact q
    refine lv_iload_n hx hb dX12_waysMany_38 rfl (lv_at hl 1 rfl) ?_
    exact z_back hQz_ (z_iret C hr hlocks G (Nat.le_of_ble_eq_true rfl) (Nat.le_of_ble_eq_true rfl) dX12_waysMany_39 ⟨rfl, hv.1, (Int.le_trans hv.2 (zP4 (by omega))), (by rw [hw, aQr_7]; exact congrArg nI ((congrArg (aQr (zWo f_all i_z0 i_inns)) (show 7 = i + (7 - i) by omega)).trans (aQr_c (zVZ_c hZ (by omega)) _ (by omega))).symm)⟩)
  · have c_1n : ¬ i_crossings.toInt ≤ (i : Int) := fun q => c_1 ((fa_le _ _).mpr (by rw [nI_toInt (n := i) (by omega)]; exact q))
    refine lv_iload_n hx hb dX12_waysMany_12 rfl (lv_at hl 1 rfl) ?_
    refine lv_aload_n hx hb dX12_waysMany_13 rfl (lv_at hl 2 rfl) ?_
    refine lv_iload_n hx hb dX12_waysMany_14 rfl (lv_at hl 0 rfl) ?_
    have ti_2 : (nI i).toInt = ((i : Nat) : Int) := nI_toInt (by omega)
    refine z_Vi (bc := [[zO11 mo m_all m_has i_size i_next i_where i_token i_number i_word i_wrong i_farCrossing m_read i_z0 i_crossings i_inns m_posts m_shut m_here i_steps i_done i_at i_gone m_was m_came m_seenAt m_rowWorth m_farBy m_used i_everywhere i_again0 i_d0 i_never i_firstCame i_longRun i_moved i_crowd i_l0 i_fitMany i_fitLeast i_fitMost m_fitPost m_fitEnd m_keptPosts i_x0], [zAr T 0 m_all 3952 f_all]]) (br := []) (As := [.int (nI i)]) (rest := [.int v]) C G (c_m_isFree l T mo m_all m_has i_size i_next i_where i_token i_number i_word i_wrong i_farCrossing m_read i_z0 i_crossings i_inns m_posts m_shut m_here i_steps i_done i_at i_gone m_was m_came m_seenAt m_rowWorth m_farBy m_used i_everywhere i_again0 i_d0 i_never i_firstCame i_longRun i_moved i_crowd i_l0 i_fitMany i_fitLeast i_fitMost m_fitPost m_fitEnd m_keptPosts i_x0 f_all (nI i) (by first | with_reducible assumption | with_reducible rfl | omega | assumption | rfl | decide) (by first | with_reducible assumption | with_reducible rfl | omega | assumption | rfl | decide) (by first | with_reducible assumption | with_reducible rfl | omega | assumption | rfl | decide)) (kV_RX12_223 C.2.2.2.2 (Nat.le_of_ble_eq_true rfl) (Nat.le_of_ble_eq_true rfl)) [0, 1] [0, 0] rfl rfl (ci := 11) (qc := (RX12, TX12, 43)) rfl rfl (List.mem_flatten.mpr ⟨_, List.mem_of_getElem? (i := 0) rfl, List.mem_cons_self⟩) rfl rfl hl.1 dX12_waysMany_15 (Nat.le_of_ble_eq_true rfl) (Nat.le_of_ble_eq_true rfl) (fun r_4 b1 H locs hw G => ?_)
    refine zAn2 hw ?_
    intro hbs9 hc_3
    clear hw
    subst hbs9
    have G : zS T A s.heap s [[zO11 mo m_all m_has i_size i_next i_where i_token i_number i_word i_wrong i_farCrossing m_read i_z0 i_crossings i_inns m_posts m_shut m_here i_steps i_done i_at i_gone m_was m_came m_seenAt m_rowWorth m_farBy m_used i_everywhere i_again0 i_d0 i_never i_firstCame i_longRun i_moved i_crowd i_l0 i_fitMany i_fitLeast i_fitMost m_fitPost m_fitEnd m_keptPosts i_x0], [zAr T 0 m_all 3952 f_all]] _ _ := G
    rcases hc_3 with ⟨rfl, h_5, h_6⟩ | ⟨rfl, h_7⟩
    · have h_5 : ¬ zInn i_inns (nI i) := h_5
      have h_6 : 0 < (zRd f_all i_z0 (nI i)).toInt := h_6
      refine lv_if_eq (tgt := 29) hx hb dX12_waysMany_18 (by decide) (fun q => absurd q (by decide)) (fun _ => ?_)
      refine lv_aload_n hx hb dX12_waysMany_21 rfl (lv_at hl 2 rfl) ?_
      refine lv_iload_n hx hb dX12_waysMany_22 rfl (lv_at hl 0 rfl) ?_
      have ti_8 : (nI i).toInt = ((i : Nat) : Int) := nI_toInt (by omega)
      refine z_Vi (bc := [[zO11 mo m_all m_has i_size i_next i_where i_token i_number i_word i_wrong i_farCrossing m_read i_z0 i_crossings i_inns m_posts m_shut m_here i_steps i_done i_at i_gone m_was m_came m_seenAt m_rowWorth m_farBy m_used i_everywhere i_again0 i_d0 i_never i_firstCame i_longRun i_moved i_crowd i_l0 i_fitMany i_fitLeast i_fitMost m_fitPost m_fitEnd m_keptPosts i_x0], [zAr T 0 m_all 3952 f_all]]) (br := []) (As := [.int (nI i)]) (rest := [.int v]) C G (c_m_roadsOf l T mo m_all m_has i_size i_next i_where i_token i_number i_word i_wrong i_farCrossing m_read i_z0 i_crossings i_inns m_posts m_shut m_here i_steps i_done i_at i_gone m_was m_came m_seenAt m_rowWorth m_farBy m_used i_everywhere i_again0 i_d0 i_never i_firstCame i_longRun i_moved i_crowd i_l0 i_fitMany i_fitLeast i_fitMost m_fitPost m_fitEnd m_keptPosts i_x0 f_all (nI i) (by first | with_reducible assumption | with_reducible rfl | omega | assumption | rfl | decide) (by first | with_reducible assumption | with_reducible rfl | omega | assumption | rfl | decide) (by first | with_reducible assumption | with_reducible rfl | omega | assumption | rfl | decide)) (kV_RX12_181 C.2.2.2.2 (Nat.le_of_ble_eq_true rfl) (Nat.le_of_ble_eq_true rfl)) [0, 1] [0, 0] rfl rfl (ci := 11) (qc := (RX12, TX12, 43)) rfl rfl (List.mem_flatten.mpr ⟨_, List.mem_of_getElem? (i := 0) rfl, List.mem_cons_self⟩) rfl rfl hl.1 dX12_waysMany_23 (Nat.le_of_ble_eq_true rfl) (Nat.le_of_ble_eq_true rfl) (fun r_12 b1 H locs hw G => ?_)
      refine zAn4 hw ?_
      intro hbs9 h_9 h_10 h_11
      clear hw
      subst hbs9
      have G : zS T A s.heap s [[zO11 mo m_all m_has i_size i_next i_where i_token i_number i_word i_wrong i_farCrossing m_read i_z0 i_crossings i_inns m_posts m_shut m_here i_steps i_done i_at i_gone m_was m_came m_seenAt m_rowWorth m_farBy m_used i_everywhere i_again0 i_d0 i_never i_firstCame i_longRun i_moved i_crowd i_l0 i_fitMany i_fitLeast i_fitMost m_fitPost m_fitEnd m_keptPosts i_x0], [zAr T 0 m_all 3952 f_all]] _ _ := G
      subst h_9
      refine lv_goto (tgt := 30) hx hb dX12_waysMany_26 (by decide) ?_
      have tn9 := nI_n (n := i) (by omega)
      have ti9 := nI_toInt (n := i) (by omega)
      have ha9 := aWo_1 (f := f_all) (z := i_z0) (n := i_inns) (c := (nI i)) (by first | with_reducible assumption | assumption) (by first | with_reducible assumption | assumption) (by omega) (by omega)
      rw [tn9] at ha9
      have hp9 := aCh_p (W := (zWo f_all i_z0 i_inns)) (c := i)
      have hq9 := aCh_m (n := i_inns) hL (c := i) (by omega)
      have hr9 := nI_toInt (n := aCh (zWo f_all i_z0 i_inns) i) (by omega)
      refine lv_topi (fun y_13 ey_13 => ?_)
      obtain rfl : y_13 = nI (aCh (zWo f_all i_z0 i_inns) i) := ey_13.trans (ha9.1)
      refine lv_imul hx hb dX12_waysMany_30 ?_
      refine lv_istore_n (lv' := [(1, .int (v * (nI (aCh (zWo f_all i_z0 i_inns) i)))), (2, .int (nI i)), (0, .ref mo)]) hx hb dX12_waysMany_31 rfl hl (by decide) (zLvf_h rfl) (fun ls hl => ?_)
      refine lv_iinc (v := nI (i + 1)) (lv' := [(2, .int (nI (i + 1))), (1, .int (v * (nI (aCh (zWo f_all i_z0 i_inns) i)))), (0, .ref mo)]) hx hb dX12_waysMany_32 hl (k := 1) rfl (z_inc i 1) (by decide) (zLvf_h rfl) (fun ls hl => ?_)
      refine lv_goto (tgt := 4) hx hb dX12_waysMany_35 (by decide) ?_
      exact ih_4 (i + 1) (v * (nI (aCh (zWo f_all i_z0 i_inns) i))) (show (i + 1) ≤ 7 ∧ (1 ≤ (v * (nI (aCh (zWo f_all i_z0 i_inns) i))).toInt ∧ (v * (nI (aCh (zWo f_all i_z0 i_inns) i))).toInt ≤ ((4 ^ (i + 1) : Nat) : Int)) ∧ ((i + 1) : Int) ≤ i_crossings.toInt ∧ (v * (nI (aCh (zWo f_all i_z0 i_inns) i))) = nI (aQr (zWo f_all i_z0 i_inns) (i + 1)) from ⟨by omega, (zW4 (r := nI (aCh (zWo f_all i_z0 i_inns) i)) (by omega) hv (by omega) (by omega)), by omega, (by rw [hw]; exact pk_mul _ _)⟩) (show 7 - (i + 1) < 7 - i from by omega) _ _ ls G (lv_sub hl [0, 1, 2] rfl)
    · have h_7 : (zInn i_inns (nI i) ∨ (zRd f_all i_z0 (nI i)).toInt ≤ 0) := h_7
      refine lv_if_eq (tgt := 29) hx hb dX12_waysMany_18 (by decide) (fun _ => ?_) (fun q => absurd (by decide) q)
      refine lv_iconst (v := 1) hx hb dX12_waysMany_29 (by decide) ?_
      have tn9 := nI_n (n := i) (by omega)
      have ti9 := nI_toInt (n := i) (by omega)
      have ha9 := aWo_0 (f := f_all) (z := i_z0) (n := i_inns) (c := (nI i)) (by first | with_reducible assumption | assumption) (by omega) (by omega)
      rw [tn9] at ha9
      have hp9 := aCh_p (W := (zWo f_all i_z0 i_inns)) (c := i)
      have hq9 := aCh_m (n := i_inns) hL (c := i) (by omega)
      have hr9 := nI_toInt (n := aCh (zWo f_all i_z0 i_inns) i) (by omega)
      refine lv_topi (fun y_14 ey_14 => ?_)
      obtain rfl : y_14 = nI (aCh (zWo f_all i_z0 i_inns) i) := ey_14.trans ((congrArg nI ha9.2).symm)
      refine lv_imul hx hb dX12_waysMany_30 ?_
      refine lv_istore_n (lv' := [(1, .int (v * (nI (aCh (zWo f_all i_z0 i_inns) i)))), (2, .int (nI i)), (0, .ref mo)]) hx hb dX12_waysMany_31 rfl hl (by decide) (zLvf_h rfl) (fun ls hl => ?_)
      refine lv_iinc (v := nI (i + 1)) (lv' := [(2, .int (nI (i + 1))), (1, .int (v * (nI (aCh (zWo f_all i_z0 i_inns) i)))), (0, .ref mo)]) hx hb dX12_waysMany_32 hl (k := 1) rfl (z_inc i 1) (by decide) (zLvf_h rfl) (fun ls hl => ?_)
      refine lv_goto (tgt := 4) hx hb dX12_waysMany_35 (by decide) ?_
      exact ih_4 (i + 1) (v * (nI (aCh (zWo f_all i_z0 i_inns) i))) (show (i + 1) ≤ 7 ∧ (1 ≤ (v * (nI (aCh (zWo f_all i_z0 i_inns) i))).toInt ∧ (v * (nI (aCh (zWo f_all i_z0 i_inns) i))).toInt ≤ ((4 ^ (i + 1) : Nat) : Int)) ∧ ((i + 1) : Int) ≤ i_crossings.toInt ∧ (v * (nI (aCh (zWo f_all i_z0 i_inns) i))) = nI (aQr (zWo f_all i_z0 i_inns) (i + 1)) from ⟨by omega, (zW4 (r := nI (aCh (zWo f_all i_z0 i_inns) i)) (by omega) hv (by omega) (by omega)), by omega, (by rw [hw]; exact pk_mul _ _)⟩) (show 7 - (i + 1) < 7 - i from by omega) _ _ ls G (lv_sub hl [0, 1, 2] rfl)
set_option maxHeartbeats 4000000 in
set_option maxRecDepth 100000 in
/-- c_fm_setsWay -/
theorem c_fm_setsWay (l : Launch) (T : zTy) (mo : Nat) (m_all : Nat) (m_has : Nat) (i_size : Int32) (i_next : Int32) (i_where : Int32) (i_token : Int32) (i_number : Int32) (i_word : Int32) (i_wrong : Int32) (i_farCrossing : Int32) (m_read : Nat) (i_z0 : Int32) (i_crossings : Int32) (i_inns : Int32) (m_posts : Nat) (m_shut : Nat) (m_here : Nat) (i_steps : Int32) (i_done : Int32) (i_at : Int32) (i_gone : Int32) (m_was : Nat) (m_came : Nat) (m_seenAt : Nat) (m_rowWorth : Nat) (m_farBy : Nat) (m_used : Nat) (i_everywhere : Int32) (i_again0 : Int32) (i_d0 : Int32) (i_never : Int32) (i_firstCame : Int32) (i_longRun : Int32) (i_moved : Int32) (i_crowd : Int32) (i_l0 : Int32) (i_fitMany : Int32) (i_fitLeast : Int32) (i_fitMost : Int32) (m_fitPost : Nat) (m_fitEnd : Nat) (m_keptPosts : Nat) (i_x0 : Int32) (f_all : Nat → Int32) (f_posts : Nat → Int32) (w_ : Int32) (hL : zML f_all i_z0 i_crossings) (hP : zMP f_posts) (hw0 : 0 ≤ w_.toInt) (hZ : zVZ f_all i_z0 i_crossings) : zMv l T yX12_setsWay cX12_setsWay 4 3 0 0 [.ref mo, .int w_] [[zO11 mo m_all m_has i_size i_next i_where i_token i_number i_word i_wrong i_farCrossing m_read i_z0 i_crossings i_inns m_posts m_shut m_here i_steps i_done i_at i_gone m_was m_came m_seenAt m_rowWorth m_farBy m_used i_everywhere i_again0 i_d0 i_never i_firstCame i_longRun i_moved i_crowd i_l0 i_fitMany i_fitLeast i_fitMost m_fitPost m_fitEnd m_keptPosts i_x0], [zAr T 0 m_all 3952 f_all], [zAr T 0 m_posts 7 f_posts]] (fun bs => ∃ (g_posts : Nat → Int32), bs = [[zO11 mo m_all m_has i_size i_next i_where i_token i_number i_word i_wrong i_farCrossing m_read i_z0 i_crossings i_inns m_posts m_shut m_here i_steps i_done i_at i_gone m_was m_came m_seenAt m_rowWorth m_farBy m_used i_everywhere i_again0 i_d0 i_never i_firstCame i_longRun i_moved i_crowd i_l0 i_fitMany i_fitLeast i_fitMost m_fitPost m_fitEnd m_keptPosts i_x0], [zAr T 0 m_all 3952 f_all], [zAr T 0 m_posts 7 g_posts]] ∧ zMP g_posts ∧ zMV (zRo f_all i_z0) g_posts ∧ (∀ k : Nat, k < 7 → (k : Int) < i_crossings.toInt → g_posts k = aPo (zWo f_all i_z0 i_inns) w_.toInt.toNat k)) := by
  refine zMv_of (own := RX12) (by decide) rfl (Nat.le_of_ble_eq_true rfl) ?_
  intro p e s m args below meth c A ls C hr hlocks hnm hAe G hl
  refine zHide (fun Qz_ hQz_ => ?_)
  have hx := C.1
  have hb := C.2.1
  have hl : lv_has ls 4 [(0, .ref mo), (1, .int w_)] := hl
  have hz := hL.1
  have hcr := hL.cr
  have hwl := Int32.toInt_lt w_
  refine lv_iload_n hx hb dX12_setsWay_0 rfl (lv_at hl 1 rfl) ?_
  refine lv_istore_n (lv' := [(2, .int w_), (0, .ref mo), (1, .int w_)]) hx hb dX12_setsWay_1 rfl hl (by decide) (zLvf_h rfl) (fun ls hl => ?_)
  refine lv_aload_n hx hb dX12_setsWay_2 rfl (lv_at hl 1 rfl) ?_
  refine z_get C G clX12 0 rfl 12 (by decide) m_fl_RX12_169 rfl dX12_setsWay_3 ?_
  refine lv_iconst (v := 1) hx hb dX12_setsWay_6 (by decide) ?_
  refine lv_isub hx hb dX12_setsWay_7 ?_
  refine lv_topi (fun y_1 ey_1 => ?_)
  have ey_1i : y_1.toInt = i_crossings.toInt - (1 : Int) := by rw [ey_1]; exact z_isubI (x := i_crossings) (y := (1 : Int32)) (by show -2147483648 ≤ i_crossings.toInt - (1 : Int); omega) (by show i_crossings.toInt - (1 : Int) < 2147483648; omega)
  refine lv_istore_n (lv' := [(3, .int y_1), (2, .int w_), (0, .ref mo), (1, .int w_)]) hx hb dX12_setsWay_8 rfl hl (by decide) (zLvf_h rfl) (fun ls hl => ?_)
  refine z_lp3 (T := T) 9 (fun (c9 : Int32) (lf : Int32) (xp : Nat → Int32) => [[zO11 mo m_all m_has i_size i_next i_where i_token i_number i_word i_wrong i_farCrossing m_read i_z0 i_crossings i_inns m_posts m_shut m_here i_steps i_done i_at i_gone m_was m_came m_seenAt m_rowWorth m_farBy m_used i_everywhere i_again0 i_d0 i_never i_firstCame i_longRun i_moved i_crowd i_l0 i_fitMany i_fitLeast i_fitMost m_fitPost m_fitEnd m_keptPosts i_x0], [zAr T 0 m_all 3952 f_all], [zAr T 0 m_posts 7 xp]]) (fun (c9 : Int32) (lf : Int32) (xp : Nat → Int32) => [(3, .int c9), (2, .int lf), (0, .ref mo), (1, .int w_)]) (fun (c9 : Int32) (lf : Int32) (xp : Nat → Int32) => -1 ≤ c9.toInt ∧ c9.toInt ≤ 6 ∧ 0 ≤ lf.toInt ∧ zMP xp ∧ c9.toInt < i_crossings.toInt ∧ lf = nI (w_.toInt.toNat / aPr (zWo f_all i_z0 i_inns) (6 - c9.toInt).toNat) ∧ zMVp (zRo f_all i_z0) xp c9.toInt ∧ zPwp (zWo f_all i_z0 i_inns) w_.toInt.toNat xp c9.toInt i_crossings.toInt) (fun (c9 : Int32) (lf : Int32) (xp : Nat → Int32) => (c9.toInt + 1).toNat) ?_ y_1 w_ f_posts (show -1 ≤ y_1.toInt ∧ y_1.toInt ≤ 6 ∧ 0 ≤ w_.toInt ∧ zMP f_posts ∧ y_1.toInt < i_crossings.toInt ∧ w_ = nI (w_.toInt.toNat / aPr (zWo f_all i_z0 i_inns) (6 - y_1.toInt).toNat) ∧ zMVp (zRo f_all i_z0) f_posts y_1.toInt ∧ zPwp (zWo f_all i_z0 i_inns) w_.toInt.toNat f_posts y_1.toInt i_crossings.toInt from ⟨by omega, by omega, by omega, hP, by omega, (by rw [aPr_c (zVZ_c (n := i_inns) hZ (c := i_crossings.toInt.toNat) (by omega)) _ (by omega), Nat.div_one]; exact z_nI (by omega) (by omega)), (fun k hk hq => Or.inl (hZ k hk (by omega))), (fun k hk hq hr => absurd hr (by omega))⟩) G (lv_sub hl [0, 1, 2, 3] rfl)
  intro c9 lf xp hI9 ih_9 H locs ls G hl
  replace hI9 : -1 ≤ c9.toInt ∧ c9.toInt ≤ 6 ∧ 0 ≤ lf.toInt ∧ zMP xp ∧ c9.toInt < i_crossings.toInt ∧ lf = nI (w_.toInt.toNat / aPr (zWo f_all i_z0 i_inns) (6 - c9.toInt).toNat) ∧ zMVp (zRo f_all i_z0) xp c9.toInt ∧ zPwp (zWo f_all i_z0 i_inns) w_.toInt.toNat xp c9.toInt i_crossings.toInt := hI9
  refine zAn8 hI9 ?_
  intro hc1 hc6 hlf hQ hcc hl9 hM9 hd9
  clear hI9
  replace G : zS T A s.heap s [[zO11 mo m_all m_has i_size i_next i_where i_token i_number i_word i_wrong i_farCrossing m_read i_z0 i_crossings i_inns m_posts m_shut m_here i_steps i_done i_at i_gone m_was m_came m_seenAt m_rowWorth m_farBy m_used i_everywhere i_again0 i_d0 i_never i_firstCame i_longRun i_moved i_crowd i_l0 i_fitMany i_fitLeast i_fitMost m_fitPost m_fitEnd m_keptPosts i_x0], [zAr T 0 m_all 3952 f_all], [zAr T 0 m_posts 7 xp]] _ _ := G
  replace hl : lv_has ls 4 [(3, .int c9), (2, .int lf), (0, .ref mo), (1, .int w_)] := hl
  refine lv_iload_n hx hb dX12_setsWay_9 rfl (lv_at hl 0 rfl) ?_
  refine lv_if_lt (tgt := 64) hx hb dX12_setsWay_10 (by decide) (fun c_2 => ?_) (fun c_2 => ?_)
  · have c_2n : c9.toInt < (0 : Int) := (fa_lt _ _).mp c_2
    exact z_back hQz_ (z_vret C hr hlocks G (Nat.le_of_ble_eq_true rfl) (Nat.le_of_ble_eq_true rfl) dX12_setsWay_64 ⟨xp, rfl, hQ, (fun k hk => hM9 k hk (by omega)), (fun k hk hr => hd9 k hk (by omega) hr)⟩)
  · have c_2n : ¬ c9.toInt < (0 : Int) := fun q => c_2 ((fa_lt _ _).mpr q)
    refine lv_aload_n hx hb dX12_setsWay_13 rfl (lv_at hl 2 rfl) ?_
    refine z_get C G clX12 0 rfl 14 (by decide) m_fl_RX12_20 rfl dX12_setsWay_14 ?_
    refine lv_iload_n hx hb dX12_setsWay_17 rfl (lv_at hl 0 rfl) ?_
    refine lv_aload_n hx hb dX12_setsWay_18 rfl (lv_at hl 2 rfl) ?_
    refine lv_iload_n hx hb dX12_setsWay_19 rfl (lv_at hl 0 rfl) ?_
    refine z_Vi (bc := [[zO11 mo m_all m_has i_size i_next i_where i_token i_number i_word i_wrong i_farCrossing m_read i_z0 i_crossings i_inns m_posts m_shut m_here i_steps i_done i_at i_gone m_was m_came m_seenAt m_rowWorth m_farBy m_used i_everywhere i_again0 i_d0 i_never i_firstCame i_longRun i_moved i_crowd i_l0 i_fitMany i_fitLeast i_fitMost m_fitPost m_fitEnd m_keptPosts i_x0], [zAr T 0 m_all 3952 f_all]]) (br := [[zAr T 0 m_posts 7 xp]]) (As := [.int c9]) (rest := [.int c9, .ref m_posts]) C G (c_m_isFree l T mo m_all m_has i_size i_next i_where i_token i_number i_word i_wrong i_farCrossing m_read i_z0 i_crossings i_inns m_posts m_shut m_here i_steps i_done i_at i_gone m_was m_came m_seenAt m_rowWorth m_farBy m_used i_everywhere i_again0 i_d0 i_never i_firstCame i_longRun i_moved i_crowd i_l0 i_fitMany i_fitLeast i_fitMost m_fitPost m_fitEnd m_keptPosts i_x0 f_all c9 (by first | with_reducible assumption | with_reducible rfl | omega | assumption | rfl | decide) (by first | with_reducible assumption | with_reducible rfl | omega | assumption | rfl | decide) (by first | with_reducible assumption | with_reducible rfl | omega | assumption | rfl | decide)) (kV_RX12_223 C.2.2.2.2 (Nat.le_of_ble_eq_true rfl) (Nat.le_of_ble_eq_true rfl)) [0, 1] [0, 0] rfl rfl (ci := 11) (qc := (RX12, TX12, 43)) rfl rfl (List.mem_flatten.mpr ⟨_, List.mem_of_getElem? (i := 0) rfl, List.mem_cons_self⟩) rfl rfl hl.1 dX12_setsWay_20 (Nat.le_of_ble_eq_true rfl) (Nat.le_of_ble_eq_true rfl) (fun r_4 b1 H locs hw G => ?_)
    refine zAn2 hw ?_
    intro hbs9 hc_3
    clear hw
    subst hbs9
    have G : zS T A s.heap s [[zAr T 0 m_posts 7 xp], [zO11 mo m_all m_has i_size i_next i_where i_token i_number i_word i_wrong i_farCrossing m_read i_z0 i_crossings i_inns m_posts m_shut m_here i_steps i_done i_at i_gone m_was m_came m_seenAt m_rowWorth m_farBy m_used i_everywhere i_again0 i_d0 i_never i_firstCame i_longRun i_moved i_crowd i_l0 i_fitMany i_fitLeast i_fitMost m_fitPost m_fitEnd m_keptPosts i_x0], [zAr T 0 m_all 3952 f_all]] _ _ := G
    rcases hc_3 with ⟨rfl, h_5, h_6⟩ | ⟨rfl, h_7⟩
    · have h_5 : ¬ zInn i_inns c9 := h_5
      have h_6 : 0 < (zRd f_all i_z0 c9).toInt := h_6
      refine lv_if_eq (tgt := 36) hx hb dX12_setsWay_23 (by decide) (fun q => absurd q (by decide)) (fun _ => ?_)
      refine lv_iload_n hx hb dX12_setsWay_26 rfl (lv_at hl 1 rfl) ?_
      refine lv_aload_n hx hb dX12_setsWay_27 rfl (lv_at hl 2 rfl) ?_
      refine lv_iload_n hx hb dX12_setsWay_28 rfl (lv_at hl 0 rfl) ?_
      refine z_Vi (bc := [[zO11 mo m_all m_has i_size i_next i_where i_token i_number i_word i_wrong i_farCrossing m_read i_z0 i_crossings i_inns m_posts m_shut m_here i_steps i_done i_at i_gone m_was m_came m_seenAt m_rowWorth m_farBy m_used i_everywhere i_again0 i_d0 i_never i_firstCame i_longRun i_moved i_crowd i_l0 i_fitMany i_fitLeast i_fitMost m_fitPost m_fitEnd m_keptPosts i_x0], [zAr T 0 m_all 3952 f_all]]) (br := [[zAr T 0 m_posts 7 xp]]) (As := [.int c9]) (rest := [.int lf, .int c9, .ref m_posts]) C G (c_m_roadsOf l T mo m_all m_has i_size i_next i_where i_token i_number i_word i_wrong i_farCrossing m_read i_z0 i_crossings i_inns m_posts m_shut m_here i_steps i_done i_at i_gone m_was m_came m_seenAt m_rowWorth m_farBy m_used i_everywhere i_again0 i_d0 i_never i_firstCame i_longRun i_moved i_crowd i_l0 i_fitMany i_fitLeast i_fitMost m_fitPost m_fitEnd m_keptPosts i_x0 f_all c9 (by first | with_reducible assumption | with_reducible rfl | omega | assumption | rfl | decide) (by first | with_reducible assumption | with_reducible rfl | omega | assumption | rfl | decide) (by first | with_reducible assumption | with_reducible rfl | omega | assumption | rfl | decide)) (kV_RX12_181 C.2.2.2.2 (Nat.le_of_ble_eq_true rfl) (Nat.le_of_ble_eq_true rfl)) [1, 2] [1, 0] rfl rfl (ci := 11) (qc := (RX12, TX12, 43)) rfl rfl (List.mem_flatten.mpr ⟨_, List.mem_of_getElem? (i := 0) rfl, List.mem_cons_self⟩) rfl rfl hl.1 dX12_setsWay_29 (Nat.le_of_ble_eq_true rfl) (Nat.le_of_ble_eq_true rfl) (fun r_11 b1 H locs hw G => ?_)
      refine zAn4 hw ?_
      intro hbs9 h_8 h_9 h_10
      clear hw
      subst hbs9
      have G : zS T A s.heap s [[zAr T 0 m_posts 7 xp], [zO11 mo m_all m_has i_size i_next i_where i_token i_number i_word i_wrong i_farCrossing m_read i_z0 i_crossings i_inns m_posts m_shut m_here i_steps i_done i_at i_gone m_was m_came m_seenAt m_rowWorth m_farBy m_used i_everywhere i_again0 i_d0 i_never i_firstCame i_longRun i_moved i_crowd i_l0 i_fitMany i_fitLeast i_fitMost m_fitPost m_fitEnd m_keptPosts i_x0], [zAr T 0 m_all 3952 f_all]] _ _ := G
      subst h_8
      refine lv_irem hx hb dX12_setsWay_32 (fun q => absurd (congrArg Int32.toInt q) (by show ¬ _ = (0 : Int); omega)) ?_
      refine lv_goto (tgt := 37) hx hb dX12_setsWay_33 (by decide) ?_
      have ha9 := aWo_1 (f := f_all) (z := i_z0) (n := i_inns) (c := c9) (by first | with_reducible assumption | assumption) (by first | with_reducible assumption | assumption) (by omega) (by omega)
      have hq9 := aCh_m (n := i_inns) hL (c := c9.toInt.toNat) (by omega)
      have hsw := aSw (W := (zWo f_all i_z0 i_inns)) (by omega) (by omega) (by omega) hl9 ha9.1 hq9
      have hrm := zRem (x := lf) (y := zRd f_all i_z0 c9) (by omega) (by omega)
      refine z_ist C G 0 rfl (vp_in_iff.mpr ⟨by omega, by omega⟩) dX12_setsWay_37 (fun H locs G => ?_)
      have G : zS T A s.heap s [[zAr T 0 m_posts 7 (upd xp c9.toNatClampNeg (lf - lf / (zRd f_all i_z0 c9) * (zRd f_all i_z0 c9)))], [zO11 mo m_all m_has i_size i_next i_where i_token i_number i_word i_wrong i_farCrossing m_read i_z0 i_crossings i_inns m_posts m_shut m_here i_steps i_done i_at i_gone m_was m_came m_seenAt m_rowWorth m_farBy m_used i_everywhere i_again0 i_d0 i_never i_firstCame i_longRun i_moved i_crowd i_l0 i_fitMany i_fitLeast i_fitMost m_fitPost m_fitEnd m_keptPosts i_x0], [zAr T 0 m_all 3952 f_all]] _ _ := G
      refine lv_iload_n hx hb dX12_setsWay_38 rfl (lv_at hl 1 rfl) ?_
      refine lv_aload_n hx hb dX12_setsWay_39 rfl (lv_at hl 2 rfl) ?_
      refine lv_iload_n hx hb dX12_setsWay_40 rfl (lv_at hl 0 rfl) ?_
      refine z_Vi (bc := [[zO11 mo m_all m_has i_size i_next i_where i_token i_number i_word i_wrong i_farCrossing m_read i_z0 i_crossings i_inns m_posts m_shut m_here i_steps i_done i_at i_gone m_was m_came m_seenAt m_rowWorth m_farBy m_used i_everywhere i_again0 i_d0 i_never i_firstCame i_longRun i_moved i_crowd i_l0 i_fitMany i_fitLeast i_fitMost m_fitPost m_fitEnd m_keptPosts i_x0], [zAr T 0 m_all 3952 f_all]]) (br := [[zAr T 0 m_posts 7 (upd xp c9.toNatClampNeg (lf - lf / (zRd f_all i_z0 c9) * (zRd f_all i_z0 c9)))]]) (As := [.int c9]) (rest := [.int lf]) C G (c_m_isFree l T mo m_all m_has i_size i_next i_where i_token i_number i_word i_wrong i_farCrossing m_read i_z0 i_crossings i_inns m_posts m_shut m_here i_steps i_done i_at i_gone m_was m_came m_seenAt m_rowWorth m_farBy m_used i_everywhere i_again0 i_d0 i_never i_firstCame i_longRun i_moved i_crowd i_l0 i_fitMany i_fitLeast i_fitMost m_fitPost m_fitEnd m_keptPosts i_x0 f_all c9 (by first | with_reducible assumption | with_reducible rfl | omega | assumption | rfl | decide) (by first | with_reducible assumption | with_reducible rfl | omega | assumption | rfl | decide) (by first | with_reducible assumption | with_reducible rfl | omega | assumption | rfl | decide)) (kV_RX12_223 C.2.2.2.2 (Nat.le_of_ble_eq_true rfl) (Nat.le_of_ble_eq_true rfl)) [1, 2] [1, 0] rfl rfl (ci := 11) (qc := (RX12, TX12, 43)) rfl rfl (List.mem_flatten.mpr ⟨_, List.mem_of_getElem? (i := 0) rfl, List.mem_cons_self⟩) rfl rfl hl.1 dX12_setsWay_41 (Nat.le_of_ble_eq_true rfl) (Nat.le_of_ble_eq_true rfl) (fun r_13 b1 H locs hw G => ?_)
      refine zAn2 hw ?_
      intro hbs9 hc_12
      clear hw
      subst hbs9
      have G : zS T A s.heap s [[zAr T 0 m_posts 7 (upd xp c9.toNatClampNeg (lf - lf / (zRd f_all i_z0 c9) * (zRd f_all i_z0 c9)))], [zO11 mo m_all m_has i_size i_next i_where i_token i_number i_word i_wrong i_farCrossing m_read i_z0 i_crossings i_inns m_posts m_shut m_here i_steps i_done i_at i_gone m_was m_came m_seenAt m_rowWorth m_farBy m_used i_everywhere i_again0 i_d0 i_never i_firstCame i_longRun i_moved i_crowd i_l0 i_fitMany i_fitLeast i_fitMost m_fitPost m_fitEnd m_keptPosts i_x0], [zAr T 0 m_all 3952 f_all]] _ _ := G
      rcases hc_12 with ⟨rfl, h_14, h_15⟩ | ⟨rfl, h_16⟩
      · have h_14 : ¬ zInn i_inns c9 := h_14
        have h_15 : 0 < (zRd f_all i_z0 c9).toInt := h_15
        refine lv_if_eq (tgt := 55) hx hb dX12_setsWay_44 (by decide) (fun q => absurd q (by decide)) (fun _ => ?_)
        refine lv_aload_n hx hb dX12_setsWay_47 rfl (lv_at hl 2 rfl) ?_
        refine lv_iload_n hx hb dX12_setsWay_48 rfl (lv_at hl 0 rfl) ?_
        refine z_Vi (bc := [[zO11 mo m_all m_has i_size i_next i_where i_token i_number i_word i_wrong i_farCrossing m_read i_z0 i_crossings i_inns m_posts m_shut m_here i_steps i_done i_at i_gone m_was m_came m_seenAt m_rowWorth m_farBy m_used i_everywhere i_again0 i_d0 i_never i_firstCame i_longRun i_moved i_crowd i_l0 i_fitMany i_fitLeast i_fitMost m_fitPost m_fitEnd m_keptPosts i_x0], [zAr T 0 m_all 3952 f_all]]) (br := [[zAr T 0 m_posts 7 (upd xp c9.toNatClampNeg (lf - lf / (zRd f_all i_z0 c9) * (zRd f_all i_z0 c9)))]]) (As := [.int c9]) (rest := [.int lf]) C G (c_m_roadsOf l T mo m_all m_has i_size i_next i_where i_token i_number i_word i_wrong i_farCrossing m_read i_z0 i_crossings i_inns m_posts m_shut m_here i_steps i_done i_at i_gone m_was m_came m_seenAt m_rowWorth m_farBy m_used i_everywhere i_again0 i_d0 i_never i_firstCame i_longRun i_moved i_crowd i_l0 i_fitMany i_fitLeast i_fitMost m_fitPost m_fitEnd m_keptPosts i_x0 f_all c9 (by first | with_reducible assumption | with_reducible rfl | omega | assumption | rfl | decide) (by first | with_reducible assumption | with_reducible rfl | omega | assumption | rfl | decide) (by first | with_reducible assumption | with_reducible rfl | omega | assumption | rfl | decide)) (kV_RX12_181 C.2.2.2.2 (Nat.le_of_ble_eq_true rfl) (Nat.le_of_ble_eq_true rfl)) [1, 2] [1, 0] rfl rfl (ci := 11) (qc := (RX12, TX12, 43)) rfl rfl (List.mem_flatten.mpr ⟨_, List.mem_of_getElem? (i := 0) rfl, List.mem_cons_self⟩) rfl rfl hl.1 dX12_setsWay_49 (Nat.le_of_ble_eq_true rfl) (Nat.le_of_ble_eq_true rfl) (fun r_20 b1 H locs hw G => ?_)
        refine zAn4 hw ?_
        intro hbs9 h_17 h_18 h_19
        clear hw
        subst hbs9
        have G : zS T A s.heap s [[zAr T 0 m_posts 7 (upd xp c9.toNatClampNeg (lf - lf / (zRd f_all i_z0 c9) * (zRd f_all i_z0 c9)))], [zO11 mo m_all m_has i_size i_next i_where i_token i_number i_word i_wrong i_farCrossing m_read i_z0 i_crossings i_inns m_posts m_shut m_here i_steps i_done i_at i_gone m_was m_came m_seenAt m_rowWorth m_farBy m_used i_everywhere i_again0 i_d0 i_never i_firstCame i_longRun i_moved i_crowd i_l0 i_fitMany i_fitLeast i_fitMost m_fitPost m_fitEnd m_keptPosts i_x0], [zAr T 0 m_all 3952 f_all]] _ _ := G
        subst h_17
        refine lv_goto (tgt := 56) hx hb dX12_setsWay_52 (by decide) ?_
        refine lv_idiv hx hb dX12_setsWay_56 (fun q => absurd (congrArg Int32.toInt q) (by show ¬ _ = (0 : Int); omega)) ?_
        have hb9 := aWo_1 (f := f_all) (z := i_z0) (n := i_inns) (c := c9) (by first | with_reducible assumption | assumption) (by first | with_reducible assumption | assumption) (by omega) (by omega)
        have hdv : 0 ≤ (lf / (zRd f_all i_z0 c9)).toInt := zDiv0 (by omega) (by omega)
        have hq8 := aCh_m (n := i_inns) hL (c := c9.toInt.toNat) (by omega)
        refine lv_istore_n (lv' := [(2, .int (lf / (zRd f_all i_z0 c9))), (3, .int c9), (0, .ref mo), (1, .int w_)]) hx hb dX12_setsWay_57 rfl hl (by decide) (zLvf_h rfl) (fun ls hl => ?_)
        obtain ⟨y_21, ey_21⟩ : ∃ q : Int32, q = c9 + (-1) := ⟨_, rfl⟩
        have ey_21i : y_21.toInt = c9.toInt - 1 := by rw [ey_21]; exact z_iaddI (x := c9) (y := (-1)) (by show -2147483648 ≤ c9.toInt + (-1 : Int); omega) (by show c9.toInt + (-1 : Int) < 2147483648; omega)
        refine lv_iinc (v := y_21) (lv' := [(3, .int y_21), (2, .int (lf / (zRd f_all i_z0 c9))), (0, .ref mo), (1, .int w_)]) hx hb dX12_setsWay_58 hl (k := 1) rfl ey_21.symm (by decide) (zLvf_h rfl) (fun ls hl => ?_)
        refine lv_goto (tgt := 9) hx hb dX12_setsWay_61 (by decide) ?_
        have G := G.sub (bs' := [[zO11 mo m_all m_has i_size i_next i_where i_token i_number i_word i_wrong i_farCrossing m_read i_z0 i_crossings i_inns m_posts m_shut m_here i_steps i_done i_at i_gone m_was m_came m_seenAt m_rowWorth m_farBy m_used i_everywhere i_again0 i_d0 i_never i_firstCame i_longRun i_moved i_crowd i_l0 i_fitMany i_fitLeast i_fitMost m_fitPost m_fitEnd m_keptPosts i_x0], [zAr T 0 m_all 3952 f_all], [zAr T 0 m_posts 7 (upd xp c9.toNatClampNeg (lf - lf / (zRd f_all i_z0 c9) * (zRd f_all i_z0 c9)))]]) [1, 2, 0] rfl
        exact ih_9 y_21 (lf / (zRd f_all i_z0 c9)) (upd xp c9.toNatClampNeg (lf - lf / (zRd f_all i_z0 c9) * (zRd f_all i_z0 c9))) (show -1 ≤ y_21.toInt ∧ y_21.toInt ≤ 6 ∧ 0 ≤ (lf / (zRd f_all i_z0 c9)).toInt ∧ zMP (upd xp c9.toNatClampNeg (lf - lf / (zRd f_all i_z0 c9) * (zRd f_all i_z0 c9))) ∧ y_21.toInt < i_crossings.toInt ∧ (lf / (zRd f_all i_z0 c9)) = nI (w_.toInt.toNat / aPr (zWo f_all i_z0 i_inns) (6 - y_21.toInt).toNat) ∧ zMVp (zRo f_all i_z0) (upd xp c9.toNatClampNeg (lf - lf / (zRd f_all i_z0 c9) * (zRd f_all i_z0 c9))) y_21.toInt ∧ zPwp (zWo f_all i_z0 i_inns) w_.toInt.toNat (upd xp c9.toNatClampNeg (lf - lf / (zRd f_all i_z0 c9) * (zRd f_all i_z0 c9))) y_21.toInt i_crossings.toInt from ⟨by omega, by omega, by omega, (zMP_upd hQ (by omega)), by omega, (by rw [show (6 - (y_21).toInt).toNat = (7 - c9.toInt).toNat by omega]; exact (aSw (W := (zWo f_all i_z0 i_inns)) (by omega) (by omega) (by omega) hl9 hb9.1 hq8).2), (zMVp_u hM9 (by omega) (by omega) (Or.inr (show (lf - lf / (zRd f_all i_z0 c9) * (zRd f_all i_z0 c9)).toInt < (zRd f_all i_z0 c9).toInt from by omega))), (zPwp_u hd9 (by omega) (by omega) hsw.1)⟩) (show (y_21.toInt + 1).toNat < (c9.toInt + 1).toNat from by omega) _ _ ls G (lv_sub hl [0, 1, 2, 3] rfl)
      · have h_16 : (zInn i_inns c9 ∨ (zRd f_all i_z0 c9).toInt ≤ 0) := h_16
        refine lv_if_eq (tgt := 55) hx hb dX12_setsWay_44 (by decide) (fun _ => ?_) (fun q => absurd (by decide) q)
        refine lv_iconst (v := 1) hx hb dX12_setsWay_55 (by decide) ?_
        refine lv_idiv hx hb dX12_setsWay_56 (by decide) ?_
        have hb9 := aWo_0 (f := f_all) (z := i_z0) (n := i_inns) (c := c9) (by first | with_reducible assumption | assumption) (by omega) (by omega)
        have hdv : 0 ≤ (lf / 1).toInt := zDiv0 (by omega) (by decide)
        have hq8 := aCh_m (n := i_inns) hL (c := c9.toInt.toNat) (by omega)
        refine lv_istore_n (lv' := [(2, .int (lf / 1)), (3, .int c9), (0, .ref mo), (1, .int w_)]) hx hb dX12_setsWay_57 rfl hl (by decide) (zLvf_h rfl) (fun ls hl => ?_)
        obtain ⟨y_22, ey_22⟩ : ∃ q : Int32, q = c9 + (-1) := ⟨_, rfl⟩
        have ey_22i : y_22.toInt = c9.toInt - 1 := by rw [ey_22]; exact z_iaddI (x := c9) (y := (-1)) (by show -2147483648 ≤ c9.toInt + (-1 : Int); omega) (by show c9.toInt + (-1 : Int) < 2147483648; omega)
        refine lv_iinc (v := y_22) (lv' := [(3, .int y_22), (2, .int (lf / 1)), (0, .ref mo), (1, .int w_)]) hx hb dX12_setsWay_58 hl (k := 1) rfl ey_22.symm (by decide) (zLvf_h rfl) (fun ls hl => ?_)
        refine lv_goto (tgt := 9) hx hb dX12_setsWay_61 (by decide) ?_
        have G := G.sub (bs' := [[zO11 mo m_all m_has i_size i_next i_where i_token i_number i_word i_wrong i_farCrossing m_read i_z0 i_crossings i_inns m_posts m_shut m_here i_steps i_done i_at i_gone m_was m_came m_seenAt m_rowWorth m_farBy m_used i_everywhere i_again0 i_d0 i_never i_firstCame i_longRun i_moved i_crowd i_l0 i_fitMany i_fitLeast i_fitMost m_fitPost m_fitEnd m_keptPosts i_x0], [zAr T 0 m_all 3952 f_all], [zAr T 0 m_posts 7 (upd xp c9.toNatClampNeg (lf - lf / (zRd f_all i_z0 c9) * (zRd f_all i_z0 c9)))]]) [1, 2, 0] rfl
        exact ih_9 y_22 (lf / 1) (upd xp c9.toNatClampNeg (lf - lf / (zRd f_all i_z0 c9) * (zRd f_all i_z0 c9))) (show -1 ≤ y_22.toInt ∧ y_22.toInt ≤ 6 ∧ 0 ≤ (lf / 1).toInt ∧ zMP (upd xp c9.toNatClampNeg (lf - lf / (zRd f_all i_z0 c9) * (zRd f_all i_z0 c9))) ∧ y_22.toInt < i_crossings.toInt ∧ (lf / 1) = nI (w_.toInt.toNat / aPr (zWo f_all i_z0 i_inns) (6 - y_22.toInt).toNat) ∧ zMVp (zRo f_all i_z0) (upd xp c9.toNatClampNeg (lf - lf / (zRd f_all i_z0 c9) * (zRd f_all i_z0 c9))) y_22.toInt ∧ zPwp (zWo f_all i_z0 i_inns) w_.toInt.toNat (upd xp c9.toNatClampNeg (lf - lf / (zRd f_all i_z0 c9) * (zRd f_all i_z0 c9))) y_22.toInt i_crossings.toInt from ⟨by omega, by omega, by omega, (zMP_upd hQ (by omega)), by omega, (by rw [show (6 - (y_22).toInt).toNat = (7 - c9.toInt).toNat by omega]; exact (aSw (W := (zWo f_all i_z0 i_inns)) (by omega) (by omega) (by omega) hl9 (congrArg nI hb9.2).symm hq8).2), (zMVp_u hM9 (by omega) (by omega) (Or.inr (show (lf - lf / (zRd f_all i_z0 c9) * (zRd f_all i_z0 c9)).toInt < (zRd f_all i_z0 c9).toInt from by omega))), (zPwp_u hd9 (by omega) (by omega) hsw.1)⟩) (show (y_22.toInt + 1).toNat < (c9.toInt + 1).toNat from by omega) _ _ ls G (lv_sub hl [0, 1, 2, 3] rfl)
    · have h_7 : (zInn i_inns c9 ∨ (zRd f_all i_z0 c9).toInt ≤ 0) := h_7
      refine lv_if_eq (tgt := 36) hx hb dX12_setsWay_23 (by decide) (fun _ => ?_) (fun q => absurd (by decide) q)
      refine lv_iconst (v := 0) hx hb dX12_setsWay_36 (by decide) ?_
      have ha9 := aWo_0 (f := f_all) (z := i_z0) (n := i_inns) (c := c9) (by first | with_reducible assumption | assumption) (by omega) (by omega)
      have hq9 := aCh_m (n := i_inns) hL (c := c9.toInt.toNat) (by omega)
      refine z_ist C G 0 rfl (vp_in_iff.mpr ⟨by omega, by omega⟩) dX12_setsWay_37 (fun H locs G => ?_)
      have G : zS T A s.heap s [[zAr T 0 m_posts 7 (upd xp c9.toNatClampNeg 0)], [zO11 mo m_all m_has i_size i_next i_where i_token i_number i_word i_wrong i_farCrossing m_read i_z0 i_crossings i_inns m_posts m_shut m_here i_steps i_done i_at i_gone m_was m_came m_seenAt m_rowWorth m_farBy m_used i_everywhere i_again0 i_d0 i_never i_firstCame i_longRun i_moved i_crowd i_l0 i_fitMany i_fitLeast i_fitMost m_fitPost m_fitEnd m_keptPosts i_x0], [zAr T 0 m_all 3952 f_all]] _ _ := G
      refine lv_iload_n hx hb dX12_setsWay_38 rfl (lv_at hl 1 rfl) ?_
      refine lv_aload_n hx hb dX12_setsWay_39 rfl (lv_at hl 2 rfl) ?_
      refine lv_iload_n hx hb dX12_setsWay_40 rfl (lv_at hl 0 rfl) ?_
      refine z_Vi (bc := [[zO11 mo m_all m_has i_size i_next i_where i_token i_number i_word i_wrong i_farCrossing m_read i_z0 i_crossings i_inns m_posts m_shut m_here i_steps i_done i_at i_gone m_was m_came m_seenAt m_rowWorth m_farBy m_used i_everywhere i_again0 i_d0 i_never i_firstCame i_longRun i_moved i_crowd i_l0 i_fitMany i_fitLeast i_fitMost m_fitPost m_fitEnd m_keptPosts i_x0], [zAr T 0 m_all 3952 f_all]]) (br := [[zAr T 0 m_posts 7 (upd xp c9.toNatClampNeg 0)]]) (As := [.int c9]) (rest := [.int lf]) C G (c_m_isFree l T mo m_all m_has i_size i_next i_where i_token i_number i_word i_wrong i_farCrossing m_read i_z0 i_crossings i_inns m_posts m_shut m_here i_steps i_done i_at i_gone m_was m_came m_seenAt m_rowWorth m_farBy m_used i_everywhere i_again0 i_d0 i_never i_firstCame i_longRun i_moved i_crowd i_l0 i_fitMany i_fitLeast i_fitMost m_fitPost m_fitEnd m_keptPosts i_x0 f_all c9 (by first | with_reducible assumption | with_reducible rfl | omega | assumption | rfl | decide) (by first | with_reducible assumption | with_reducible rfl | omega | assumption | rfl | decide) (by first | with_reducible assumption | with_reducible rfl | omega | assumption | rfl | decide)) (kV_RX12_223 C.2.2.2.2 (Nat.le_of_ble_eq_true rfl) (Nat.le_of_ble_eq_true rfl)) [1, 2] [1, 0] rfl rfl (ci := 11) (qc := (RX12, TX12, 43)) rfl rfl (List.mem_flatten.mpr ⟨_, List.mem_of_getElem? (i := 0) rfl, List.mem_cons_self⟩) rfl rfl hl.1 dX12_setsWay_41 (Nat.le_of_ble_eq_true rfl) (Nat.le_of_ble_eq_true rfl) (fun r_24 b1 H locs hw G => ?_)
      refine zAn2 hw ?_
      intro hbs9 hc_23
      clear hw
      subst hbs9
      have G : zS T A s.heap s [[zAr T 0 m_posts 7 (upd xp c9.toNatClampNeg 0)], [zO11 mo m_all m_has i_size i_next i_where i_token i_number i_word i_wrong i_farCrossing m_read i_z0 i_crossings i_inns m_posts m_shut m_here i_steps i_done i_at i_gone m_was m_came m_seenAt m_rowWorth m_farBy m_used i_everywhere i_again0 i_d0 i_never i_firstCame i_longRun i_moved i_crowd i_l0 i_fitMany i_fitLeast i_fitMost m_fitPost m_fitEnd m_keptPosts i_x0], [zAr T 0 m_all 3952 f_all]] _ _ := G
      rcases hc_23 with ⟨rfl, h_25, h_26⟩ | ⟨rfl, h_27⟩
      · have h_25 : ¬ zInn i_inns c9 := h_25
        have h_26 : 0 < (zRd f_all i_z0 c9).toInt := h_26
        refine lv_if_eq (tgt := 55) hx hb dX12_setsWay_44 (by decide) (fun q => absurd q (by decide)) (fun _ => ?_)
        refine lv_aload_n hx hb dX12_setsWay_47 rfl (lv_at hl 2 rfl) ?_
        refine lv_iload_n hx hb dX12_setsWay_48 rfl (lv_at hl 0 rfl) ?_
        refine z_Vi (bc := [[zO11 mo m_all m_has i_size i_next i_where i_token i_number i_word i_wrong i_farCrossing m_read i_z0 i_crossings i_inns m_posts m_shut m_here i_steps i_done i_at i_gone m_was m_came m_seenAt m_rowWorth m_farBy m_used i_everywhere i_again0 i_d0 i_never i_firstCame i_longRun i_moved i_crowd i_l0 i_fitMany i_fitLeast i_fitMost m_fitPost m_fitEnd m_keptPosts i_x0], [zAr T 0 m_all 3952 f_all]]) (br := [[zAr T 0 m_posts 7 (upd xp c9.toNatClampNeg 0)]]) (As := [.int c9]) (rest := [.int lf]) C G (c_m_roadsOf l T mo m_all m_has i_size i_next i_where i_token i_number i_word i_wrong i_farCrossing m_read i_z0 i_crossings i_inns m_posts m_shut m_here i_steps i_done i_at i_gone m_was m_came m_seenAt m_rowWorth m_farBy m_used i_everywhere i_again0 i_d0 i_never i_firstCame i_longRun i_moved i_crowd i_l0 i_fitMany i_fitLeast i_fitMost m_fitPost m_fitEnd m_keptPosts i_x0 f_all c9 (by first | with_reducible assumption | with_reducible rfl | omega | assumption | rfl | decide) (by first | with_reducible assumption | with_reducible rfl | omega | assumption | rfl | decide) (by first | with_reducible assumption | with_reducible rfl | omega | assumption | rfl | decide)) (kV_RX12_181 C.2.2.2.2 (Nat.le_of_ble_eq_true rfl) (Nat.le_of_ble_eq_true rfl)) [1, 2] [1, 0] rfl rfl (ci := 11) (qc := (RX12, TX12, 43)) rfl rfl (List.mem_flatten.mpr ⟨_, List.mem_of_getElem? (i := 0) rfl, List.mem_cons_self⟩) rfl rfl hl.1 dX12_setsWay_49 (Nat.le_of_ble_eq_true rfl) (Nat.le_of_ble_eq_true rfl) (fun r_31 b1 H locs hw G => ?_)
        refine zAn4 hw ?_
        intro hbs9 h_28 h_29 h_30
        clear hw
        subst hbs9
        have G : zS T A s.heap s [[zAr T 0 m_posts 7 (upd xp c9.toNatClampNeg 0)], [zO11 mo m_all m_has i_size i_next i_where i_token i_number i_word i_wrong i_farCrossing m_read i_z0 i_crossings i_inns m_posts m_shut m_here i_steps i_done i_at i_gone m_was m_came m_seenAt m_rowWorth m_farBy m_used i_everywhere i_again0 i_d0 i_never i_firstCame i_longRun i_moved i_crowd i_l0 i_fitMany i_fitLeast i_fitMost m_fitPost m_fitEnd m_keptPosts i_x0], [zAr T 0 m_all 3952 f_all]] _ _ := G
        subst h_28
        refine lv_goto (tgt := 56) hx hb dX12_setsWay_52 (by decide) ?_
        refine lv_idiv hx hb dX12_setsWay_56 (fun q => absurd (congrArg Int32.toInt q) (by show ¬ _ = (0 : Int); omega)) ?_
        have hb9 := aWo_1 (f := f_all) (z := i_z0) (n := i_inns) (c := c9) (by first | with_reducible assumption | assumption) (by first | with_reducible assumption | assumption) (by omega) (by omega)
        have hdv : 0 ≤ (lf / (zRd f_all i_z0 c9)).toInt := zDiv0 (by omega) (by omega)
        have hq8 := aCh_m (n := i_inns) hL (c := c9.toInt.toNat) (by omega)
        refine lv_istore_n (lv' := [(2, .int (lf / (zRd f_all i_z0 c9))), (3, .int c9), (0, .ref mo), (1, .int w_)]) hx hb dX12_setsWay_57 rfl hl (by decide) (zLvf_h rfl) (fun ls hl => ?_)
        obtain ⟨y_32, ey_32⟩ : ∃ q : Int32, q = c9 + (-1) := ⟨_, rfl⟩
        have ey_32i : y_32.toInt = c9.toInt - 1 := by rw [ey_32]; exact z_iaddI (x := c9) (y := (-1)) (by show -2147483648 ≤ c9.toInt + (-1 : Int); omega) (by show c9.toInt + (-1 : Int) < 2147483648; omega)
        refine lv_iinc (v := y_32) (lv' := [(3, .int y_32), (2, .int (lf / (zRd f_all i_z0 c9))), (0, .ref mo), (1, .int w_)]) hx hb dX12_setsWay_58 hl (k := 1) rfl ey_32.symm (by decide) (zLvf_h rfl) (fun ls hl => ?_)
        refine lv_goto (tgt := 9) hx hb dX12_setsWay_61 (by decide) ?_
        have G := G.sub (bs' := [[zO11 mo m_all m_has i_size i_next i_where i_token i_number i_word i_wrong i_farCrossing m_read i_z0 i_crossings i_inns m_posts m_shut m_here i_steps i_done i_at i_gone m_was m_came m_seenAt m_rowWorth m_farBy m_used i_everywhere i_again0 i_d0 i_never i_firstCame i_longRun i_moved i_crowd i_l0 i_fitMany i_fitLeast i_fitMost m_fitPost m_fitEnd m_keptPosts i_x0], [zAr T 0 m_all 3952 f_all], [zAr T 0 m_posts 7 (upd xp c9.toNatClampNeg 0)]]) [1, 2, 0] rfl
        exact ih_9 y_32 (lf / (zRd f_all i_z0 c9)) (upd xp c9.toNatClampNeg 0) (show -1 ≤ y_32.toInt ∧ y_32.toInt ≤ 6 ∧ 0 ≤ (lf / (zRd f_all i_z0 c9)).toInt ∧ zMP (upd xp c9.toNatClampNeg 0) ∧ y_32.toInt < i_crossings.toInt ∧ (lf / (zRd f_all i_z0 c9)) = nI (w_.toInt.toNat / aPr (zWo f_all i_z0 i_inns) (6 - y_32.toInt).toNat) ∧ zMVp (zRo f_all i_z0) (upd xp c9.toNatClampNeg 0) y_32.toInt ∧ zPwp (zWo f_all i_z0 i_inns) w_.toInt.toNat (upd xp c9.toNatClampNeg 0) y_32.toInt i_crossings.toInt from ⟨by omega, by omega, by omega, (zMP_upd hQ (by decide)), by omega, (by rw [show (6 - (y_32).toInt).toNat = (7 - c9.toInt).toNat by omega]; exact (aSw (W := (zWo f_all i_z0 i_inns)) (by omega) (by omega) (by omega) hl9 hb9.1 hq8).2), (zMVp_u hM9 (by omega) (by omega) (Or.inl rfl)), (zPwp_u hd9 (by omega) (by omega) (aPo_1 ha9.2))⟩) (show (y_32.toInt + 1).toNat < (c9.toInt + 1).toNat from by omega) _ _ ls G (lv_sub hl [0, 1, 2, 3] rfl)
      · have h_27 : (zInn i_inns c9 ∨ (zRd f_all i_z0 c9).toInt ≤ 0) := h_27
        refine lv_if_eq (tgt := 55) hx hb dX12_setsWay_44 (by decide) (fun _ => ?_) (fun q => absurd (by decide) q)
        refine lv_iconst (v := 1) hx hb dX12_setsWay_55 (by decide) ?_
        refine lv_idiv hx hb dX12_setsWay_56 (by decide) ?_
        have hb9 := aWo_0 (f := f_all) (z := i_z0) (n := i_inns) (c := c9) (by first | with_reducible assumption | assumption) (by omega) (by omega)
        have hdv : 0 ≤ (lf / 1).toInt := zDiv0 (by omega) (by decide)
        have hq8 := aCh_m (n := i_inns) hL (c := c9.toInt.toNat) (by omega)
        refine lv_istore_n (lv' := [(2, .int (lf / 1)), (3, .int c9), (0, .ref mo), (1, .int w_)]) hx hb dX12_setsWay_57 rfl hl (by decide) (zLvf_h rfl) (fun ls hl => ?_)
        obtain ⟨y_33, ey_33⟩ : ∃ q : Int32, q = c9 + (-1) := ⟨_, rfl⟩
        have ey_33i : y_33.toInt = c9.toInt - 1 := by rw [ey_33]; exact z_iaddI (x := c9) (y := (-1)) (by show -2147483648 ≤ c9.toInt + (-1 : Int); omega) (by show c9.toInt + (-1 : Int) < 2147483648; omega)
        refine lv_iinc (v := y_33) (lv' := [(3, .int y_33), (2, .int (lf / 1)), (0, .ref mo), (1, .int w_)]) hx hb dX12_setsWay_58 hl (k := 1) rfl ey_33.symm (by decide) (zLvf_h rfl) (fun ls hl => ?_)
        refine lv_goto (tgt := 9) hx hb dX12_setsWay_61 (by decide) ?_
        have G := G.sub (bs' := [[zO11 mo m_all m_has i_size i_next i_where i_token i_number i_word i_wrong i_farCrossing m_read i_z0 i_crossings i_inns m_posts m_shut m_here i_steps i_done i_at i_gone m_was m_came m_seenAt m_rowWorth m_farBy m_used i_everywhere i_again0 i_d0 i_never i_firstCame i_longRun i_moved i_crowd i_l0 i_fitMany i_fitLeast i_fitMost m_fitPost m_fitEnd m_keptPosts i_x0], [zAr T 0 m_all 3952 f_all], [zAr T 0 m_posts 7 (upd xp c9.toNatClampNeg 0)]]) [1, 2, 0] rfl
        exact ih_9 y_33 (lf / 1) (upd xp c9.toNatClampNeg 0) (show -1 ≤ y_33.toInt ∧ y_33.toInt ≤ 6 ∧ 0 ≤ (lf / 1).toInt ∧ zMP (upd xp c9.toNatClampNeg 0) ∧ y_33.toInt < i_crossings.toInt ∧ (lf / 1) = nI (w_.toInt.toNat / aPr (zWo f_all i_z0 i_inns) (6 - y_33.toInt).toNat) ∧ zMVp (zRo f_all i_z0) (upd xp c9.toNatClampNeg 0) y_33.toInt ∧ zPwp (zWo f_all i_z0 i_inns) w_.toInt.toNat (upd xp c9.toNatClampNeg 0) y_33.toInt i_crossings.toInt from ⟨by omega, by omega, by omega, (zMP_upd hQ (by decide)), by omega, (by rw [show (6 - (y_33).toInt).toNat = (7 - c9.toInt).toNat by omega]; exact (aSw (W := (zWo f_all i_z0 i_inns)) (by omega) (by omega) (by omega) hl9 (congrArg nI hb9.2).symm hq8).2), (zMVp_u hM9 (by omega) (by omega) (Or.inl rfl)), (zPwp_u hd9 (by omega) (by omega) (aPo_1 ha9.2))⟩) (show (y_33.toInt + 1).toNat < (c9.toInt + 1).toNat from by omega) _ _ ls G (lv_sub hl [0, 1, 2, 3] rfl)
set_option maxHeartbeats 4000000 in
set_option maxRecDepth 100000 in
/-- c_fm_unlikeTold -/
theorem c_fm_unlikeTold (l : Launch) (T : zTy) (mo : Nat) (m_all : Nat) (m_has : Nat) (i_size : Int32) (i_next : Int32) (i_where : Int32) (i_token : Int32) (i_number : Int32) (i_word : Int32) (i_wrong : Int32) (i_farCrossing : Int32) (m_read : Nat) (i_z0 : Int32) (i_crossings : Int32) (i_inns : Int32) (m_posts : Nat) (m_shut : Nat) (m_here : Nat) (i_steps : Int32) (i_done : Int32) (i_at : Int32) (i_gone : Int32) (m_was : Nat) (m_came : Nat) (m_seenAt : Nat) (m_rowWorth : Nat) (m_farBy : Nat) (m_used : Nat) (i_everywhere : Int32) (i_again0 : Int32) (i_d0 : Int32) (i_never : Int32) (i_firstCame : Int32) (i_longRun : Int32) (i_moved : Int32) (i_crowd : Int32) (i_l0 : Int32) (i_fitMany : Int32) (i_fitLeast : Int32) (i_fitMost : Int32) (m_fitPost : Nat) (m_fitEnd : Nat) (m_keptPosts : Nat) (i_x0 : Int32) (f_all : Nat → Int32) (f_posts : Nat → Int32) (u_ : Nat) (v_ : Nat) (hL : zML f_all i_z0 i_crossings) (hP : zMP f_posts) (hd : (∀ k : Nat, k < 7 → (k : Int) < i_crossings.toInt → f_posts k = aPo (zWo f_all i_z0 i_inns) u_ k)) (ht : (∀ j, j < 7 → 0 < ((zWo f_all i_z0 i_inns) j).toInt → zPt f_all i_z0 (nI j) = aPo (zWo f_all i_z0 i_inns) v_ j)) : zMi l T yX12_unlikeTold cX12_unlikeTold 3 (some .int) 3 0 0 [.ref mo] [[zO11 mo m_all m_has i_size i_next i_where i_token i_number i_word i_wrong i_farCrossing m_read i_z0 i_crossings i_inns m_posts m_shut m_here i_steps i_done i_at i_gone m_was m_came m_seenAt m_rowWorth m_farBy m_used i_everywhere i_again0 i_d0 i_never i_firstCame i_longRun i_moved i_crowd i_l0 i_fitMany i_fitLeast i_fitMost m_fitPost m_fitEnd m_keptPosts i_x0], [zAr T 0 m_all 3952 f_all], [zAr T 0 m_posts 7 f_posts]] (fun (r : Int32) bs => bs = [[zO11 mo m_all m_has i_size i_next i_where i_token i_number i_word i_wrong i_farCrossing m_read i_z0 i_crossings i_inns m_posts m_shut m_here i_steps i_done i_at i_gone m_was m_came m_seenAt m_rowWorth m_farBy m_used i_everywhere i_again0 i_d0 i_never i_firstCame i_longRun i_moved i_crowd i_l0 i_fitMany i_fitLeast i_fitMost m_fitPost m_fitEnd m_keptPosts i_x0], [zAr T 0 m_all 3952 f_all], [zAr T 0 m_posts 7 f_posts]] ∧ r = aUn (zWo f_all i_z0 i_inns) u_ v_ i_crossings.toInt.toNat) := by
  refine zMi_of (own := RX12) (by decide) rfl (Nat.le_of_ble_eq_true rfl) ?_
  intro p e s m args below meth c A ls C hr hlocks hnm hAe G hl
  refine zHide (fun Qz_ hQz_ => ?_)
  have hx := C.1
  have hb := C.2.1
  have hl : lv_has ls 3 [(0, .ref mo)] := hl
  have hz := hL.1
  have hcr := hL.cr
  refine lv_iconst (v := 0) hx hb dX12_unlikeTold_0 (by decide) ?_
  refine lv_istore_n (lv' := [(1, .int 0), (0, .ref mo)]) hx hb dX12_unlikeTold_1 rfl hl (by decide) (zLvf_h rfl) (fun ls hl => ?_)
  refine lv_iconst (v := 0) hx hb dX12_unlikeTold_2 (by decide) ?_
  refine lv_istore_n (lv' := [(2, .int 0), (1, .int 0), (0, .ref mo)]) hx hb dX12_unlikeTold_3 rfl hl (by decide) (zLvf_h rfl) (fun ls hl => ?_)
  refine z_lp2 (T := T) 4 (fun (i : Nat) (u : Int32) => [[zO11 mo m_all m_has i_size i_next i_where i_token i_number i_word i_wrong i_farCrossing m_read i_z0 i_crossings i_inns m_posts m_shut m_here i_steps i_done i_at i_gone m_was m_came m_seenAt m_rowWorth m_farBy m_used i_everywhere i_again0 i_d0 i_never i_firstCame i_longRun i_moved i_crowd i_l0 i_fitMany i_fitLeast i_fitMost m_fitPost m_fitEnd m_keptPosts i_x0], [zAr T 0 m_all 3952 f_all], [zAr T 0 m_posts 7 f_posts]]) (fun (i : Nat) (u : Int32) => [(2, .int (nI i)), (1, .int u), (0, .ref mo)]) (fun (i : Nat) (u : Int32) => i ≤ 7 ∧ (i : Int) ≤ i_crossings.toInt ∧ u = aUn (zWo f_all i_z0 i_inns) u_ v_ i) (fun (i : Nat) (u : Int32) => 7 - i) ?_ 0 0 (show 0 ≤ 7 ∧ (0 : Int) ≤ i_crossings.toInt ∧ 0 = aUn (zWo f_all i_z0 i_inns) u_ v_ 0 from ⟨by omega, by omega, rfl⟩) G (lv_sub hl [0, 1, 2] rfl)
  intro i u hI9 ih_4 H locs ls G hl
  replace hI9 : i ≤ 7 ∧ (i : Int) ≤ i_crossings.toInt ∧ u = aUn (zWo f_all i_z0 i_inns) u_ v_ i := hI9
  refine zAn3 hI9 ?_
  intro hi hic hu
  clear hI9
  replace G : zS T A s.heap s [[zO11 mo m_all m_has i_size i_next i_where i_token i_number i_word i_wrong i_farCrossing m_read i_z0 i_crossings i_inns m_posts m_shut m_here i_steps i_done i_at i_gone m_was m_came m_seenAt m_rowWorth m_farBy m_used i_everywhere i_again0 i_d0 i_never i_firstCame i_longRun i_moved i_crowd i_l0 i_fitMany i_fitLeast i_fitMost m_fitPost m_fitEnd m_keptPosts i_x0], [zAr T 0 m_all 3952 f_all], [zAr T 0 m_posts 7 f_posts]] _ _ := G
  replace hl : lv_has ls 3 [(2, .int (nI i)), (1, .int u), (0, .ref mo)] := hl
  refine lv_iload_n hx hb dX12_unlikeTold_4 rfl (lv_at hl 0 rfl) ?_
  refine lv_aload_n hx hb dX12_unlikeTold_5 rfl (lv_at hl 2 rfl) ?_
  refine z_get C G clX12 0 rfl 12 (by decide) m_fl_RX12_169 rfl dX12_unlikeTold_6 ?_
  refine lv_icmp_ge (tgt := 50) hx hb dX12_unlikeTold_9 (by decide) (fun c_1 => ?_) (fun c_1 => ?_)
  · have c_1n : i_crossings.toInt ≤ (i : Int) := by have q := (fa_le _ _).mp c_1; rw [nI_toInt (n := i) (by omega)] at q; exact q
    refine lv_iload_n hx hb dX12_unlikeTold_50 rfl (lv_at hl 1 rfl) ?_
    exact z_back hQz_ (z_iret C hr hlocks G (Nat.le_of_ble_eq_true rfl) (Nat.le_of_ble_eq_true rfl) dX12_unlikeTold_51 ⟨rfl, (by rw [hu]; exact congrArg (aUn (zWo f_all i_z0 i_inns) u_ v_) (by omega))⟩)
  · have c_1n : ¬ i_crossings.toInt ≤ (i : Int) := fun q => c_1 ((fa_le _ _).mpr (by rw [nI_toInt (n := i) (by omega)]; exact q))
    refine lv_iload_n hx hb dX12_unlikeTold_12 rfl (lv_at hl 1 rfl) ?_
    refine lv_aload_n hx hb dX12_unlikeTold_13 rfl (lv_at hl 2 rfl) ?_
    refine lv_iload_n hx hb dX12_unlikeTold_14 rfl (lv_at hl 0 rfl) ?_
    have ti_2 : (nI i).toInt = ((i : Nat) : Int) := nI_toInt (by omega)
    refine z_Vi (bc := [[zO11 mo m_all m_has i_size i_next i_where i_token i_number i_word i_wrong i_farCrossing m_read i_z0 i_crossings i_inns m_posts m_shut m_here i_steps i_done i_at i_gone m_was m_came m_seenAt m_rowWorth m_farBy m_used i_everywhere i_again0 i_d0 i_never i_firstCame i_longRun i_moved i_crowd i_l0 i_fitMany i_fitLeast i_fitMost m_fitPost m_fitEnd m_keptPosts i_x0], [zAr T 0 m_all 3952 f_all]]) (br := [[zAr T 0 m_posts 7 f_posts]]) (As := [.int (nI i)]) (rest := [.int u]) C G (c_m_isFree l T mo m_all m_has i_size i_next i_where i_token i_number i_word i_wrong i_farCrossing m_read i_z0 i_crossings i_inns m_posts m_shut m_here i_steps i_done i_at i_gone m_was m_came m_seenAt m_rowWorth m_farBy m_used i_everywhere i_again0 i_d0 i_never i_firstCame i_longRun i_moved i_crowd i_l0 i_fitMany i_fitLeast i_fitMost m_fitPost m_fitEnd m_keptPosts i_x0 f_all (nI i) (by first | with_reducible assumption | with_reducible rfl | omega | assumption | rfl | decide) (by first | with_reducible assumption | with_reducible rfl | omega | assumption | rfl | decide) (by first | with_reducible assumption | with_reducible rfl | omega | assumption | rfl | decide)) (kV_RX12_223 C.2.2.2.2 (Nat.le_of_ble_eq_true rfl) (Nat.le_of_ble_eq_true rfl)) [0, 1] [0, 0] rfl rfl (ci := 11) (qc := (RX12, TX12, 43)) rfl rfl (List.mem_flatten.mpr ⟨_, List.mem_of_getElem? (i := 0) rfl, List.mem_cons_self⟩) rfl rfl hl.1 dX12_unlikeTold_15 (Nat.le_of_ble_eq_true rfl) (Nat.le_of_ble_eq_true rfl) (fun r_4 b1 H locs hw G => ?_)
    refine zAn2 hw ?_
    intro hbs9 hc_3
    clear hw
    subst hbs9
    have G : zS T A s.heap s [[zAr T 0 m_posts 7 f_posts], [zO11 mo m_all m_has i_size i_next i_where i_token i_number i_word i_wrong i_farCrossing m_read i_z0 i_crossings i_inns m_posts m_shut m_here i_steps i_done i_at i_gone m_was m_came m_seenAt m_rowWorth m_farBy m_used i_everywhere i_again0 i_d0 i_never i_firstCame i_longRun i_moved i_crowd i_l0 i_fitMany i_fitLeast i_fitMost m_fitPost m_fitEnd m_keptPosts i_x0], [zAr T 0 m_all 3952 f_all]] _ _ := G
    rcases hc_3 with ⟨rfl, h_5, h_6⟩ | ⟨rfl, h_7⟩
    · have h_5 : ¬ zInn i_inns (nI i) := h_5
      have h_6 : 0 < (zRd f_all i_z0 (nI i)).toInt := h_6
      refine lv_if_eq (tgt := 41) hx hb dX12_unlikeTold_18 (by decide) (fun q => absurd q (by decide)) (fun _ => ?_)
      refine lv_aload_n hx hb dX12_unlikeTold_21 rfl (lv_at hl 2 rfl) ?_
      refine z_get C G clX12 1 rfl 14 (by decide) m_fl_RX12_20 rfl dX12_unlikeTold_22 ?_
      refine lv_iload_n hx hb dX12_unlikeTold_25 rfl (lv_at hl 0 rfl) ?_
      refine z_ild C G 0 rfl (vp_in_nI (by omega) (by decide)) dX12_unlikeTold_26 ?_
      refine lv_topi (fun v_8 ev_8 => ?_)
      rw [nI_clamp (by omega)] at ev_8
      subst ev_8
      refine lv_aload_n hx hb dX12_unlikeTold_27 rfl (lv_at hl 2 rfl) ?_
      refine lv_iload_n hx hb dX12_unlikeTold_28 rfl (lv_at hl 0 rfl) ?_
      have ti_9 : (nI i).toInt = ((i : Nat) : Int) := nI_toInt (by omega)
      refine z_Vi (bc := [[zO11 mo m_all m_has i_size i_next i_where i_token i_number i_word i_wrong i_farCrossing m_read i_z0 i_crossings i_inns m_posts m_shut m_here i_steps i_done i_at i_gone m_was m_came m_seenAt m_rowWorth m_farBy m_used i_everywhere i_again0 i_d0 i_never i_firstCame i_longRun i_moved i_crowd i_l0 i_fitMany i_fitLeast i_fitMost m_fitPost m_fitEnd m_keptPosts i_x0], [zAr T 0 m_all 3952 f_all]]) (br := [[zAr T 0 m_posts 7 f_posts]]) (As := [.int (nI i)]) (rest := [.int (f_posts i), .int u]) C G (c_m_postTold l T mo m_all m_has i_size i_next i_where i_token i_number i_word i_wrong i_farCrossing m_read i_z0 i_crossings i_inns m_posts m_shut m_here i_steps i_done i_at i_gone m_was m_came m_seenAt m_rowWorth m_farBy m_used i_everywhere i_again0 i_d0 i_never i_firstCame i_longRun i_moved i_crowd i_l0 i_fitMany i_fitLeast i_fitMost m_fitPost m_fitEnd m_keptPosts i_x0 f_all (nI i) (by first | with_reducible assumption | with_reducible rfl | omega | assumption | rfl | decide) (by first | with_reducible assumption | with_reducible rfl | omega | assumption | rfl | decide) (by first | with_reducible assumption | with_reducible rfl | omega | assumption | rfl | decide)) (kV_RX12_193 C.2.2.2.2 (Nat.le_of_ble_eq_true rfl) (Nat.le_of_ble_eq_true rfl)) [1, 2] [1, 0] rfl rfl (ci := 11) (qc := (RX12, TX12, 43)) rfl rfl (List.mem_flatten.mpr ⟨_, List.mem_of_getElem? (i := 0) rfl, List.mem_cons_self⟩) rfl rfl hl.1 dX12_unlikeTold_29 (Nat.le_of_ble_eq_true rfl) (Nat.le_of_ble_eq_true rfl) (fun r_13 b1 H locs hw G => ?_)
      refine zAn4 hw ?_
      intro hbs9 h_10 h_11 h_12
      clear hw
      subst hbs9
      have G : zS T A s.heap s [[zAr T 0 m_posts 7 f_posts], [zO11 mo m_all m_has i_size i_next i_where i_token i_number i_word i_wrong i_farCrossing m_read i_z0 i_crossings i_inns m_posts m_shut m_here i_steps i_done i_at i_gone m_was m_came m_seenAt m_rowWorth m_farBy m_used i_everywhere i_again0 i_d0 i_never i_firstCame i_longRun i_moved i_crowd i_l0 i_fitMany i_fitLeast i_fitMost m_fitPost m_fitEnd m_keptPosts i_x0], [zAr T 0 m_all 3952 f_all]] _ _ := G
      subst h_10
      refine lv_icmp_eq (tgt := 41) hx hb dX12_unlikeTold_32 (by decide) (fun c_14 => ?_) (fun c_14 => ?_)
      · have c_14n : (f_posts i).toInt = (zPt f_all i_z0 (nI i)).toInt := (fa_eq _ _).mp c_14
        refine lv_iconst (v := 0) hx hb dX12_unlikeTold_41 (by decide) ?_
        have tn9 := nI_n (n := i) (by omega)
        have ti9 := nI_toInt (n := i) (by omega)
        have hq9 := aCh_m (n := i_inns) hL (c := i) (by omega)
        refine lv_topi (fun y_15 ey_15 => ?_)
        obtain rfl : y_15 = (if aRd (zWo f_all i_z0 i_inns) u_ i = aRd (zWo f_all i_z0 i_inns) v_ i then (0 : Int32) else (1 : Int32) <<< (nI i &&& 31)) := ey_15.trans ((by first | (have ha9 := aWo_0 (f := f_all) (z := i_z0) (n := i_inns) (c := nI i) (by first | with_reducible assumption | assumption) (by omega) (by omega); rw [tn9] at ha9; have q8 : (0 : Int32) = aPo (zWo f_all i_z0 i_inns) u_ i := aPo_1 ha9.2; have q7 : (0 : Int32) = aPo (zWo f_all i_z0 i_inns) v_ i := aPo_1 ha9.2; exact (if_pos ((aPo_q hq9 q8 q7).mp rfl)).symm) | (have ha9 := aWo_1 (f := f_all) (z := i_z0) (n := i_inns) (c := nI i) (by first | with_reducible assumption | assumption) (by first | with_reducible assumption | assumption) (by omega) (by omega); rw [tn9] at ha9; exact (if_pos ((aPo_q hq9 (hd i (by omega) (by omega)) (ht i (by omega) ha9.2)).mp (by first | with_reducible assumption | assumption))).symm)))
        refine lv_ior hx hb dX12_unlikeTold_42 ?_
        refine lv_istore_n (lv' := [(1, .int (u ||| (if aRd (zWo f_all i_z0 i_inns) u_ i = aRd (zWo f_all i_z0 i_inns) v_ i then (0 : Int32) else (1 : Int32) <<< (nI i &&& 31)))), (2, .int (nI i)), (0, .ref mo)]) hx hb dX12_unlikeTold_43 rfl hl (by decide) (zLvf_h rfl) (fun ls hl => ?_)
        refine lv_iinc (v := nI (i + 1)) (lv' := [(2, .int (nI (i + 1))), (1, .int (u ||| (if aRd (zWo f_all i_z0 i_inns) u_ i = aRd (zWo f_all i_z0 i_inns) v_ i then (0 : Int32) else (1 : Int32) <<< (nI i &&& 31)))), (0, .ref mo)]) hx hb dX12_unlikeTold_44 hl (k := 1) rfl (z_inc i 1) (by decide) (zLvf_h rfl) (fun ls hl => ?_)
        refine lv_goto (tgt := 4) hx hb dX12_unlikeTold_47 (by decide) ?_
        have G := G.sub (bs' := [[zO11 mo m_all m_has i_size i_next i_where i_token i_number i_word i_wrong i_farCrossing m_read i_z0 i_crossings i_inns m_posts m_shut m_here i_steps i_done i_at i_gone m_was m_came m_seenAt m_rowWorth m_farBy m_used i_everywhere i_again0 i_d0 i_never i_firstCame i_longRun i_moved i_crowd i_l0 i_fitMany i_fitLeast i_fitMost m_fitPost m_fitEnd m_keptPosts i_x0], [zAr T 0 m_all 3952 f_all], [zAr T 0 m_posts 7 f_posts]]) [1, 2, 0] rfl
        exact ih_4 (i + 1) (u ||| (if aRd (zWo f_all i_z0 i_inns) u_ i = aRd (zWo f_all i_z0 i_inns) v_ i then (0 : Int32) else (1 : Int32) <<< (nI i &&& 31))) (show (i + 1) ≤ 7 ∧ ((i + 1) : Int) ≤ i_crossings.toInt ∧ (u ||| (if aRd (zWo f_all i_z0 i_inns) u_ i = aRd (zWo f_all i_z0 i_inns) v_ i then (0 : Int32) else (1 : Int32) <<< (nI i &&& 31))) = aUn (zWo f_all i_z0 i_inns) u_ v_ (i + 1) from ⟨by omega, by omega, (by rw [hu]; rfl)⟩) (show 7 - (i + 1) < 7 - i from by omega) _ _ ls G (lv_sub hl [0, 1, 2] rfl)
      · have c_14n : ¬ (f_posts i).toInt = (zPt f_all i_z0 (nI i)).toInt := fun q => c_14 ((fa_eq _ _).mpr q)
        refine lv_iconst (v := 1) hx hb dX12_unlikeTold_35 (by decide) ?_
        refine lv_iload_n hx hb dX12_unlikeTold_36 rfl (lv_at hl 0 rfl) ?_
        refine lv_ishl hx hb dX12_unlikeTold_37 ?_
        refine lv_goto (tgt := 42) hx hb dX12_unlikeTold_38 (by decide) ?_
        have tn9 := nI_n (n := i) (by omega)
        have ti9 := nI_toInt (n := i) (by omega)
        have hq9 := aCh_m (n := i_inns) hL (c := i) (by omega)
        refine lv_topi (fun y_16 ey_16 => ?_)
        obtain rfl : y_16 = (if aRd (zWo f_all i_z0 i_inns) u_ i = aRd (zWo f_all i_z0 i_inns) v_ i then (0 : Int32) else (1 : Int32) <<< (nI i &&& 31)) := ey_16.trans ((by have ha9 := aWo_1 (f := f_all) (z := i_z0) (n := i_inns) (c := nI i) (by first | with_reducible assumption | assumption) (by first | with_reducible assumption | assumption) (by omega) (by omega); rw [tn9] at ha9; exact (if_neg (fun q8 => absurd ((aPo_q hq9 (hd i (by omega) (by omega)) (ht i (by omega) ha9.2)).mpr q8) (by first | with_reducible assumption | assumption))).symm))
        refine lv_ior hx hb dX12_unlikeTold_42 ?_
        refine lv_istore_n (lv' := [(1, .int (u ||| (if aRd (zWo f_all i_z0 i_inns) u_ i = aRd (zWo f_all i_z0 i_inns) v_ i then (0 : Int32) else (1 : Int32) <<< (nI i &&& 31)))), (2, .int (nI i)), (0, .ref mo)]) hx hb dX12_unlikeTold_43 rfl hl (by decide) (zLvf_h rfl) (fun ls hl => ?_)
        refine lv_iinc (v := nI (i + 1)) (lv' := [(2, .int (nI (i + 1))), (1, .int (u ||| (if aRd (zWo f_all i_z0 i_inns) u_ i = aRd (zWo f_all i_z0 i_inns) v_ i then (0 : Int32) else (1 : Int32) <<< (nI i &&& 31)))), (0, .ref mo)]) hx hb dX12_unlikeTold_44 hl (k := 1) rfl (z_inc i 1) (by decide) (zLvf_h rfl) (fun ls hl => ?_)
        refine lv_goto (tgt := 4) hx hb dX12_unlikeTold_47 (by decide) ?_
        have G := G.sub (bs' := [[zO11 mo m_all m_has i_size i_next i_where i_token i_number i_word i_wrong i_farCrossing m_read i_z0 i_crossings i_inns m_posts m_shut m_here i_steps i_done i_at i_gone m_was m_came m_seenAt m_rowWorth m_farBy m_used i_everywhere i_again0 i_d0 i_never i_firstCame i_longRun i_moved i_crowd i_l0 i_fitMany i_fitLeast i_fitMost m_fitPost m_fitEnd m_keptPosts i_x0], [zAr T 0 m_all 3952 f_all], [zAr T 0 m_posts 7 f_posts]]) [1, 2, 0] rfl
        exact ih_4 (i + 1) (u ||| (if aRd (zWo f_all i_z0 i_inns) u_ i = aRd (zWo f_all i_z0 i_inns) v_ i then (0 : Int32) else (1 : Int32) <<< (nI i &&& 31))) (show (i + 1) ≤ 7 ∧ ((i + 1) : Int) ≤ i_crossings.toInt ∧ (u ||| (if aRd (zWo f_all i_z0 i_inns) u_ i = aRd (zWo f_all i_z0 i_inns) v_ i then (0 : Int32) else (1 : Int32) <<< (nI i &&& 31))) = aUn (zWo f_all i_z0 i_inns) u_ v_ (i + 1) from ⟨by omega, by omega, (by rw [hu]; rfl)⟩) (show 7 - (i + 1) < 7 - i from by omega) _ _ ls G (lv_sub hl [0, 1, 2] rfl)
    · have h_7 : (zInn i_inns (nI i) ∨ (zRd f_all i_z0 (nI i)).toInt ≤ 0) := h_7
      refine lv_if_eq (tgt := 41) hx hb dX12_unlikeTold_18 (by decide) (fun _ => ?_) (fun q => absurd (by decide) q)
      refine lv_iconst (v := 0) hx hb dX12_unlikeTold_41 (by decide) ?_
      have tn9 := nI_n (n := i) (by omega)
      have ti9 := nI_toInt (n := i) (by omega)
      have hq9 := aCh_m (n := i_inns) hL (c := i) (by omega)
      refine lv_topi (fun y_17 ey_17 => ?_)
      obtain rfl : y_17 = (if aRd (zWo f_all i_z0 i_inns) u_ i = aRd (zWo f_all i_z0 i_inns) v_ i then (0 : Int32) else (1 : Int32) <<< (nI i &&& 31)) := ey_17.trans ((by first | (have ha9 := aWo_0 (f := f_all) (z := i_z0) (n := i_inns) (c := nI i) (by first | with_reducible assumption | assumption) (by omega) (by omega); rw [tn9] at ha9; have q8 : (0 : Int32) = aPo (zWo f_all i_z0 i_inns) u_ i := aPo_1 ha9.2; have q7 : (0 : Int32) = aPo (zWo f_all i_z0 i_inns) v_ i := aPo_1 ha9.2; exact (if_pos ((aPo_q hq9 q8 q7).mp rfl)).symm) | (have ha9 := aWo_1 (f := f_all) (z := i_z0) (n := i_inns) (c := nI i) (by first | with_reducible assumption | assumption) (by first | with_reducible assumption | assumption) (by omega) (by omega); rw [tn9] at ha9; exact (if_pos ((aPo_q hq9 (hd i (by omega) (by omega)) (ht i (by omega) ha9.2)).mp (by first | with_reducible assumption | assumption))).symm)))
      refine lv_ior hx hb dX12_unlikeTold_42 ?_
      refine lv_istore_n (lv' := [(1, .int (u ||| (if aRd (zWo f_all i_z0 i_inns) u_ i = aRd (zWo f_all i_z0 i_inns) v_ i then (0 : Int32) else (1 : Int32) <<< (nI i &&& 31)))), (2, .int (nI i)), (0, .ref mo)]) hx hb dX12_unlikeTold_43 rfl hl (by decide) (zLvf_h rfl) (fun ls hl => ?_)
      refine lv_iinc (v := nI (i + 1)) (lv' := [(2, .int (nI (i + 1))), (1, .int (u ||| (if aRd (zWo f_all i_z0 i_inns) u_ i = aRd (zWo f_all i_z0 i_inns) v_ i then (0 : Int32) else (1 : Int32) <<< (nI i &&& 31)))), (0, .ref mo)]) hx hb dX12_unlikeTold_44 hl (k := 1) rfl (z_inc i 1) (by decide) (zLvf_h rfl) (fun ls hl => ?_)
      refine lv_goto (tgt := 4) hx hb dX12_unlikeTold_47 (by decide) ?_
      have G := G.sub (bs' := [[zO11 mo m_all m_has i_size i_next i_where i_token i_number i_word i_wrong i_farCrossing m_read i_z0 i_crossings i_inns m_posts m_shut m_here i_steps i_done i_at i_gone m_was m_came m_seenAt m_rowWorth m_farBy m_used i_everywhere i_again0 i_d0 i_never i_firstCame i_longRun i_moved i_crowd i_l0 i_fitMany i_fitLeast i_fitMost m_fitPost m_fitEnd m_keptPosts i_x0], [zAr T 0 m_all 3952 f_all], [zAr T 0 m_posts 7 f_posts]]) [1, 2, 0] rfl
      exact ih_4 (i + 1) (u ||| (if aRd (zWo f_all i_z0 i_inns) u_ i = aRd (zWo f_all i_z0 i_inns) v_ i then (0 : Int32) else (1 : Int32) <<< (nI i &&& 31))) (show (i + 1) ≤ 7 ∧ ((i + 1) : Int) ≤ i_crossings.toInt ∧ (u ||| (if aRd (zWo f_all i_z0 i_inns) u_ i = aRd (zWo f_all i_z0 i_inns) v_ i then (0 : Int32) else (1 : Int32) <<< (nI i &&& 31))) = aUn (zWo f_all i_z0 i_inns) u_ v_ (i + 1) from ⟨by omega, by omega, (by rw [hu]; rfl)⟩) (show 7 - (i + 1) < 7 - i from by omega) _ _ ls G (lv_sub hl [0, 1, 2] rfl)
def zBs (s : Int32) : Nat → Int32
  | 0 => 0
  | n + 1 => zBs s n + ((s >>> (nI n &&& 31)) &&& 1)
set_option maxHeartbeats 4000000 in
set_option maxRecDepth 100000 in
/-- c_fm_bitsOf -/
theorem c_fm_bitsOf (l : Launch) (T : zTy) (s_ : Int32) : zMi l T yX12_bitsOf cX12_bitsOf 3 (some .int) 1 0 0 [.int s_] [] (fun (r : Int32) bs => bs = [] ∧ r = zBs s_ 12) := by
  refine zMi_of (own := RX12) (by decide) rfl (Nat.le_of_ble_eq_true rfl) ?_
  intro p e s m args below meth c A ls C hr hlocks hnm hAe G hl
  refine zHide (fun Qz_ hQz_ => ?_)
  have hx := C.1
  have hb := C.2.1
  have hl : lv_has ls 3 [(0, .int s_)] := hl
  refine lv_iconst (v := 0) hx hb dX12_bitsOf_0 (by decide) ?_
  refine lv_istore_n (lv' := [(1, .int 0), (0, .int s_)]) hx hb dX12_bitsOf_1 rfl hl (by decide) (zLvf_h rfl) (fun ls hl => ?_)
  refine lv_iconst (v := 0) hx hb dX12_bitsOf_2 (by decide) ?_
  refine lv_istore_n (lv' := [(2, .int 0), (1, .int 0), (0, .int s_)]) hx hb dX12_bitsOf_3 rfl hl (by decide) (zLvf_h rfl) (fun ls hl => ?_)
  refine z_lp2 (T := T) 4 (fun (i : Nat) (u : Int32) => []) (fun (i : Nat) (u : Int32) => [(2, .int (nI i)), (1, .int u), (0, .int s_)]) (fun (i : Nat) (u : Int32) => i ≤ 12 ∧ u = zBs s_ i) (fun (i : Nat) (u : Int32) => 12 - i) ?_ 0 0 (show 0 ≤ 12 ∧ 0 = zBs s_ 0 from ⟨by omega, rfl⟩) G (lv_sub hl [0, 1, 2] rfl)
  intro i u hI9 ih_4 H locs ls G hl
  replace hI9 : i ≤ 12 ∧ u = zBs s_ i := hI9
  refine zAn2 hI9 ?_
  intro hi hu
  clear hI9
  replace G : zS T A s.heap s [] _ _ := G
  replace hl : lv_has ls 3 [(2, .int (nI i)), (1, .int u), (0, .int s_)] := hl
  refine lv_iload_n hx hb dX12_bitsOf_4 rfl (lv_at hl 0 rfl) ?_
  refine lv_bipush (v := 12) hx hb dX12_bitsOf_5 (by decide) ?_
  refine lv_icmp_ge (tgt := 24) hx hb dX12_bitsOf_7 (by decide) (fun c_1 => ?_) (fun c_1 => ?_)
  · have c_1n : 12 ≤ i := (nI_leI (a := 12) (b := i) (by omega) (by omega)).mp c_1
    refine lv_iload_n hx hb dX12_bitsOf_24 rfl (lv_at hl 1 rfl) ?_
    exact z_back hQz_ (z_iret C hr hlocks G (Nat.le_of_ble_eq_true rfl) (Nat.le_of_ble_eq_true rfl) dX12_bitsOf_25 ⟨rfl, (by rw [hu]; exact congrArg (zBs s_) (by omega))⟩)
  · have c_1n : ¬ 12 ≤ i := fun q => c_1 ((nI_leI (a := 12) (b := i) (by omega) (by omega)).mpr q)
    refine lv_iload_n hx hb dX12_bitsOf_10 rfl (lv_at hl 1 rfl) ?_
    refine lv_iload_n hx hb dX12_bitsOf_11 rfl (lv_at hl 2 rfl) ?_
    refine lv_iload_n hx hb dX12_bitsOf_12 rfl (lv_at hl 0 rfl) ?_
    refine lv_ishr hx hb dX12_bitsOf_13 ?_
    refine lv_iconst (v := 1) hx hb dX12_bitsOf_14 (by decide) ?_
    refine lv_iand hx hb dX12_bitsOf_15 ?_
    refine lv_iadd hx hb dX12_bitsOf_16 ?_
    refine lv_istore_n (lv' := [(1, .int (u + ((s_ >>> ((nI i) &&& 31)) &&& 1))), (2, .int (nI i)), (0, .int s_)]) hx hb dX12_bitsOf_17 rfl hl (by decide) (zLvf_h rfl) (fun ls hl => ?_)
    refine lv_iinc (v := nI (i + 1)) (lv' := [(2, .int (nI (i + 1))), (1, .int (u + ((s_ >>> ((nI i) &&& 31)) &&& 1))), (0, .int s_)]) hx hb dX12_bitsOf_18 hl (k := 1) rfl (z_inc i 1) (by decide) (zLvf_h rfl) (fun ls hl => ?_)
    refine lv_goto (tgt := 4) hx hb dX12_bitsOf_21 (by decide) ?_
    exact ih_4 (i + 1) (u + ((s_ >>> ((nI i) &&& 31)) &&& 1)) (show (i + 1) ≤ 12 ∧ (u + ((s_ >>> ((nI i) &&& 31)) &&& 1)) = zBs s_ (i + 1) from ⟨by omega, (by rw [hu]; rfl)⟩) (show 12 - (i + 1) < 12 - i from by omega) _ _ ls G (lv_sub hl [0, 1, 2] rfl)
/-- behind 499 steps, by ways: the way, the crossing, how many steps -/
def aE (W L : Nat → Int32) (w c : Nat) : Nat × Nat × Nat := aN W L 499 w c 0
theorem zEnt {cr inn wy pc : Int32} {k1 k2 k3 f1 f2 f5 : Nat → Int32} {n : Nat} (hI : zLI cr k1 k3) (hO : aOk (aW cr inn k1) k2) (hT : zTab cr inn k1 k2 wy pc f1 f2 f5 n) {w c : Nat} (hw : w < aPr (aW cr inn k1) 7) (hc : c < 7) : zEntry f5 n (nI w) (nI c) = nI (aT (aW cr inn k1) k2 499 (8 * w + c)) ∧ zEntry f5 n (nI w) (nI c) &&& 7 = nI (aE (aW cr inn k1) k2 w c).2.1 ∧ zEntry f5 n (nI w) (nI c) >>> (17 &&& 31) = nI (aE (aW cr inn k1) k2 w c).2.2 ∧ (zEntry f5 n (nI w) (nI c) &&& 131071) >>> (3 &&& 31) = nI (aE (aW cr inn k1) k2 w c).1 := by
  have p := hO.2.2
  have hi : 8 * w + c < 8 * aPr (aW cr inn k1) 7 := by omega
  have e0 : (nI w <<< (3 &&& 31)) + nI c = nI (8 * w + c) := by
    rw [pk_shlN (3 &&& 31) 3 (by decide) (by omega), nI_add]
    exact congrArg nI (by omega)
  have e1 : zEntry f5 n (nI w) (nI c) = nI (aT (aW cr inn k1) k2 499 (8 * w + c)) := by
    have t := nI_toInt (n := 8 * w + c) (by omega)
    have hn := hT.2.2.2.1
    unfold zEntry
    rw [e0, if_pos ⟨by omega, by omega⟩, show (nI (8 * w + c)).toNatClampNeg = 8 * w + c from pk_cl (8 * w + c) rfl (by omega)]
    exact hT.2.2.2.2 _ hi
  obtain ⟨b1, b2, b3, b4, b5, b6⟩ := aT_b hO (n := 499) hi
  have d1 : (8 * w + c) / 8 = w := by omega
  have d2 : (8 * w + c) % 8 = c := by omega
  rw [d1, d2] at b1 b4 b5 b6
  have hE : aN (aW cr inn k1) k2 499 w c 0 = aE (aW cr inn k1) k2 w c := rfl
  rw [hE] at b1 b4 b5 b6
  refine ⟨e1, ?_, ?_, ?_⟩
  · rw [e1, aAn (by omega)]
    exact congrArg nI (by omega)
  · rw [e1, pk_shrN (by omega) (17 &&& 31) 17 (by decide)]
    exact congrArg nI (by omega)
  · rw [e1, aAp (by omega), aSh (by omega)]
    exact congrArg nI (by omega)
set_option maxHeartbeats 4000000 in
set_option maxRecDepth 100000 in
/-- c_f_unlike -/
theorem c_f_unlike (l : Launch) (T : zTy) (h : Nat) (la : Nat) (md : Int32) (wy : Int32) (pc_ : Int32) (f1 : Nat → Int32) (f2 : Nat → Int32) (f3 : Nat → Int32) (f4 : Nat → Int32) (f5 : Nat → Int32) (f6 : Nat → Int32) (n4 : Nat) (ww : va_W) (cr : Int32) (inn : Int32) (k1 : Nat → Int32) (k2 : Nat → Int32) (k3 : Nat → Int32) (k4 : Nat → Int32) (z : va_W) (x : Int32) (y : Int32) (hww : bWays T h la md wy pc_ f1 f2 f3 f4 f5 f6 n4 ww) (hz : bLand T la cr inn k1 k2 k3 k4 z) (hI : zLI cr k1 k3) (hF : aF cr inn k1 f1 f2) (hO : aOk (aW cr inn k1) k2) (hxw : 0 ≤ x.toInt) (hyw : 0 ≤ y.toInt) : zMi l T yX0_unlike cX0_unlike 5 (some .int) 2 0 0 [.ref h, .int x, .int y] [ww, z] (fun (r : Int32) bs => bs = [ww, z] ∧ r = aUn (aW cr inn k1) x.toInt.toNat y.toInt.toNat cr.toInt.toNat) := by
  refine zMi_of (own := RX0) (by decide) rfl (Nat.le_of_ble_eq_true rfl) ?_
  intro p e s m args below meth c A ls C hr hlocks hnm hAe G hl
  refine zHide (fun Qz_ hQz_ => ?_)
  have hx := C.1
  have hb := C.2.1
  have hl : lv_has ls 5 [(0, .ref h), (1, .int x), (2, .int y)] := hl
  have hcr := hI.1
  have hxl := Int32.toInt_lt x
  have hyl := Int32.toInt_lt y
  refine lv_iconst (v := 0) hx hb dX0_unlike_0 (by decide) ?_
  refine lv_istore_n (lv' := [(3, .int 0), (0, .ref h), (1, .int x), (2, .int y)]) hx hb dX0_unlike_1 rfl hl (by decide) (zLvf_h rfl) (fun ls hl => ?_)
  refine lv_iconst (v := 0) hx hb dX0_unlike_2 (by decide) ?_
  refine lv_istore (lv' := [(4, .int 0), (3, .int 0), (0, .ref h), (1, .int x), (2, .int y)]) hx hb dX0_unlike_3 hl (by decide) (zLvf_h rfl) (fun ls hl => ?_)
  refine zEx6 hww ?_
  intro a1_1 a2_2 a3_3 a4_4 a5_5 a6_6 hbs9
  clear hww
  subst hbs9
  have G : zS T A s.heap s [[zO0 h md wy la pc_ a1_1 a2_2 a3_3 a4_4 a5_5 a6_6], [zAr T 0 a1_1 7 f1], [zAr T 0 a2_2 7 f2], [zAr T 0 a3_3 7 f3], [zAr T 0 a4_4 n4 f4], [zAr T 0 a5_5 n4 f5], [zAr T 0 a6_6 n4 f6], z] _ _ := G.re rfl
  refine zEx4 hz ?_
  intro a1_7 a2_8 a3_9 a4_10 hbs9
  clear hz
  subst hbs9
  have G : zS T A s.heap s [[zO0 h md wy la pc_ a1_1 a2_2 a3_3 a4_4 a5_5 a6_6], [zAr T 0 a1_1 7 f1], [zAr T 0 a2_2 7 f2], [zAr T 0 a3_3 7 f3], [zAr T 0 a4_4 n4 f4], [zAr T 0 a5_5 n4 f5], [zAr T 0 a6_6 n4 f6], [zO4 la cr inn a1_7 a2_8 a3_9 a4_10], [zAr T 0 a1_7 7 k1], [zAr T 0 a2_8 28 k2], [zAr T 0 a3_9 7 k3], [zAr T 0 a4_10 7 k4]] _ _ := G.re rfl
  have hw_11 : bWays T h la md wy pc_ f1 f2 f3 f4 f5 f6 n4 [zO0 h md wy la pc_ a1_1 a2_2 a3_3 a4_4 a5_5 a6_6, zAr T 0 a1_1 7 f1, zAr T 0 a2_2 7 f2, zAr T 0 a3_3 7 f3, zAr T 0 a4_4 n4 f4, zAr T 0 a5_5 n4 f5, zAr T 0 a6_6 n4 f6] := ⟨a1_1, a2_2, a3_3, a4_4, a5_5, a6_6, rfl⟩
  have G : zS T A s.heap s [[zO0 h md wy la pc_ a1_1 a2_2 a3_3 a4_4 a5_5 a6_6, zAr T 0 a1_1 7 f1, zAr T 0 a2_2 7 f2, zAr T 0 a3_3 7 f3, zAr T 0 a4_4 n4 f4, zAr T 0 a5_5 n4 f5, zAr T 0 a6_6 n4 f6], [zO4 la cr inn a1_7 a2_8 a3_9 a4_10], [zAr T 0 a1_7 7 k1], [zAr T 0 a2_8 28 k2], [zAr T 0 a3_9 7 k3], [zAr T 0 a4_10 7 k4]] _ _ := G.re rfl
  have hw_12 : bLand T la cr inn k1 k2 k3 k4 [zO4 la cr inn a1_7 a2_8 a3_9 a4_10, zAr T 0 a1_7 7 k1, zAr T 0 a2_8 28 k2, zAr T 0 a3_9 7 k3, zAr T 0 a4_10 7 k4] := ⟨a1_7, a2_8, a3_9, a4_10, rfl⟩
  have G : zS T A s.heap s [[zO0 h md wy la pc_ a1_1 a2_2 a3_3 a4_4 a5_5 a6_6, zAr T 0 a1_1 7 f1, zAr T 0 a2_2 7 f2, zAr T 0 a3_3 7 f3, zAr T 0 a4_4 n4 f4, zAr T 0 a5_5 n4 f5, zAr T 0 a6_6 n4 f6], [zO4 la cr inn a1_7 a2_8 a3_9 a4_10, zAr T 0 a1_7 7 k1, zAr T 0 a2_8 28 k2, zAr T 0 a3_9 7 k3, zAr T 0 a4_10 7 k4]] _ _ := G.re rfl
  refine z_lp2 (T := T) 5 (fun (i : Nat) (u3 : Int32) => [[zO0 h md wy la pc_ a1_1 a2_2 a3_3 a4_4 a5_5 a6_6, zAr T 0 a1_1 7 f1, zAr T 0 a2_2 7 f2, zAr T 0 a3_3 7 f3, zAr T 0 a4_4 n4 f4, zAr T 0 a5_5 n4 f5, zAr T 0 a6_6 n4 f6], [zO4 la cr inn a1_7 a2_8 a3_9 a4_10, zAr T 0 a1_7 7 k1, zAr T 0 a2_8 28 k2, zAr T 0 a3_9 7 k3, zAr T 0 a4_10 7 k4]]) (fun (i : Nat) (u3 : Int32) => [(4, .int (nI i)), (3, .int u3), (0, .ref h), (1, .int x), (2, .int y)]) (fun (i : Nat) (u3 : Int32) => i ≤ cr.toInt.toNat ∧ u3 = aUn (aW cr inn k1) x.toInt.toNat y.toInt.toNat i) (fun (i : Nat) (u3 : Int32) => cr.toInt.toNat - i) ?_ 0 0 (show 0 ≤ cr.toInt.toNat ∧ 0 = aUn (aW cr inn k1) x.toInt.toNat y.toInt.toNat 0 from ⟨by omega, rfl⟩) G (lv_sub hl [0, 1, 2, 3, 4] rfl)
  intro i u3 hI9 ih_5 H locs ls G hl
  replace hI9 : i ≤ cr.toInt.toNat ∧ u3 = aUn (aW cr inn k1) x.toInt.toNat y.toInt.toNat i := hI9
  refine zAn2 hI9 ?_
  intro hi hu
  clear hI9
  replace G : zS T A s.heap s [[zO0 h md wy la pc_ a1_1 a2_2 a3_3 a4_4 a5_5 a6_6, zAr T 0 a1_1 7 f1, zAr T 0 a2_2 7 f2, zAr T 0 a3_3 7 f3, zAr T 0 a4_4 n4 f4, zAr T 0 a5_5 n4 f5, zAr T 0 a6_6 n4 f6], [zO4 la cr inn a1_7 a2_8 a3_9 a4_10, zAr T 0 a1_7 7 k1, zAr T 0 a2_8 28 k2, zAr T 0 a3_9 7 k3, zAr T 0 a4_10 7 k4]] _ _ := G
  replace hl : lv_has ls 5 [(4, .int (nI i)), (3, .int u3), (0, .ref h), (1, .int x), (2, .int y)] := hl
  refine lv_iload hx hb dX0_unlike_5 (lv_at hl 0 rfl) ?_
  refine lv_aload_n hx hb dX0_unlike_7 rfl (lv_at hl 2 rfl) ?_
  have G : zS T A s.heap s [[zO0 h md wy la pc_ a1_1 a2_2 a3_3 a4_4 a5_5 a6_6], [zAr T 0 a1_1 7 f1], [zAr T 0 a2_2 7 f2], [zAr T 0 a3_3 7 f3], [zAr T 0 a4_4 n4 f4], [zAr T 0 a5_5 n4 f5], [zAr T 0 a6_6 n4 f6], [zO4 la cr inn a1_7 a2_8 a3_9 a4_10, zAr T 0 a1_7 7 k1, zAr T 0 a2_8 28 k2, zAr T 0 a3_9 7 k3, zAr T 0 a4_10 7 k4]] _ _ := G.re rfl
  refine z_get C G clX0 0 rfl 2 (by decide) m_fl_RX0_14 rfl dX0_unlike_8 ?_
  have G : zS T A s.heap s [[zO0 h md wy la pc_ a1_1 a2_2 a3_3 a4_4 a5_5 a6_6], [zAr T 0 a1_1 7 f1], [zAr T 0 a2_2 7 f2], [zAr T 0 a3_3 7 f3], [zAr T 0 a4_4 n4 f4], [zAr T 0 a5_5 n4 f5], [zAr T 0 a6_6 n4 f6], [zO4 la cr inn a1_7 a2_8 a3_9 a4_10], [zAr T 0 a1_7 7 k1], [zAr T 0 a2_8 28 k2], [zAr T 0 a3_9 7 k3], [zAr T 0 a4_10 7 k4]] _ _ := G.re rfl
  refine z_get C G clX4 7 rfl 0 (by decide) m_fl_RX0_107 rfl dX0_unlike_11 ?_
  refine lv_icmp_ge (tgt := 51) hx hb dX0_unlike_14 (by decide) (fun c_13 => ?_) (fun c_13 => ?_)
  · have c_13n : cr.toInt ≤ (i : Int) := by have q := (fa_le _ _).mp c_13; rw [nI_toInt (n := i) (by omega)] at q; exact q
    refine lv_iload_n hx hb dX0_unlike_51 rfl (lv_at hl 1 rfl) ?_
    have hw_14 : bWays T h la md wy pc_ f1 f2 f3 f4 f5 f6 n4 [zO0 h md wy la pc_ a1_1 a2_2 a3_3 a4_4 a5_5 a6_6, zAr T 0 a1_1 7 f1, zAr T 0 a2_2 7 f2, zAr T 0 a3_3 7 f3, zAr T 0 a4_4 n4 f4, zAr T 0 a5_5 n4 f5, zAr T 0 a6_6 n4 f6] := ⟨a1_1, a2_2, a3_3, a4_4, a5_5, a6_6, rfl⟩
    have G : zS T A s.heap s [[zO0 h md wy la pc_ a1_1 a2_2 a3_3 a4_4 a5_5 a6_6, zAr T 0 a1_1 7 f1, zAr T 0 a2_2 7 f2, zAr T 0 a3_3 7 f3, zAr T 0 a4_4 n4 f4, zAr T 0 a5_5 n4 f5, zAr T 0 a6_6 n4 f6], [zO4 la cr inn a1_7 a2_8 a3_9 a4_10], [zAr T 0 a1_7 7 k1], [zAr T 0 a2_8 28 k2], [zAr T 0 a3_9 7 k3], [zAr T 0 a4_10 7 k4]] _ _ := G.re rfl
    have hw_15 : bLand T la cr inn k1 k2 k3 k4 [zO4 la cr inn a1_7 a2_8 a3_9 a4_10, zAr T 0 a1_7 7 k1, zAr T 0 a2_8 28 k2, zAr T 0 a3_9 7 k3, zAr T 0 a4_10 7 k4] := ⟨a1_7, a2_8, a3_9, a4_10, rfl⟩
    have G : zS T A s.heap s [[zO0 h md wy la pc_ a1_1 a2_2 a3_3 a4_4 a5_5 a6_6, zAr T 0 a1_1 7 f1, zAr T 0 a2_2 7 f2, zAr T 0 a3_3 7 f3, zAr T 0 a4_4 n4 f4, zAr T 0 a5_5 n4 f5, zAr T 0 a6_6 n4 f6], [zO4 la cr inn a1_7 a2_8 a3_9 a4_10, zAr T 0 a1_7 7 k1, zAr T 0 a2_8 28 k2, zAr T 0 a3_9 7 k3, zAr T 0 a4_10 7 k4]] _ _ := G.re rfl
    exact z_back hQz_ (z_iret C hr hlocks G (Nat.le_of_ble_eq_true rfl) (Nat.le_of_ble_eq_true rfl) dX0_unlike_52 ⟨rfl, (by rw [hu]; exact congrArg (aUn (aW cr inn k1) x.toInt.toNat y.toInt.toNat) (by omega))⟩)
  · have c_13n : ¬ cr.toInt ≤ (i : Int) := fun q => c_13 ((fa_le _ _).mpr (by rw [nI_toInt (n := i) (by omega)]; exact q))
    refine lv_iload_n hx hb dX0_unlike_17 rfl (lv_at hl 1 rfl) ?_
    refine lv_aload_n hx hb dX0_unlike_18 rfl (lv_at hl 2 rfl) ?_
    refine lv_iload_n hx hb dX0_unlike_19 rfl (lv_at hl 3 rfl) ?_
    refine lv_iload hx hb dX0_unlike_20 (lv_at hl 0 rfl) ?_
    have hw_16 : bWays T h la md wy pc_ f1 f2 f3 f4 f5 f6 n4 [zO0 h md wy la pc_ a1_1 a2_2 a3_3 a4_4 a5_5 a6_6, zAr T 0 a1_1 7 f1, zAr T 0 a2_2 7 f2, zAr T 0 a3_3 7 f3, zAr T 0 a4_4 n4 f4, zAr T 0 a5_5 n4 f5, zAr T 0 a6_6 n4 f6] := ⟨a1_1, a2_2, a3_3, a4_4, a5_5, a6_6, rfl⟩
    have G : zS T A s.heap s [[zO0 h md wy la pc_ a1_1 a2_2 a3_3 a4_4 a5_5 a6_6, zAr T 0 a1_1 7 f1, zAr T 0 a2_2 7 f2, zAr T 0 a3_3 7 f3, zAr T 0 a4_4 n4 f4, zAr T 0 a5_5 n4 f5, zAr T 0 a6_6 n4 f6], [zO4 la cr inn a1_7 a2_8 a3_9 a4_10], [zAr T 0 a1_7 7 k1], [zAr T 0 a2_8 28 k2], [zAr T 0 a3_9 7 k3], [zAr T 0 a4_10 7 k4]] _ _ := G.re rfl
    refine z_Vi (bc := [[zO0 h md wy la pc_ a1_1 a2_2 a3_3 a4_4 a5_5 a6_6, zAr T 0 a1_1 7 f1, zAr T 0 a2_2 7 f2, zAr T 0 a3_3 7 f3, zAr T 0 a4_4 n4 f4, zAr T 0 a5_5 n4 f5, zAr T 0 a6_6 n4 f6]]) (br := [[zO4 la cr inn a1_7 a2_8 a3_9 a4_10], [zAr T 0 a1_7 7 k1], [zAr T 0 a2_8 28 k2], [zAr T 0 a3_9 7 k3], [zAr T 0 a4_10 7 k4]]) (As := [.int x, .int (nI i)]) (rest := [.int u3]) C G (c_road l T h la md wy pc_ f1 f2 f3 f4 f5 f6 n4 ([zO0 h md wy la pc_ a1_1 a2_2 a3_3 a4_4 a5_5 a6_6, zAr T 0 a1_1 7 f1, zAr T 0 a2_2 7 f2, zAr T 0 a3_3 7 f3, zAr T 0 a4_4 n4 f4, zAr T 0 a5_5 n4 f5, zAr T 0 a6_6 n4 f6]) x (nI i) hw_16) (kV_RX0_81 C.2.2.2.2 (Nat.le_of_ble_eq_true rfl) (Nat.le_of_ble_eq_true rfl)) [0] [0] rfl rfl (ci := 0) (qc := (RX0, TX0, 10)) rfl rfl (List.mem_flatten.mpr ⟨_, List.mem_of_getElem? (i := 0) rfl, (bWays_mem hw_16).choose_spec⟩) rfl rfl hl.1 dX0_unlike_22 (Nat.le_of_ble_eq_true rfl) (Nat.le_of_ble_eq_true rfl) (fun r_18 b1 H locs hw G => ?_)
    refine zAn2 hw ?_
    intro hbs9 h_17
    clear hw
    subst hbs9
    have G : zS T A s.heap s [[zO4 la cr inn a1_7 a2_8 a3_9 a4_10], [zAr T 0 a1_7 7 k1], [zAr T 0 a2_8 28 k2], [zAr T 0 a3_9 7 k3], [zAr T 0 a4_10 7 k4], [zO0 h md wy la pc_ a1_1 a2_2 a3_3 a4_4 a5_5 a6_6, zAr T 0 a1_1 7 f1, zAr T 0 a2_2 7 f2, zAr T 0 a3_3 7 f3, zAr T 0 a4_4 n4 f4, zAr T 0 a5_5 n4 f5, zAr T 0 a6_6 n4 f6]] _ _ := G
    subst h_17
    refine lv_aload_n hx hb dX0_unlike_25 rfl (lv_at hl 2 rfl) ?_
    refine lv_iload_n hx hb dX0_unlike_26 rfl (lv_at hl 4 rfl) ?_
    refine lv_iload hx hb dX0_unlike_27 (lv_at hl 0 rfl) ?_
    refine z_Vi (bc := [[zO0 h md wy la pc_ a1_1 a2_2 a3_3 a4_4 a5_5 a6_6, zAr T 0 a1_1 7 f1, zAr T 0 a2_2 7 f2, zAr T 0 a3_3 7 f3, zAr T 0 a4_4 n4 f4, zAr T 0 a5_5 n4 f5, zAr T 0 a6_6 n4 f6]]) (br := [[zO4 la cr inn a1_7 a2_8 a3_9 a4_10], [zAr T 0 a1_7 7 k1], [zAr T 0 a2_8 28 k2], [zAr T 0 a3_9 7 k3], [zAr T 0 a4_10 7 k4]]) (As := [.int y, .int (nI i)]) (rest := [.int (zRoad f1 f2 x (nI i)), .int u3]) C G (c_road l T h la md wy pc_ f1 f2 f3 f4 f5 f6 n4 ([zO0 h md wy la pc_ a1_1 a2_2 a3_3 a4_4 a5_5 a6_6, zAr T 0 a1_1 7 f1, zAr T 0 a2_2 7 f2, zAr T 0 a3_3 7 f3, zAr T 0 a4_4 n4 f4, zAr T 0 a5_5 n4 f5, zAr T 0 a6_6 n4 f6]) y (nI i) hw_16) (kV_RX0_81 C.2.2.2.2 (Nat.le_of_ble_eq_true rfl) (Nat.le_of_ble_eq_true rfl)) [5] [5] rfl rfl (ci := 0) (qc := (RX0, TX0, 10)) rfl rfl (List.mem_flatten.mpr ⟨_, List.mem_of_getElem? (i := 0) rfl, (bWays_mem hw_16).choose_spec⟩) rfl rfl hl.1 dX0_unlike_29 (Nat.le_of_ble_eq_true rfl) (Nat.le_of_ble_eq_true rfl) (fun r_20 b1 H locs hw G => ?_)
    refine zAn2 hw ?_
    intro hbs9 h_19
    clear hw
    subst hbs9
    have G : zS T A s.heap s [[zO4 la cr inn a1_7 a2_8 a3_9 a4_10], [zAr T 0 a1_7 7 k1], [zAr T 0 a2_8 28 k2], [zAr T 0 a3_9 7 k3], [zAr T 0 a4_10 7 k4], [zO0 h md wy la pc_ a1_1 a2_2 a3_3 a4_4 a5_5 a6_6, zAr T 0 a1_1 7 f1, zAr T 0 a2_2 7 f2, zAr T 0 a3_3 7 f3, zAr T 0 a4_4 n4 f4, zAr T 0 a5_5 n4 f5, zAr T 0 a6_6 n4 f6]] _ _ := G
    subst h_19
    refine lv_icmp_eq (tgt := 42) hx hb dX0_unlike_32 (by decide) (fun c_21 => ?_) (fun c_21 => ?_)
    · have c_21n : (zRoad f1 f2 x (nI i)).toInt = (zRoad f1 f2 y (nI i)).toInt := (fa_eq _ _).mp c_21
      refine lv_iconst (v := 0) hx hb dX0_unlike_42 (by decide) ?_
      have hq9 : aCh (aW cr inn k1) i ≤ 4 := aCh_4 (inn := inn) hI i
      have hx9 : zRoad f1 f2 x (nI i) = aPo (aW cr inn k1) x.toInt.toNat i := (by have q9 := zRoad_z (inn := inn) hI hF (w := x.toInt.toNat) (c := i) (by omega) (by omega); rw [← (z_nI (x := x) (m := x.toInt.toNat) (by omega) (by omega))] at q9; exact q9)
      have hy9 : zRoad f1 f2 y (nI i) = aPo (aW cr inn k1) y.toInt.toNat i := (by have q9 := zRoad_z (inn := inn) hI hF (w := y.toInt.toNat) (c := i) (by omega) (by omega); rw [← (z_nI (x := y) (m := y.toInt.toNat) (by omega) (by omega))] at q9; exact q9)
      refine lv_topi (fun y_22 ey_22 => ?_)
      obtain rfl : y_22 = (if aRd (aW cr inn k1) x.toInt.toNat i = aRd (aW cr inn k1) y.toInt.toNat i then (0 : Int32) else (1 : Int32) <<< (nI i &&& 31)) := ey_22.trans ((if_pos ((aPo_q hq9 hx9 hy9).mp (by first | with_reducible assumption | assumption))).symm)
      refine lv_ior hx hb dX0_unlike_43 ?_
      refine lv_istore_n (lv' := [(3, .int (u3 ||| (if aRd (aW cr inn k1) x.toInt.toNat i = aRd (aW cr inn k1) y.toInt.toNat i then (0 : Int32) else (1 : Int32) <<< (nI i &&& 31)))), (4, .int (nI i)), (0, .ref h), (1, .int x), (2, .int y)]) hx hb dX0_unlike_44 rfl hl (by decide) (zLvf_h rfl) (fun ls hl => ?_)
      refine lv_iinc (v := nI (i + 1)) (lv' := [(4, .int (nI (i + 1))), (3, .int (u3 ||| (if aRd (aW cr inn k1) x.toInt.toNat i = aRd (aW cr inn k1) y.toInt.toNat i then (0 : Int32) else (1 : Int32) <<< (nI i &&& 31)))), (0, .ref h), (1, .int x), (2, .int y)]) hx hb dX0_unlike_45 hl (k := 1) rfl (z_inc i 1) (by decide) (zLvf_h rfl) (fun ls hl => ?_)
      refine lv_goto (tgt := 5) hx hb dX0_unlike_48 (by decide) ?_
      have hw_23 : bLand T la cr inn k1 k2 k3 k4 [zO4 la cr inn a1_7 a2_8 a3_9 a4_10, zAr T 0 a1_7 7 k1, zAr T 0 a2_8 28 k2, zAr T 0 a3_9 7 k3, zAr T 0 a4_10 7 k4] := ⟨a1_7, a2_8, a3_9, a4_10, rfl⟩
      have G : zS T A s.heap s [[zO4 la cr inn a1_7 a2_8 a3_9 a4_10, zAr T 0 a1_7 7 k1, zAr T 0 a2_8 28 k2, zAr T 0 a3_9 7 k3, zAr T 0 a4_10 7 k4], [zO0 h md wy la pc_ a1_1 a2_2 a3_3 a4_4 a5_5 a6_6, zAr T 0 a1_1 7 f1, zAr T 0 a2_2 7 f2, zAr T 0 a3_3 7 f3, zAr T 0 a4_4 n4 f4, zAr T 0 a5_5 n4 f5, zAr T 0 a6_6 n4 f6]] _ _ := G.re rfl
      have G := G.sub (bs' := [[zO0 h md wy la pc_ a1_1 a2_2 a3_3 a4_4 a5_5 a6_6, zAr T 0 a1_1 7 f1, zAr T 0 a2_2 7 f2, zAr T 0 a3_3 7 f3, zAr T 0 a4_4 n4 f4, zAr T 0 a5_5 n4 f5, zAr T 0 a6_6 n4 f6], [zO4 la cr inn a1_7 a2_8 a3_9 a4_10, zAr T 0 a1_7 7 k1, zAr T 0 a2_8 28 k2, zAr T 0 a3_9 7 k3, zAr T 0 a4_10 7 k4]]) [1, 0] rfl
      exact ih_5 (i + 1) (u3 ||| (if aRd (aW cr inn k1) x.toInt.toNat i = aRd (aW cr inn k1) y.toInt.toNat i then (0 : Int32) else (1 : Int32) <<< (nI i &&& 31))) (show (i + 1) ≤ cr.toInt.toNat ∧ (u3 ||| (if aRd (aW cr inn k1) x.toInt.toNat i = aRd (aW cr inn k1) y.toInt.toNat i then (0 : Int32) else (1 : Int32) <<< (nI i &&& 31))) = aUn (aW cr inn k1) x.toInt.toNat y.toInt.toNat (i + 1) from ⟨by omega, (by rw [hu]; rfl)⟩) (show cr.toInt.toNat - (i + 1) < cr.toInt.toNat - i from by omega) _ _ ls G (lv_sub hl [0, 1, 2, 3, 4] rfl)
    · have c_21n : ¬ (zRoad f1 f2 x (nI i)).toInt = (zRoad f1 f2 y (nI i)).toInt := fun q => c_21 ((fa_eq _ _).mpr q)
      refine lv_iconst (v := 1) hx hb dX0_unlike_35 (by decide) ?_
      refine lv_iload hx hb dX0_unlike_36 (lv_at hl 0 rfl) ?_
      refine lv_ishl hx hb dX0_unlike_38 ?_
      refine lv_goto (tgt := 43) hx hb dX0_unlike_39 (by decide) ?_
      have hq9 : aCh (aW cr inn k1) i ≤ 4 := aCh_4 (inn := inn) hI i
      have hx9 : zRoad f1 f2 x (nI i) = aPo (aW cr inn k1) x.toInt.toNat i := (by have q9 := zRoad_z (inn := inn) hI hF (w := x.toInt.toNat) (c := i) (by omega) (by omega); rw [← (z_nI (x := x) (m := x.toInt.toNat) (by omega) (by omega))] at q9; exact q9)
      have hy9 : zRoad f1 f2 y (nI i) = aPo (aW cr inn k1) y.toInt.toNat i := (by have q9 := zRoad_z (inn := inn) hI hF (w := y.toInt.toNat) (c := i) (by omega) (by omega); rw [← (z_nI (x := y) (m := y.toInt.toNat) (by omega) (by omega))] at q9; exact q9)
      refine lv_topi (fun y_24 ey_24 => ?_)
      obtain rfl : y_24 = (if aRd (aW cr inn k1) x.toInt.toNat i = aRd (aW cr inn k1) y.toInt.toNat i then (0 : Int32) else (1 : Int32) <<< (nI i &&& 31)) := ey_24.trans ((if_neg (fun q8 => absurd ((aPo_q hq9 hx9 hy9).mpr q8) (by first | with_reducible assumption | assumption))).symm)
      refine lv_ior hx hb dX0_unlike_43 ?_
      refine lv_istore_n (lv' := [(3, .int (u3 ||| (if aRd (aW cr inn k1) x.toInt.toNat i = aRd (aW cr inn k1) y.toInt.toNat i then (0 : Int32) else (1 : Int32) <<< (nI i &&& 31)))), (4, .int (nI i)), (0, .ref h), (1, .int x), (2, .int y)]) hx hb dX0_unlike_44 rfl hl (by decide) (zLvf_h rfl) (fun ls hl => ?_)
      refine lv_iinc (v := nI (i + 1)) (lv' := [(4, .int (nI (i + 1))), (3, .int (u3 ||| (if aRd (aW cr inn k1) x.toInt.toNat i = aRd (aW cr inn k1) y.toInt.toNat i then (0 : Int32) else (1 : Int32) <<< (nI i &&& 31)))), (0, .ref h), (1, .int x), (2, .int y)]) hx hb dX0_unlike_45 hl (k := 1) rfl (z_inc i 1) (by decide) (zLvf_h rfl) (fun ls hl => ?_)
      refine lv_goto (tgt := 5) hx hb dX0_unlike_48 (by decide) ?_
      have hw_25 : bLand T la cr inn k1 k2 k3 k4 [zO4 la cr inn a1_7 a2_8 a3_9 a4_10, zAr T 0 a1_7 7 k1, zAr T 0 a2_8 28 k2, zAr T 0 a3_9 7 k3, zAr T 0 a4_10 7 k4] := ⟨a1_7, a2_8, a3_9, a4_10, rfl⟩
      have G : zS T A s.heap s [[zO4 la cr inn a1_7 a2_8 a3_9 a4_10, zAr T 0 a1_7 7 k1, zAr T 0 a2_8 28 k2, zAr T 0 a3_9 7 k3, zAr T 0 a4_10 7 k4], [zO0 h md wy la pc_ a1_1 a2_2 a3_3 a4_4 a5_5 a6_6, zAr T 0 a1_1 7 f1, zAr T 0 a2_2 7 f2, zAr T 0 a3_3 7 f3, zAr T 0 a4_4 n4 f4, zAr T 0 a5_5 n4 f5, zAr T 0 a6_6 n4 f6]] _ _ := G.re rfl
      have G := G.sub (bs' := [[zO0 h md wy la pc_ a1_1 a2_2 a3_3 a4_4 a5_5 a6_6, zAr T 0 a1_1 7 f1, zAr T 0 a2_2 7 f2, zAr T 0 a3_3 7 f3, zAr T 0 a4_4 n4 f4, zAr T 0 a5_5 n4 f5, zAr T 0 a6_6 n4 f6], [zO4 la cr inn a1_7 a2_8 a3_9 a4_10, zAr T 0 a1_7 7 k1, zAr T 0 a2_8 28 k2, zAr T 0 a3_9 7 k3, zAr T 0 a4_10 7 k4]]) [1, 0] rfl
      exact ih_5 (i + 1) (u3 ||| (if aRd (aW cr inn k1) x.toInt.toNat i = aRd (aW cr inn k1) y.toInt.toNat i then (0 : Int32) else (1 : Int32) <<< (nI i &&& 31))) (show (i + 1) ≤ cr.toInt.toNat ∧ (u3 ||| (if aRd (aW cr inn k1) x.toInt.toNat i = aRd (aW cr inn k1) y.toInt.toNat i then (0 : Int32) else (1 : Int32) <<< (nI i &&& 31))) = aUn (aW cr inn k1) x.toInt.toNat y.toInt.toNat (i + 1) from ⟨by omega, (by rw [hu]; rfl)⟩) (show cr.toInt.toNat - (i + 1) < cr.toInt.toNat - i from by omega) _ _ ls G (lv_sub hl [0, 1, 2, 3, 4] rfl)
set_option maxHeartbeats 4000000 in
set_option maxRecDepth 100000 in
/-- c_f_wayTold -/
theorem c_f_wayTold (l : Launch) (T : zTy) (h : Nat) (la : Nat) (md : Int32) (wy : Int32) (pc_ : Int32) (f1 : Nat → Int32) (f2 : Nat → Int32) (f3 : Nat → Int32) (f4 : Nat → Int32) (f5 : Nat → Int32) (f6 : Nat → Int32) (n4 : Nat) (ww : va_W) (cr : Int32) (inn : Int32) (k1 : Nat → Int32) (k2 : Nat → Int32) (k3 : Nat → Int32) (k4 : Nat → Int32) (z : va_W) (hww : bWays T h la md wy pc_ f1 f2 f3 f4 f5 f6 n4 ww) (hz : bLand T la cr inn k1 k2 k3 k4 z) (hI : zLI cr k1 k3) (hF : aF cr inn k1 f1 f2) (hO : aOk (aW cr inn k1) k2) : zMi l T yX0_wayTold cX0_wayTold 3 (some .int) 2 0 0 [.ref h] [ww, z] (fun (r : Int32) bs => bs = [ww, z] ∧ r = nI (aRs (aW cr inn k1) k3 7)) := by
  refine zMi_of (own := RX0) (by decide) rfl (Nat.le_of_ble_eq_true rfl) ?_
  intro p e s m args below meth c A ls C hr hlocks hnm hAe G hl
  refine zHide (fun Qz_ hQz_ => ?_)
  have hx := C.1
  have hb := C.2.1
  have hl : lv_has ls 3 [(0, .ref h)] := hl
  have hcr := hI.1
  refine lv_iconst (v := 0) hx hb dX0_wayTold_0 (by decide) ?_
  refine lv_istore_n (lv' := [(1, .int 0), (0, .ref h)]) hx hb dX0_wayTold_1 rfl hl (by decide) (zLvf_h rfl) (fun ls hl => ?_)
  refine lv_iconst (v := 0) hx hb dX0_wayTold_2 (by decide) ?_
  refine lv_istore_n (lv' := [(2, .int 0), (1, .int 0), (0, .ref h)]) hx hb dX0_wayTold_3 rfl hl (by decide) (zLvf_h rfl) (fun ls hl => ?_)
  refine zEx6 hww ?_
  intro a1_1 a2_2 a3_3 a4_4 a5_5 a6_6 hbs9
  clear hww
  subst hbs9
  have G : zS T A s.heap s [[zO0 h md wy la pc_ a1_1 a2_2 a3_3 a4_4 a5_5 a6_6], [zAr T 0 a1_1 7 f1], [zAr T 0 a2_2 7 f2], [zAr T 0 a3_3 7 f3], [zAr T 0 a4_4 n4 f4], [zAr T 0 a5_5 n4 f5], [zAr T 0 a6_6 n4 f6], z] _ _ := G.re rfl
  refine zEx4 hz ?_
  intro a1_7 a2_8 a3_9 a4_10 hbs9
  clear hz
  subst hbs9
  have G : zS T A s.heap s [[zO0 h md wy la pc_ a1_1 a2_2 a3_3 a4_4 a5_5 a6_6], [zAr T 0 a1_1 7 f1], [zAr T 0 a2_2 7 f2], [zAr T 0 a3_3 7 f3], [zAr T 0 a4_4 n4 f4], [zAr T 0 a5_5 n4 f5], [zAr T 0 a6_6 n4 f6], [zO4 la cr inn a1_7 a2_8 a3_9 a4_10], [zAr T 0 a1_7 7 k1], [zAr T 0 a2_8 28 k2], [zAr T 0 a3_9 7 k3], [zAr T 0 a4_10 7 k4]] _ _ := G.re rfl
  have hw_11 : bWays T h la md wy pc_ f1 f2 f3 f4 f5 f6 n4 [zO0 h md wy la pc_ a1_1 a2_2 a3_3 a4_4 a5_5 a6_6, zAr T 0 a1_1 7 f1, zAr T 0 a2_2 7 f2, zAr T 0 a3_3 7 f3, zAr T 0 a4_4 n4 f4, zAr T 0 a5_5 n4 f5, zAr T 0 a6_6 n4 f6] := ⟨a1_1, a2_2, a3_3, a4_4, a5_5, a6_6, rfl⟩
  have G : zS T A s.heap s [[zO0 h md wy la pc_ a1_1 a2_2 a3_3 a4_4 a5_5 a6_6, zAr T 0 a1_1 7 f1, zAr T 0 a2_2 7 f2, zAr T 0 a3_3 7 f3, zAr T 0 a4_4 n4 f4, zAr T 0 a5_5 n4 f5, zAr T 0 a6_6 n4 f6], [zO4 la cr inn a1_7 a2_8 a3_9 a4_10], [zAr T 0 a1_7 7 k1], [zAr T 0 a2_8 28 k2], [zAr T 0 a3_9 7 k3], [zAr T 0 a4_10 7 k4]] _ _ := G.re rfl
  have hw_12 : bLand T la cr inn k1 k2 k3 k4 [zO4 la cr inn a1_7 a2_8 a3_9 a4_10, zAr T 0 a1_7 7 k1, zAr T 0 a2_8 28 k2, zAr T 0 a3_9 7 k3, zAr T 0 a4_10 7 k4] := ⟨a1_7, a2_8, a3_9, a4_10, rfl⟩
  have G : zS T A s.heap s [[zO0 h md wy la pc_ a1_1 a2_2 a3_3 a4_4 a5_5 a6_6, zAr T 0 a1_1 7 f1, zAr T 0 a2_2 7 f2, zAr T 0 a3_3 7 f3, zAr T 0 a4_4 n4 f4, zAr T 0 a5_5 n4 f5, zAr T 0 a6_6 n4 f6], [zO4 la cr inn a1_7 a2_8 a3_9 a4_10, zAr T 0 a1_7 7 k1, zAr T 0 a2_8 28 k2, zAr T 0 a3_9 7 k3, zAr T 0 a4_10 7 k4]] _ _ := G.re rfl
  refine z_lp2 (T := T) 4 (fun (i : Nat) (u : Int32) => [[zO0 h md wy la pc_ a1_1 a2_2 a3_3 a4_4 a5_5 a6_6, zAr T 0 a1_1 7 f1, zAr T 0 a2_2 7 f2, zAr T 0 a3_3 7 f3, zAr T 0 a4_4 n4 f4, zAr T 0 a5_5 n4 f5, zAr T 0 a6_6 n4 f6], [zO4 la cr inn a1_7 a2_8 a3_9 a4_10, zAr T 0 a1_7 7 k1, zAr T 0 a2_8 28 k2, zAr T 0 a3_9 7 k3, zAr T 0 a4_10 7 k4]]) (fun (i : Nat) (u : Int32) => [(2, .int (nI i)), (1, .int u), (0, .ref h)]) (fun (i : Nat) (u : Int32) => i ≤ 7 ∧ u = nI (aFs (aW cr inn k1) k3 i)) (fun (i : Nat) (u : Int32) => 7 - i) ?_ 0 0 (show 0 ≤ 7 ∧ 0 = nI (aFs (aW cr inn k1) k3 0) from ⟨by omega, rfl⟩) G (lv_sub hl [0, 1, 2] rfl)
  intro i u hI9 ih_4 H locs ls G hl
  replace hI9 : i ≤ 7 ∧ u = nI (aFs (aW cr inn k1) k3 i) := hI9
  refine zAn2 hI9 ?_
  intro hi hu
  clear hI9
  replace G : zS T A s.heap s [[zO0 h md wy la pc_ a1_1 a2_2 a3_3 a4_4 a5_5 a6_6, zAr T 0 a1_1 7 f1, zAr T 0 a2_2 7 f2, zAr T 0 a3_3 7 f3, zAr T 0 a4_4 n4 f4, zAr T 0 a5_5 n4 f5, zAr T 0 a6_6 n4 f6], [zO4 la cr inn a1_7 a2_8 a3_9 a4_10, zAr T 0 a1_7 7 k1, zAr T 0 a2_8 28 k2, zAr T 0 a3_9 7 k3, zAr T 0 a4_10 7 k4]] _ _ := G
  replace hl : lv_has ls 3 [(2, .int (nI i)), (1, .int u), (0, .ref h)] := hl
  refine lv_iload_n hx hb dX0_wayTold_4 rfl (lv_at hl 0 rfl) ?_
  refine lv_bipush (v := 7) hx hb dX0_wayTold_5 (by decide) ?_
  refine lv_icmp_ge (tgt := 50) hx hb dX0_wayTold_7 (by decide) (fun c_13 => ?_) (fun c_13 => ?_)
  · have c_13n : 7 ≤ i := (nI_leI (a := 7) (b := i) (by omega) (by omega)).mp c_13
    refine lv_iload_n hx hb dX0_wayTold_50 rfl (lv_at hl 1 rfl) ?_
    exact z_back hQz_ (z_iret C hr hlocks G (Nat.le_of_ble_eq_true rfl) (Nat.le_of_ble_eq_true rfl) dX0_wayTold_51 ⟨rfl, (by rw [hu, show i = 7 by omega, aFs_7])⟩)
  · have c_13n : ¬ 7 ≤ i := fun q => c_13 ((nI_leI (a := 7) (b := i) (by omega) (by omega)).mpr q)
    refine lv_iload_n hx hb dX0_wayTold_10 rfl (lv_at hl 1 rfl) ?_
    refine lv_aload_n hx hb dX0_wayTold_11 rfl (lv_at hl 2 rfl) ?_
    have G : zS T A s.heap s [[zO0 h md wy la pc_ a1_1 a2_2 a3_3 a4_4 a5_5 a6_6], [zAr T 0 a1_1 7 f1], [zAr T 0 a2_2 7 f2], [zAr T 0 a3_3 7 f3], [zAr T 0 a4_4 n4 f4], [zAr T 0 a5_5 n4 f5], [zAr T 0 a6_6 n4 f6], [zO4 la cr inn a1_7 a2_8 a3_9 a4_10, zAr T 0 a1_7 7 k1, zAr T 0 a2_8 28 k2, zAr T 0 a3_9 7 k3, zAr T 0 a4_10 7 k4]] _ _ := G.re rfl
    refine z_get C G clX0 0 rfl 2 (by decide) m_fl_RX0_14 rfl dX0_wayTold_12 ?_
    refine lv_iload_n hx hb dX0_wayTold_15 rfl (lv_at hl 0 rfl) ?_
    refine z_Vi (bc := [[zO4 la cr inn a1_7 a2_8 a3_9 a4_10, zAr T 0 a1_7 7 k1, zAr T 0 a2_8 28 k2, zAr T 0 a3_9 7 k3, zAr T 0 a4_10 7 k4]]) (br := [[zO0 h md wy la pc_ a1_1 a2_2 a3_3 a4_4 a5_5 a6_6], [zAr T 0 a1_1 7 f1], [zAr T 0 a2_2 7 f2], [zAr T 0 a3_3 7 f3], [zAr T 0 a4_4 n4 f4], [zAr T 0 a5_5 n4 f5], [zAr T 0 a6_6 n4 f6]]) (As := [.int (nI i)]) (rest := [.int u]) C G (c_waysOut l T la cr inn k1 k2 k3 k4 ([zO4 la cr inn a1_7 a2_8 a3_9 a4_10, zAr T 0 a1_7 7 k1, zAr T 0 a2_8 28 k2, zAr T 0 a3_9 7 k3, zAr T 0 a4_10 7 k4]) (nI i) hw_12) (kV_RX0_61 C.2.2.2.2 (Nat.le_of_ble_eq_true rfl) (Nat.le_of_ble_eq_true rfl)) [7] [7] rfl rfl (ci := 4) (qc := (RX4, TX4, 6)) rfl rfl (List.mem_flatten.mpr ⟨_, List.mem_of_getElem? (i := 0) rfl, (bLand_mem hw_12).choose_spec⟩) rfl rfl hl.1 dX0_wayTold_16 (Nat.le_of_ble_eq_true rfl) (Nat.le_of_ble_eq_true rfl) (fun r_15 b1 H locs hw G => ?_)
    refine zAn2 hw ?_
    intro hbs9 h_14
    clear hw
    subst hbs9
    have G : zS T A s.heap s [[zO0 h md wy la pc_ a1_1 a2_2 a3_3 a4_4 a5_5 a6_6], [zAr T 0 a1_1 7 f1], [zAr T 0 a2_2 7 f2], [zAr T 0 a3_3 7 f3], [zAr T 0 a4_4 n4 f4], [zAr T 0 a5_5 n4 f5], [zAr T 0 a6_6 n4 f6], [zO4 la cr inn a1_7 a2_8 a3_9 a4_10, zAr T 0 a1_7 7 k1, zAr T 0 a2_8 28 k2, zAr T 0 a3_9 7 k3, zAr T 0 a4_10 7 k4]] _ _ := G
    subst h_14
    refine lv_if_le (tgt := 41) hx hb dX0_wayTold_19 (by decide) (fun c_16 => ?_) (fun c_16 => ?_)
    · have c_16n : (zWays cr inn k1 (nI i)).toInt ≤ (0 : Int) := (fa_le _ _).mp c_16
      refine lv_iconst (v := 0) hx hb dX0_wayTold_41 (by decide) ?_
      have hk9 := hI.2.2 i (by omega)
      refine lv_topi (fun y_17 ey_17 => ?_)
      obtain rfl : y_17 = nI (aDg (aW cr inn k1) k3 i * aPr (aW cr inn k1) (6 - i)) := ey_17.trans ((by unfold aDg; rw [if_neg (show ¬ 0 < ((aW cr inn k1) i).toInt from (by show ¬ 0 < (zWays cr inn k1 (nI i)).toInt; omega)), Nat.zero_mul]; rfl))
      refine lv_iadd hx hb dX0_wayTold_42 ?_
      refine lv_istore_n (lv' := [(1, .int (u + (nI (aDg (aW cr inn k1) k3 i * aPr (aW cr inn k1) (6 - i))))), (2, .int (nI i)), (0, .ref h)]) hx hb dX0_wayTold_43 rfl hl (by decide) (zLvf_h rfl) (fun ls hl => ?_)
      refine lv_iinc (v := nI (i + 1)) (lv' := [(2, .int (nI (i + 1))), (1, .int (u + (nI (aDg (aW cr inn k1) k3 i * aPr (aW cr inn k1) (6 - i))))), (0, .ref h)]) hx hb dX0_wayTold_44 hl (k := 1) rfl (z_inc i 1) (by decide) (zLvf_h rfl) (fun ls hl => ?_)
      refine lv_goto (tgt := 4) hx hb dX0_wayTold_47 (by decide) ?_
      have hw_18 : bWays T h la md wy pc_ f1 f2 f3 f4 f5 f6 n4 [zO0 h md wy la pc_ a1_1 a2_2 a3_3 a4_4 a5_5 a6_6, zAr T 0 a1_1 7 f1, zAr T 0 a2_2 7 f2, zAr T 0 a3_3 7 f3, zAr T 0 a4_4 n4 f4, zAr T 0 a5_5 n4 f5, zAr T 0 a6_6 n4 f6] := ⟨a1_1, a2_2, a3_3, a4_4, a5_5, a6_6, rfl⟩
      have G : zS T A s.heap s [[zO0 h md wy la pc_ a1_1 a2_2 a3_3 a4_4 a5_5 a6_6, zAr T 0 a1_1 7 f1, zAr T 0 a2_2 7 f2, zAr T 0 a3_3 7 f3, zAr T 0 a4_4 n4 f4, zAr T 0 a5_5 n4 f5, zAr T 0 a6_6 n4 f6], [zO4 la cr inn a1_7 a2_8 a3_9 a4_10, zAr T 0 a1_7 7 k1, zAr T 0 a2_8 28 k2, zAr T 0 a3_9 7 k3, zAr T 0 a4_10 7 k4]] _ _ := G.re rfl
      exact ih_4 (i + 1) (u + (nI (aDg (aW cr inn k1) k3 i * aPr (aW cr inn k1) (6 - i)))) (show (i + 1) ≤ 7 ∧ (u + (nI (aDg (aW cr inn k1) k3 i * aPr (aW cr inn k1) (6 - i)))) = nI (aFs (aW cr inn k1) k3 (i + 1)) from ⟨by omega, (by rw [hu, nI_add]; rfl)⟩) (show 7 - (i + 1) < 7 - i from by omega) _ _ ls G (lv_sub hl [0, 1, 2] rfl)
    · have c_16n : ¬ (zWays cr inn k1 (nI i)).toInt ≤ (0 : Int) := fun q => c_16 ((fa_le _ _).mpr q)
      refine lv_aload_n hx hb dX0_wayTold_22 rfl (lv_at hl 2 rfl) ?_
      refine z_get C G clX0 0 rfl 2 (by decide) m_fl_RX0_14 rfl dX0_wayTold_23 ?_
      have G : zS T A s.heap s [[zO0 h md wy la pc_ a1_1 a2_2 a3_3 a4_4 a5_5 a6_6], [zAr T 0 a1_1 7 f1], [zAr T 0 a2_2 7 f2], [zAr T 0 a3_3 7 f3], [zAr T 0 a4_4 n4 f4], [zAr T 0 a5_5 n4 f5], [zAr T 0 a6_6 n4 f6], [zO4 la cr inn a1_7 a2_8 a3_9 a4_10], [zAr T 0 a1_7 7 k1], [zAr T 0 a2_8 28 k2], [zAr T 0 a3_9 7 k3], [zAr T 0 a4_10 7 k4]] _ _ := G.re rfl
      refine z_get C G clX4 7 rfl 4 (by decide) m_fl_RX0_104 rfl dX0_wayTold_26 ?_
      refine lv_iload_n hx hb dX0_wayTold_29 rfl (lv_at hl 0 rfl) ?_
      refine z_ild C G 10 rfl (vp_in_nI (by omega) (by decide)) dX0_wayTold_30 ?_
      refine lv_topi (fun v_19 ev_19 => ?_)
      rw [nI_clamp (by omega)] at ev_19
      subst ev_19
      refine lv_aload_n hx hb dX0_wayTold_31 rfl (lv_at hl 2 rfl) ?_
      refine z_get C G clX0 0 rfl 5 (by decide) m_fl_RX0_22 rfl dX0_wayTold_32 ?_
      refine lv_iload_n hx hb dX0_wayTold_35 rfl (lv_at hl 0 rfl) ?_
      refine z_ild C G 2 rfl (vp_in_nI (by omega) (by decide)) dX0_wayTold_36 ?_
      refine lv_topi (fun v_20 ev_20 => ?_)
      rw [nI_clamp (by omega)] at ev_20
      subst ev_20
      refine lv_imul hx hb dX0_wayTold_37 ?_
      refine lv_goto (tgt := 42) hx hb dX0_wayTold_38 (by decide) ?_
      have hk9 := hI.2.2 i (by omega)
      refine lv_topi (fun y_21 ey_21 => ?_)
      obtain rfl : y_21 = nI (aDg (aW cr inn k1) k3 i * aPr (aW cr inn k1) (6 - i)) := ey_21.trans ((by unfold aDg; rw [if_pos (show 0 < ((aW cr inn k1) i).toInt from (by show 0 < (zWays cr inn k1 (nI i)).toInt; omega)), hF.2 i (by omega), aWyN_z hI _ (by omega), ← pk_mul]; exact congrArg (fun q => q * nI (aPr (aW cr inn k1) (6 - i))) (z_nI (by omega) (by omega))))
      refine lv_iadd hx hb dX0_wayTold_42 ?_
      refine lv_istore_n (lv' := [(1, .int (u + (nI (aDg (aW cr inn k1) k3 i * aPr (aW cr inn k1) (6 - i))))), (2, .int (nI i)), (0, .ref h)]) hx hb dX0_wayTold_43 rfl hl (by decide) (zLvf_h rfl) (fun ls hl => ?_)
      refine lv_iinc (v := nI (i + 1)) (lv' := [(2, .int (nI (i + 1))), (1, .int (u + (nI (aDg (aW cr inn k1) k3 i * aPr (aW cr inn k1) (6 - i))))), (0, .ref h)]) hx hb dX0_wayTold_44 hl (k := 1) rfl (z_inc i 1) (by decide) (zLvf_h rfl) (fun ls hl => ?_)
      refine lv_goto (tgt := 4) hx hb dX0_wayTold_47 (by decide) ?_
      have hw_22 : bWays T h la md wy pc_ f1 f2 f3 f4 f5 f6 n4 [zO0 h md wy la pc_ a1_1 a2_2 a3_3 a4_4 a5_5 a6_6, zAr T 0 a1_1 7 f1, zAr T 0 a2_2 7 f2, zAr T 0 a3_3 7 f3, zAr T 0 a4_4 n4 f4, zAr T 0 a5_5 n4 f5, zAr T 0 a6_6 n4 f6] := ⟨a1_1, a2_2, a3_3, a4_4, a5_5, a6_6, rfl⟩
      have G : zS T A s.heap s [[zO0 h md wy la pc_ a1_1 a2_2 a3_3 a4_4 a5_5 a6_6, zAr T 0 a1_1 7 f1, zAr T 0 a2_2 7 f2, zAr T 0 a3_3 7 f3, zAr T 0 a4_4 n4 f4, zAr T 0 a5_5 n4 f5, zAr T 0 a6_6 n4 f6], [zO4 la cr inn a1_7 a2_8 a3_9 a4_10], [zAr T 0 a1_7 7 k1], [zAr T 0 a2_8 28 k2], [zAr T 0 a3_9 7 k3], [zAr T 0 a4_10 7 k4]] _ _ := G.re rfl
      have hw_23 : bLand T la cr inn k1 k2 k3 k4 [zO4 la cr inn a1_7 a2_8 a3_9 a4_10, zAr T 0 a1_7 7 k1, zAr T 0 a2_8 28 k2, zAr T 0 a3_9 7 k3, zAr T 0 a4_10 7 k4] := ⟨a1_7, a2_8, a3_9, a4_10, rfl⟩
      have G : zS T A s.heap s [[zO0 h md wy la pc_ a1_1 a2_2 a3_3 a4_4 a5_5 a6_6, zAr T 0 a1_1 7 f1, zAr T 0 a2_2 7 f2, zAr T 0 a3_3 7 f3, zAr T 0 a4_4 n4 f4, zAr T 0 a5_5 n4 f5, zAr T 0 a6_6 n4 f6], [zO4 la cr inn a1_7 a2_8 a3_9 a4_10, zAr T 0 a1_7 7 k1, zAr T 0 a2_8 28 k2, zAr T 0 a3_9 7 k3, zAr T 0 a4_10 7 k4]] _ _ := G.re rfl
      exact ih_4 (i + 1) (u + (nI (aDg (aW cr inn k1) k3 i * aPr (aW cr inn k1) (6 - i)))) (show (i + 1) ≤ 7 ∧ (u + (nI (aDg (aW cr inn k1) k3 i * aPr (aW cr inn k1) (6 - i)))) = nI (aFs (aW cr inn k1) k3 (i + 1)) from ⟨by omega, (by rw [hu, nI_add]; rfl)⟩) (show 7 - (i + 1) < 7 - i from by omega) _ _ ls G (lv_sub hl [0, 1, 2] rfl)
/-- in least terms -/
def zLt_ (a b : Nat) (u : Int32) : Int32 := nI ((if u = 0 then a else b) / Nat.gcd a b)
/-! what is counted over all ways -/
def rWh (W L : Nat → Int32) (w : Nat) (c : Int32) : Int32 := nI (aE W L w c.toInt.toNat).2.1
def rStp (W L : Nat → Int32) (w : Nat) (c : Int32) : Nat := (aE W L w c.toInt.toNat).2.2
def rAf (W L : Nat → Int32) (w : Nat) (c : Int32) : Nat := (aE W L w c.toInt.toNat).1
def rCn (p : Nat → Bool) : Nat → Nat
  | 0 => 0
  | n + 1 => rCn p n + if p n = true then 1 else 0
theorem rCn_cg {p q : Nat → Bool} : ∀ n, (∀ w, w < n → p w = q w) → rCn p n = rCn q n
  | 0, _ => rfl
  | n + 1, h => by
    unfold rCn
    rw [rCn_cg n (fun w hw => h w (by omega)), h n (by omega)]
def rSu (g : Nat → Nat) : Nat → Nat
  | 0 => 0
  | n + 1 => rSu g n + g n
theorem rSu_cg {g k : Nat → Nat} : ∀ n, (∀ w, w < n → g w = k w) → rSu g n = rSu k n
  | 0, _ => rfl
  | n + 1, h => by
    unfold rSu
    rw [rSu_cg n (fun w hw => h w (by omega)), h n (by omega)]
def rAll (p : Nat → Bool) : Nat → Bool
  | 0 => true
  | n + 1 => rAll p n && p n
theorem rAll_cg {p q : Nat → Bool} : ∀ n, (∀ w, w < n → p w = q w) → rAll p n = rAll q n
  | 0, _ => rfl
  | n + 1, h => by
    unfold rAll
    rw [rAll_cg n (fun w hw => h w (by omega)), h n (by omega)]
/-- the best way of all that come, and how many steps -/
def rBg (c : Nat → Bool) (g : Nat → Nat) (s : Int32) : Nat → Int32 × Int32
  | 0 => (-1, -1)
  | n + 1 => if c n = true ∧ ((rBg c g s n).1 = -1 ∨ (if s = 0 then (rBg c g s n).2 < nI (g n) else nI (g n) < (rBg c g s n).2)) then (nI n, nI (g n)) else rBg c g s n
theorem rBg_cg {c d : Nat → Bool} {g k : Nat → Nat} {s : Int32} : ∀ n, (∀ w, w < n → c w = d w ∧ g w = k w) → rBg c g s n = rBg d k s n
  | 0, _ => rfl
  | n + 1, h => by
    unfold rBg
    rw [rBg_cg n (fun w hw => h w (by omega)), (h n (by omega)).1, (h n (by omega)).2]
theorem kaOk {cr inn : Int32} {k1 k2 k3 : Nat → Int32} (hI : zLI cr k1 k3) (hq : zLq cr k1 k2) : aOk (aW cr inn k1) k2 ∧ ∀ j r : Nat, j < 7 → r < 4 → (r : Int) < (aW cr inn k1 j).toInt → 0 ≤ (k2 (4 * j + r)).toInt ∧ (k2 (4 * j + r)).toInt < ((cr.toInt.toNat : Nat) : Int) := by
  have h7 := hI.1
  have z0 : (0 : Int32).toInt = 0 := rfl
  have key : ∀ j r : Nat, j < 7 → r < 4 → (r : Int) < (aW cr inn k1 j).toInt → 0 ≤ (k2 (4 * j + r)).toInt ∧ (k2 (4 * j + r)).toInt < ((cr.toInt.toNat : Nat) : Int) := by
    intro j r hj hr h
    have h : (r : Int) < (zWays cr inn k1 (nI j)).toInt := h
    have n0 : ¬ zWays cr inn k1 (nI j) = 0 := fun q => by rw [q, z0] at h; omega
    obtain ⟨_, _, _, _, c4⟩ := zWays_in n0
    have kc := nI_clamp (n := j) (by omega)
    rw [c4, kc] at h
    have t := hq j r hj hr h
    omega
  exact ⟨⟨fun j r hj hr h => by have q := key j r hj hr h; omega, fun j hj => zWays_le (inn := inn) hI (nI j), aPr_7 hI⟩, key⟩
/-- what is read off the table -/
theorem zEnt_w {cr inn wy pc x : Int32} {k1 k2 k3 f1 f2 f5 : Nat → Int32} {n : Nat} (hI : zLI cr k1 k3) (hO : aOk (aW cr inn k1) k2) (hT : zTab cr inn k1 k2 wy pc f1 f2 f5 n) {w : Nat} (hw : w < aPr (aW cr inn k1) 7) (hx : zHas cr x) : zEntry f5 n (nI w) x &&& 7 = rWh (aW cr inn k1) k2 w x ∧ zEntry f5 n (nI w) x >>> (17 &&& 31) = nI (rStp (aW cr inn k1) k2 w x) ∧ (zEntry f5 n (nI w) x &&& 131071) >>> (3 &&& 31) = nI (rAf (aW cr inn k1) k2 w x) := by
  obtain ⟨x0, x1, x2⟩ := hx
  have ex : x = nI x.toInt.toNat := z_nI (by omega) (by omega)
  have e := zEnt hI hO hT hw (c := x.toInt.toNat) (by omega)
  rw [← ex] at e
  exact e.2
theorem aE_cg {W V L L' : Nat → Int32} (hW : ∀ j, j < 7 → W j = V j) (hL : zLs W L L') (h4 : ∀ j, j < 7 → (W j).toInt ≤ 4) (w c : Nat) : aE W L w c = aE V L' w c := aN_cg hW hL h4 499 w c 0
/-! answers -/
def rLot (W L : Nat → Int32) (a b u : Int32) : Int32 := zLt_ (rCn (fun w => decide (rWh W L w a = b)) (aPr W 7)) (aPr W 7) u
def rMean (W L : Nat → Int32) (inn a u : Int32) : Int32 := if rAll (fun w => decide (zBit inn (rWh W L w a) = 1)) (aPr W 7) = true then zLt_ (rSu (fun w => rStp W L w a) (aPr W 7)) (aPr W 7) u else -1
def rBack (W L P : Nat → Int32) (a : Int32) : Int32 := nI (rCn (fun w => decide (nI (rAf W L w a) = nI (aRs W P 7))) (aPr W 7))
def rLong (W L : Nat → Int32) (m : Nat) (inn a s q : Int32) : Int32 := if (rBg (fun w => decide (zBit inn (rWh W L w a) = 1)) (fun w => rStp W L w a) s (aPr W 7)).1 = -1 then -1 else if q = 0 then (rBg (fun w => decide (zBit inn (rWh W L w a) = 1)) (fun w => rStp W L w a) s (aPr W 7)).2 else aNu W (rBg (fun w => decide (zBit inn (rWh W L w a) = 1)) (fun w => rStp W L w a) s (aPr W 7)).1.toInt.toNat m
theorem aNu_cg {W V : Nat → Int32} (hW : ∀ j, j < 7 → W j = V j) (w : Nat) : ∀ n, n ≤ 7 → aNu W w n = aNu V w n
  | 0, _ => rfl
  | n + 1, hn => by
    unfold aNu
    rw [aNu_cg hW w n (by omega), aRd_cg hW (by omega)]
section WCG
variable {W V L L' P Q : Nat → Int32}
theorem rWh_cg (hW : ∀ j, j < 7 → W j = V j) (hL : zLs W L L') (h4 : ∀ j, j < 7 → (W j).toInt ≤ 4) (w : Nat) (c : Int32) : rWh W L w c = rWh V L' w c ∧ rStp W L w c = rStp V L' w c ∧ rAf W L w c = rAf V L' w c := by
  unfold rWh rStp rAf
  rw [aE_cg hW hL h4]
  exact ⟨rfl, rfl, rfl⟩
theorem rLot_cg (hW : ∀ j, j < 7 → W j = V j) (hL : zLs W L L') (h4 : ∀ j, j < 7 → (W j).toInt ≤ 4) (a b u : Int32) : rLot W L a b u = rLot V L' a b u := by
  unfold rLot
  rw [aPr_cg hW 7, rCn_cg _ (fun w _ => congrArg (fun q => decide (q = b)) (rWh_cg hW hL h4 w a).1)]
theorem rMean_cg (hW : ∀ j, j < 7 → W j = V j) (hL : zLs W L L') (h4 : ∀ j, j < 7 → (W j).toInt ≤ 4) (inn a u : Int32) : rMean W L inn a u = rMean V L' inn a u := by
  unfold rMean
  rw [aPr_cg hW 7, rAll_cg _ (fun w _ => congrArg (fun q => decide (zBit inn q = 1)) (rWh_cg hW hL h4 w a).1), rSu_cg _ (fun w _ => (rWh_cg hW hL h4 w a).2.1)]
theorem rBack_cg (hW : ∀ j, j < 7 → W j = V j) (hL : zLs W L L') (h4 : ∀ j, j < 7 → (W j).toInt ≤ 4) (hP : ∀ j, j < 7 → P j = Q j) (a : Int32) : rBack W L P a = rBack V L' Q a := by
  unfold rBack
  rw [aPr_cg hW 7, aRs_cg hW hP 7, rCn_cg _ (fun w _ => congrArg (fun q => decide (nI q = nI (aRs V Q 7))) (rWh_cg hW hL h4 w a).2.2)]
theorem rLong_cg (hW : ∀ j, j < 7 → W j = V j) (hL : zLs W L L') (h4 : ∀ j, j < 7 → (W j).toInt ≤ 4) {m : Nat} (hm : m ≤ 7) (inn a s q : Int32) : rLong W L m inn a s q = rLong V L' m inn a s q := by
  unfold rLong
  rw [aPr_cg hW 7, rBg_cg _ (fun w _ => ⟨congrArg (fun q => decide (zBit inn q = 1)) (rWh_cg hW hL h4 w a).1, (rWh_cg hW hL h4 w a).2.1⟩), aNu_cg hW _ m hm]
end WCG
set_option maxHeartbeats 4000000 in
set_option maxRecDepth 100000 in
/-- c_f_waysInA -/
theorem c_f_waysInA (l : Launch) (T : zTy) (xo : Nat) (t : Nat) (im : Nat) (mk : Nat) (rd : Nat) (po : Nat) (co : Nat) (tr : Nat) (wa : Nat) (wb_ : Nat) (fi : Nat) (cd : Nat) (i1 : Int32) (laA : Nat) (mdA : Int32) (wyA : Int32) (pc_A : Int32) (f1A : Nat → Int32) (f2A : Nat → Int32) (f3A : Nat → Int32) (f4A : Nat → Int32) (f5A : Nat → Int32) (f6A : Nat → Int32) (n4A : Nat) (wwA : va_W) (o : Nat) (cr : Int32) (inn : Int32) (k1 : Nat → Int32) (k2 : Nat → Int32) (k3 : Nat → Int32) (k4 : Nat → Int32) (z : va_W) (hwwA : bWays T wa laA mdA wyA pc_A f1A f2A f3A f4A f5A f6A n4A wwA) (hz : bLand T o cr inn k1 k2 k3 k4 z) (hI : zLI cr k1 k3) (hpw : zPw n4A) (hmd : mdA = 0 ∨ laA = o) (hO : aOk (aW cr inn k1) k2) (hTb : mdA = 0 ∨ zTab cr inn k1 k2 wyA pc_A f1A f2A f5A n4A) (hi1 : i1.toInt = 0) : zMq l T yX11_waysIn cX11_waysIn 4 (some (.object "TurnedPosts$AllWays")) 6 3 (6 * (zMk mdA n4A (zPl cr inn k1) - n4A)) [.ref xo, .int i1, .ref o] [[zO10 xo t im mk rd po co tr wa wb_ fi cd], wwA, z] (fun (r : Option Nat) bs => ∃ (w2 : va_W) (m2 : Int32) (wy2 : Int32) (pc2 : Int32) (g1 : Nat → Int32) (g2 : Nat → Int32) (g4 : Nat → Int32) (g5 : Nat → Int32) (g6 : Nat → Int32), bs = [[zO10 xo t im mk rd po co tr wa wb_ fi cd], w2, z] ∧ r = some wa ∧ bWays T wa o m2 wy2 pc2 g1 g2 f3A g4 g5 g6 (zMk mdA n4A (zPl cr inn k1)) w2 ∧ wy2 = zWy cr inn k1 ∧ ¬ m2 = 0 ∧ zTab cr inn k1 k2 wy2 pc2 g1 g2 g5 (zMk mdA n4A (zPl cr inn k1))) := by
  refine zMq_of (own := RX11) (by decide) rfl (Nat.le_of_ble_eq_true rfl) ?_
  intro p e s m args below meth c A ls C hr hlocks hnm hAe G hl
  refine zHide (fun Qz_ hQz_ => ?_)
  have hx := C.1
  have hb := C.2.1
  replace hmd : zHd (mdA = 0 ∨ laA = o) := hmd
  replace hTb : zHd (mdA = 0 ∨ zTab cr inn k1 k2 wyA pc_A f1A f2A f5A n4A) := hTb
  have hl : lv_has ls 4 [(0, .ref xo), (1, .int i1), (2, .ref o)] := hl
  refine lv_iload_n hx hb dX11_waysIn_0 rfl (lv_at hl 1 rfl) ?_
  refine lv_if_ne (tgt := 11) hx hb dX11_waysIn_1 (by decide) (fun q => absurd ((fa_eq i1 (0 : Int32)).mpr (by show i1.toInt = (0 : Int); omega)) q) (fun _ => ?_)
  refine lv_aload_n hx hb dX11_waysIn_4 rfl (lv_at hl 0 rfl) ?_
  refine z_get C G clX11 0 rfl 7 (by decide) m_fl_RX11_55 rfl dX11_waysIn_5 ?_
  refine lv_goto (tgt := 15) hx hb dX11_waysIn_8 (by decide) ?_
  refine lv_astore_n (lv' := [(3, .ref wa), (0, .ref xo), (1, .int i1), (2, .ref o)]) hx hb dX11_waysIn_15 rfl hl (by decide) (zLvf_h rfl) (fun ls hl => ?_)
  refine lv_aload_n hx hb dX11_waysIn_16 rfl (lv_at hl 0 rfl) ?_
  refine lv_aload_n hx hb dX11_waysIn_17 rfl (lv_at hl 3 rfl) ?_
  refine z_Vv (bc := [wwA, z]) (br := [[zO10 xo t im mk rd po co tr wa wb_ fi cd]]) (As := [.ref o]) (rest := []) C G (c_f_make l T wa laA mdA wyA pc_A f1A f2A f3A f4A f5A f6A n4A wwA o cr inn k1 k2 k3 k4 z hwwA hz (by first | with_reducible assumption | with_reducible rfl | omega | assumption | rfl) hO hpw hmd hTb) (kV_RX11_232 C.2.2.2.2 (Nat.le_of_ble_eq_true rfl) (Nat.le_of_ble_eq_true rfl)) [1, 2] [1, 0] rfl rfl (ci := 0) (qc := (RX0, TX0, 10)) rfl rfl (List.mem_flatten.mpr ⟨_, List.mem_of_getElem? (i := 0) rfl, (bWays_mem hwwA).choose_spec⟩) rfl rfl hl.1 dX11_waysIn_18 (Nat.le_of_ble_eq_true rfl) (by show _ + (6 * (zMk mdA n4A (zPl cr inn k1) - n4A)) ≤ 6 * (zMk mdA n4A (zPl cr inn k1) - n4A); omega) (fun b1 H locs hw G => ?_)
  refine zEx8 hw ?_
  intro w2_1 m2_2 pc2_3 g1_4 g2_5 g4_6 g5_7 g6_8
  refine zCu4 ?_
  intro hbs9 h_9 h_10 h_11
  clear hw
  subst hbs9
  have G : zS T A s.heap s [[zO10 xo t im mk rd po co tr wa wb_ fi cd], w2_1, z] _ _ := G
  refine lv_aload_n hx hb dX11_waysIn_21 rfl (lv_at hl 0 rfl) ?_
  exact z_back hQz_ (z_aret (r := (some wa)) C hr (Or.inl ⟨_, rfl⟩) hlocks G (Nat.le_of_ble_eq_true rfl) (by omega) dX11_waysIn_22 ⟨w2_1, m2_2, (zWy cr inn k1), pc2_3, g1_4, g2_5, g4_6, g5_7, g6_8, rfl, rfl, h_9, rfl, h_10, h_11⟩)
set_option maxHeartbeats 4000000 in
set_option maxRecDepth 100000 in
/-- c_f_waysInB -/
theorem c_f_waysInB (l : Launch) (T : zTy) (xo : Nat) (t : Nat) (im : Nat) (mk : Nat) (rd : Nat) (po : Nat) (co : Nat) (tr : Nat) (wa : Nat) (wb_ : Nat) (fi : Nat) (cd : Nat) (i1 : Int32) (laB : Nat) (mdB : Int32) (wyB : Int32) (pc_B : Int32) (f1B : Nat → Int32) (f2B : Nat → Int32) (f3B : Nat → Int32) (f4B : Nat → Int32) (f5B : Nat → Int32) (f6B : Nat → Int32) (n4B : Nat) (wwB : va_W) (o : Nat) (cr : Int32) (inn : Int32) (k1 : Nat → Int32) (k2 : Nat → Int32) (k3 : Nat → Int32) (k4 : Nat → Int32) (z : va_W) (hwwB : bWays T wb_ laB mdB wyB pc_B f1B f2B f3B f4B f5B f6B n4B wwB) (hz : bLand T o cr inn k1 k2 k3 k4 z) (hI : zLI cr k1 k3) (hpw : zPw n4B) (hmd : mdB = 0 ∨ laB = o) (hO : aOk (aW cr inn k1) k2) (hTb : mdB = 0 ∨ zTab cr inn k1 k2 wyB pc_B f1B f2B f5B n4B) (hi1 : i1.toInt = 1) : zMq l T yX11_waysIn cX11_waysIn 4 (some (.object "TurnedPosts$AllWays")) 6 3 (6 * (zMk mdB n4B (zPl cr inn k1) - n4B)) [.ref xo, .int i1, .ref o] [[zO10 xo t im mk rd po co tr wa wb_ fi cd], wwB, z] (fun (r : Option Nat) bs => ∃ (w2 : va_W) (m2 : Int32) (wy2 : Int32) (pc2 : Int32) (g1 : Nat → Int32) (g2 : Nat → Int32) (g4 : Nat → Int32) (g5 : Nat → Int32) (g6 : Nat → Int32), bs = [[zO10 xo t im mk rd po co tr wa wb_ fi cd], w2, z] ∧ r = some wb_ ∧ bWays T wb_ o m2 wy2 pc2 g1 g2 f3B g4 g5 g6 (zMk mdB n4B (zPl cr inn k1)) w2 ∧ wy2 = zWy cr inn k1 ∧ ¬ m2 = 0 ∧ zTab cr inn k1 k2 wy2 pc2 g1 g2 g5 (zMk mdB n4B (zPl cr inn k1))) := by
  refine zMq_of (own := RX11) (by decide) rfl (Nat.le_of_ble_eq_true rfl) ?_
  intro p e s m args below meth c A ls C hr hlocks hnm hAe G hl
  refine zHide (fun Qz_ hQz_ => ?_)
  have hx := C.1
  have hb := C.2.1
  replace hmd : zHd (mdB = 0 ∨ laB = o) := hmd
  replace hTb : zHd (mdB = 0 ∨ zTab cr inn k1 k2 wyB pc_B f1B f2B f5B n4B) := hTb
  have hl : lv_has ls 4 [(0, .ref xo), (1, .int i1), (2, .ref o)] := hl
  refine lv_iload_n hx hb dX11_waysIn_0 rfl (lv_at hl 1 rfl) ?_
  refine lv_if_ne (tgt := 11) hx hb dX11_waysIn_1 (by decide) (fun _ => ?_) (fun q => absurd q (fun q2 => absurd (show i1.toInt = (0 : Int) from (fa_eq i1 (0 : Int32)).mp q2) (by omega)))
  refine lv_aload_n hx hb dX11_waysIn_11 rfl (lv_at hl 0 rfl) ?_
  refine z_get C G clX11 0 rfl 8 (by decide) m_fl_RX11_59 rfl dX11_waysIn_12 ?_
  refine lv_astore_n (lv' := [(3, .ref wb_), (0, .ref xo), (1, .int i1), (2, .ref o)]) hx hb dX11_waysIn_15 rfl hl (by decide) (zLvf_h rfl) (fun ls hl => ?_)
  refine lv_aload_n hx hb dX11_waysIn_16 rfl (lv_at hl 0 rfl) ?_
  refine lv_aload_n hx hb dX11_waysIn_17 rfl (lv_at hl 3 rfl) ?_
  refine z_Vv (bc := [wwB, z]) (br := [[zO10 xo t im mk rd po co tr wa wb_ fi cd]]) (As := [.ref o]) (rest := []) C G (c_f_make l T wb_ laB mdB wyB pc_B f1B f2B f3B f4B f5B f6B n4B wwB o cr inn k1 k2 k3 k4 z hwwB hz (by first | with_reducible assumption | with_reducible rfl | omega | assumption | rfl) hO hpw hmd hTb) (kV_RX11_232 C.2.2.2.2 (Nat.le_of_ble_eq_true rfl) (Nat.le_of_ble_eq_true rfl)) [1, 2] [1, 0] rfl rfl (ci := 0) (qc := (RX0, TX0, 10)) rfl rfl (List.mem_flatten.mpr ⟨_, List.mem_of_getElem? (i := 0) rfl, (bWays_mem hwwB).choose_spec⟩) rfl rfl hl.1 dX11_waysIn_18 (Nat.le_of_ble_eq_true rfl) (by show _ + (6 * (zMk mdB n4B (zPl cr inn k1) - n4B)) ≤ 6 * (zMk mdB n4B (zPl cr inn k1) - n4B); omega) (fun b1 H locs hw G => ?_)
  refine zEx8 hw ?_
  intro w2_1 m2_2 pc2_3 g1_4 g2_5 g4_6 g5_7 g6_8
  refine zCu4 ?_
  intro hbs9 h_9 h_10 h_11
  clear hw
  subst hbs9
  have G : zS T A s.heap s [[zO10 xo t im mk rd po co tr wa wb_ fi cd], w2_1, z] _ _ := G
  refine lv_aload_n hx hb dX11_waysIn_21 rfl (lv_at hl 0 rfl) ?_
  exact z_back hQz_ (z_aret (r := (some wb_)) C hr (Or.inl ⟨_, rfl⟩) hlocks G (Nat.le_of_ble_eq_true rfl) (by omega) dX11_waysIn_22 ⟨w2_1, m2_2, (zWy cr inn k1), pc2_3, g1_4, g2_5, g4_6, g5_7, g6_8, rfl, rfl, h_9, rfl, h_10, h_11⟩)
/-- a walk by a way, as the table has it -/
theorem rWalkF {f S P : Nat → Int32} {z n cr c : Int32} {w : Nat} (hL : zML f z cr) (hP : zMP P) (hS : ∀ j, j < 7 → S j = 0) (h : ∀ k : Nat, k < 7 → 0 < (zWo f z n k).toInt → P k = aPo (zWo f z n) w k) (h0 : 0 ≤ c.toInt) (h6 : c.toInt ≤ 6) : (zRunN S (zWo f z n) (zLo f z) 499 P c 0).2.1 = rWh (zWo f z n) (zLo f z) w c ∧ (zRunN S (zWo f z n) (zLo f z) 499 P c 0).2.2 = rStp (zWo f z n) (zLo f z) w c ∧ (∀ j, j < 7 → 0 < (zWo f z n j).toInt → (zRunN S (zWo f z n) (zLo f z) 499 P c 0).1 j = aPo (zWo f z n) (rAf (zWo f z n) (zLo f z) w c) j) ∧ ∀ j, j < 7 → (zWo f z n j).toInt ≤ 0 → (zRunN S (zWo f z n) (zLo f z) 499 P c 0).1 j = P j := by
  have hI : zP3 P (zWo f z n) := zP3_m hL hP
  have hW : ∀ j, j < 7 → 0 ≤ (zWo f z n j).toInt ∧ (zWo f z n j).toInt ≤ 4 := fun j hj => (hI j hj).1
  have hLd : ∀ j r : Nat, j < 7 → r < 4 → (r : Int) < (zWo f z n j).toInt → 0 ≤ (zLo f z (4 * j + r)).toInt ∧ (zLo f z (4 * j + r)).toInt ≤ 6 := fun j r hj hr _ => hL.2.2.2.2 (4 * j + r) (by omega)
  have ec : c = nI c.toInt.toNat := z_nI (by omega) (by omega)
  have R := aN_run hLd hW 499 w c.toInt.toNat 0 P (by omega) h
  rw [← ec] at R
  have C := zRunN_cg (f2 := S) (g2 := zS0) (f3 := zWo f z n) (g3 := zWo f z n) (lf := zLo f z) (lg := zLo f z) hS (fun _ _ => rfl) zLs_rf 499 P P c 0 hI (fun _ _ => rfl)
  refine ⟨?_, ?_, ?_, ?_⟩
  · rw [C.2]
    exact R.2.1
  · rw [C.2]
    exact R.2.2
  · intro j hj hw
    rw [C.1 j hj]
    exact R.1 j hj hw
  · intro j hj hw
    have e0 : zWo f z n j = 0 := Int32.toInt_inj.mp (by
      have t := (hW j hj).1
      have z0 : (0 : Int32).toInt = 0 := rfl
      omega)
    exact zRunN_z e0 499 P c 0 hI
theorem zVZ_lt {f : Nat → Int32} {z n cr : Int32} (hZ : zVZ f z cr) {j : Nat} (hj : j < 7) (hw : 0 < (zWo f z n j).toInt) : (j : Int) < cr.toInt := by
  by_cases q : (j : Int) < cr.toInt
  · exact q
  · have t := zVZ_w (n := n) hZ hj (by omega)
    omega
theorem rWalk {f S P : Nat → Int32} {z n cr c : Int32} {w : Nat} (hL : zML f z cr) (hZ : zVZ f z cr) (hP : zMP P) (hS : ∀ j, j < 7 → S j = 0) (h : ∀ k : Nat, k < 7 → (k : Int) < cr.toInt → P k = aPo (zWo f z n) w k) (h0 : 0 ≤ c.toInt) (h6 : c.toInt ≤ 6) : (zRunN S (zWo f z n) (zLo f z) 499 P c 0).2.1 = rWh (zWo f z n) (zLo f z) w c ∧ (zRunN S (zWo f z n) (zLo f z) 499 P c 0).2.2 = rStp (zWo f z n) (zLo f z) w c ∧ (∀ j, j < 7 → 0 < (zWo f z n j).toInt → (zRunN S (zWo f z n) (zLo f z) 499 P c 0).1 j = aPo (zWo f z n) (rAf (zWo f z n) (zLo f z) w c) j) ∧ ∀ j, j < 7 → (zWo f z n j).toInt ≤ 0 → (zRunN S (zWo f z n) (zLo f z) 499 P c 0).1 j = P j := rWalkF hL hP hS (fun k hk hw => h k hk (zVZ_lt hZ hk hw)) h0 h6
/-- the way as told, and its posts -/
theorem rTold {f : Nat → Int32} {z n : Int32} (hz : z.toInt = 610 ∨ z.toInt = 661) (hVA : zVA f) (hF : zLF (fun j => f (z.toInt.toNat + j))) : aRs (zWo f z n) (zPo f z) 7 < aPr (zWo f z n) 7 ∧ ∀ j, j < 7 → 0 < (zWo f z n j).toInt → zPt f z (nI j) = aPo (zWo f z n) (aRs (zWo f z n) (zPo f z) 7) j := by
  have key : ∀ c, c < 7 → 0 < (zWo f z n c).toInt → (zPo f z c).toInt = 0 ∨ (zPo f z c).toInt < (zWo f z n c).toInt := fun c hc hw => by
    have v : (f (z.toInt.toNat + (9 + c))).toInt = 0 ∨ (f (z.toInt.toNat + (9 + c))).toInt < (f (z.toInt.toNat + (2 + c))).toInt := (zVA_0 hVA hz c hc).1
    have e : zWo f z n c = zRo f z c := by
      unfold zWo at hw ⊢
      by_cases q : zBit n (nI c) = 1
      · rw [if_pos q] at hw
        exact absurd hw (by decide)
      · rw [if_neg q]
    rw [e]
    exact v
  refine ⟨aRs_lt key 7 (Nat.le_refl _), fun j hj hw => ?_⟩
  have d := aRs_d key hj
  have b : 0 ≤ (f (z.toInt.toNat + (9 + j))).toInt ∧ (f (z.toInt.toNat + (9 + j))).toInt ≤ 3 := (hF.2.1 j hj).2.1
  have t := nI_toInt (n := j) (by omega)
  have e1 : zPt f z (nI j) = f (z.toInt.toNat + (9 + j)) := congrArg f (by omega)
  unfold aPo
  rw [d, e1]
  unfold aDg
  rw [if_pos hw]
  have b2 : 0 ≤ (zPo f z j).toInt ∧ (zPo f z j).toInt ≤ 3 := b
  exact z_nI (x := zPo f z j) (m := (zPo f z j).toInt.toNat) (by omega) (by omega)
theorem zVZ_l {cr inn z : Int32} {k1 k2 k3 k4 f : Nat → Int32} {B : Nat} (h : zLnd cr inn k1 k2 k3 k4 (fun j => f (B + j))) (hz : z.toInt.toNat = B) : zVZ f z (f z.toInt.toNat) := by
  obtain ⟨-, -, -, hd, hx, -⟩ := h
  intro j hj hc
  rw [hz] at hc
  have hx : ∀ j : Nat, j < 7 → (f B).toInt ≤ (j : Int) → k1 j = 0 := hx
  have e : k1 j = f (B + (2 + j)) := (hd j hj).1
  have q := hx j hj hc
  unfold zRo
  rw [hz, ← e, q]
  decide
theorem aPr_mx {f : Nat → Int32} {z cr n : Int32} (h : zML f z cr) : aPr (zWo f z n) 7 ≤ 16384 := by
  have k : ∀ m, m ≤ 7 → aPr (zWo f z n) m ≤ 4 ^ m := by
    intro m
    induction m with
    | zero => intro _; exact Nat.le_refl _
    | succ m ih =>
      intro hm
      rw [Nat.pow_succ]
      exact Nat.mul_le_mul (ih (by omega)) (aCh_m (n := n) h (by omega))
  exact k 7 (Nat.le_refl _)

theorem zRc_st {k : pT} {n : Nat} {ft : Nat → Int32} {r2 r3 r4 r5 r6 : Int32} (hk : k = tkT ft n) (hn : n ≤ 600) (h2 : r2 = nI n) (hT : zTokC k 0 r3 r4 r5 r6) : zRc k n ft 0 (-1) r2 r3 r4 r5 r6 0 (0, 0, 0, -1, -1) := by
  have ho : pOk k n := by rw [hk]; exact tkT_ok _ _
  exact ⟨⟨hk, hn, h2, Nat.zero_le _⟩, rfl, fun _ => hT, rfl, rfl, Or.inl ⟨by show (0 : Int32).toInt = 0; rfl, fun q => absurd (show (0 : Int32).toInt = 0 from rfl) q⟩, _, (ho 0 (Nat.zero_le _)).1.2.2, hT.1⟩
theorem zLc_st {k1 k2 k3 k4 : Nat → Int32} (h1 : ∀ j, j < 7 → k1 j = 0) (h3 : ∀ j, j < 7 → k3 j = 0) (h4 : ∀ j, j < 7 → k4 j = 0) : zLc 0 0 k1 k2 k3 k4 0 (0, 0, 0, -1, -1) (fun _ => 0) := fun _ => ⟨rfl, by decide, rfl, fun j hj => ⟨h1 j hj, h3 j hj, h4 j hj⟩, fun j hj _ => h1 j hj, fun j r hj _ hr => by rw [h1 j hj] at hr; have : (0 : Int32).toInt = 0 := rfl; omega, zTof_0⟩
theorem zDc_st {d1 d2 d3 : Nat → Int32} : zDc 0 d1 d2 d3 (0, 0, 0, -1, -1) (fun _ => 0) := fun _ => ⟨rfl, by decide, fun j hj => by have hj : (j : Int) < (0 : Int32).toInt := hj; have : (0 : Int32).toInt = 0 := rfl; omega⟩
theorem zGc_st {d1 d2 : Nat → Int32} : zGc 0 d1 d2 (0, 0, 0, -1, -1) (fun _ => 0) := fun _ => ⟨rfl, by decide, fun j hj => by have hj : (j : Int) < (0 : Int32).toInt := hj; have : (0 : Int32).toInt = 0 := rfl; omega⟩
theorem pLines_n {k : pT} {s j : Nat} {a : pS} {f : Nat → Int32} {X : pS × (Nat → Int32)} (hj : j ≤ 600) (hw : a.2.1.toInt = 0) (ht : ¬ pTk k a.1 = 0) (h : pLines k s (601 - j) a f = X) : pLines k s (601 - (j + 1)) (pLine k s a f).1 (pLine k s a f).2 = X := by
  rw [show 601 - j = (601 - (j + 1)) + 1 by omega, pLines_s ⟨hw, ht⟩] at h
  exact h
theorem pLines_o {k : pT} {s j : Nat} {a : pS} {f : Nat → Int32} {X : pS × (Nat → Int32)} (hj : j ≤ 601) (h : 600 < j ∨ ¬ a.2.1.toInt = 0 ∨ pTk k a.1 = 0) (hE : pLines k s (601 - j) a f = X) : X = (a, f) := by
  rw [← hE]
  rcases h with h | h | h
  · rw [show 601 - j = 0 by omega]; rfl
  · exact pLines_x (fun z => h z.1)
  · exact pLines_x (fun z => z.2 h)
theorem pRead_e {k : pT} {n s : Nat} {a : pS} {f : Nat → Int32} (h : pLines k s 601 (0, 0, 0, -1, -1) (fun _ => 0) = (a, f)) : pRead k n s = pFin n s (a, f) := congrArg (pFin n s) h
theorem zLc_fin {cr inn tof : Int32} {k1 k2 k3 k4 f : Nat → Int32} {a : pS} {n : Nat} (h : zLc cr inn k1 k2 k3 k4 tof a f) : zLc cr inn k1 k2 k3 k4 tof (pFin n 0 (a, f)).1 (pFin n 0 (a, f)).2 := by
  intro q
  have e := pFin_f q
  rw [e] at q ⊢
  exact h q
set_option maxHeartbeats 4000000 in
set_option maxRecDepth 100000 in
/-- c_f_read0 -/
theorem c_f_read0 (l : Launch) (T : zTy) (rd : Nat) (rl : Nat) (rdd : Nat) (rg : Nat) (tp : Nat) (r0 : Int32) (r1 : Int32) (r2 : Int32) (r3 : Int32) (r4 : Int32) (r5 : Int32) (r6 : Int32) (r7 : Int32) (r8 : Int32) (tq : Nat) (ft : Nat → Int32) (cr : Int32) (inn : Int32) (k1 : Nat → Int32) (k2 : Nat → Int32) (k3 : Nat → Int32) (k4 : Nat → Int32) (z : va_W) (dd : Int32) (d1 : Nat → Int32) (d2 : Nat → Int32) (d3 : Nat → Int32) (wd : va_W) (gg : Int32) (e1 : Nat → Int32) (e2 : Nat → Int32) (wg : va_W) (n : Int32) (k : pT) (N : Nat) (hz : bLand T rl cr inn k1 k2 k3 k4 z) (hd : bDay T rdd dd d1 d2 d3 wd) (hg : bLog T rg gg e1 e2 wg) (hN : n = nI N) (hN6 : N ≤ 600) (hk : k = tkT ft N) : zMv l T yX7_read cX7_read 5 8 0 0 [.ref rd, .ref tp, .int n, .int 0] [[zO7 rd rl rdd rg r0 r1 tq r2 r3 r4 r5 r6 r7 r8], [zAr T 1 tp 600 ft], z, wd, wg] (fun bs => ∃ (u2 : Int32) (u0 : Int32) (u1 : Int32) (u3 : Int32) (u4 : Int32) (u5 : Int32) (u6 : Int32) (u7 : Int32) (u8 : Int32) (z2 : va_W) (c2 : Int32) (i2 : Int32) (j1 : Nat → Int32) (j2 : Nat → Int32) (j3 : Nat → Int32) (j4 : Nat → Int32) (wd2 : va_W) (wg2 : va_W), bs = [[zO7 rd rl rdd rg u0 u1 tp u2 u3 u4 u5 u6 u7 u8], [zAr T 1 tp 600 ft], z2, wd2, wg2] ∧ bLand T rl c2 i2 j1 j2 j3 j4 z2 ∧ zLI c2 j1 j3 ∧ bDay T rdd 0 d1 d2 d3 wd2 ∧ bLog T rg 0 e1 e2 wg2 ∧ u0 = (pRead k N 0).1.2.2.1 ∧ u1 = (pRead k N 0).1.2.2.2.1 ∧ zLc c2 i2 j1 j2 j3 j4 u8 (pRead k N 0).1 (pRead k N 0).2) := by
  refine zMv_of (own := RX7) (by decide) rfl (Nat.le_of_ble_eq_true rfl) ?_
  intro p e s m args below meth c A ls C hr hlocks hnm hAe G hl
  refine zHide (fun Qz_ hQz_ => ?_)
  have hx := C.1
  have hb := C.2.1
  have hl : lv_has ls 5 [(0, .ref rd), (1, .ref tp), (2, .int n), (3, .int 0)] := hl
  refine lv_aload_n hx hb dX7_read_0 rfl (lv_at hl 0 rfl) ?_
  refine lv_aload_n hx hb dX7_read_1 rfl (lv_at hl 1 rfl) ?_
  refine z_put C G clX7 0 rfl 5 (by decide) m_fl_RX7_32 rfl rfl rfl (Nat.le_of_ble_eq_true rfl) dX7_read_2 (fun H locs G => ?_)
  have G : zS T A s.heap s [[zO7 rd rl rdd rg r0 r1 tp r2 r3 r4 r5 r6 r7 r8], [zAr T 1 tp 600 ft], z, wd, wg] _ _ := G
  refine lv_aload_n hx hb dX7_read_5 rfl (lv_at hl 0 rfl) ?_
  refine lv_iload_n hx hb dX7_read_6 rfl (lv_at hl 2 rfl) ?_
  refine lv_aload_n hx hb dX7_read_7 rfl (lv_at hl 1 rfl) ?_
  refine z_alen C G 1 1 rfl (v := 600) rfl rfl dX7_read_8 ?_
  refine va_mmin hx hb (C.2.2.1.trans hl.1.symm) C.2.2.2.1 (C.2.2.2.2 _ m_ml_RX7_36) (C.2.2.2.2 _ m_st_math_min) (C.2.2.2.2 _ m_ii_math) (C.2.2.2.2 _ m_co_math_min) (Nat.le_of_ble_eq_true rfl) (Nat.le_of_ble_eq_true rfl) (Nat.le_of_ble_eq_true rfl) (Nat.le_of_ble_eq_true rfl) dX7_read_9 ?_
  refine lv_topi (fun v_1 ev_1 => ?_)
  have hlen : v_1 = nI N := by rw [ev_1, if_neg (fun z9 => by have z8 := (fa_lt _ _).mp z9; rw [hN, nI_toInt (by omega)] at z8; have z7 : (600 : Int32).toInt = 600 := rfl; omega)]; exact hN
  refine z_put C G clX7 0 rfl 6 (by decide) m_fl_RX7_42 rfl rfl rfl (Nat.le_of_ble_eq_true rfl) dX7_read_12 (fun H locs G => ?_)
  have G : zS T A s.heap s [[zO7 rd rl rdd rg r0 r1 tp v_1 r3 r4 r5 r6 r7 r8], [zAr T 1 tp 600 ft], z, wd, wg] _ _ := G
  refine lv_aload_n hx hb dX7_read_15 rfl (lv_at hl 0 rfl) ?_
  refine lv_iconst (v := 0) hx hb dX7_read_16 (by decide) ?_
  refine z_put C G clX7 0 rfl 7 (by decide) m_fl_RX7_46 rfl rfl rfl (Nat.le_of_ble_eq_true rfl) dX7_read_17 (fun H locs G => ?_)
  have G : zS T A s.heap s [[zO7 rd rl rdd rg r0 r1 tp v_1 0 r4 r5 r6 r7 r8], [zAr T 1 tp 600 ft], z, wd, wg] _ _ := G
  refine lv_aload_n hx hb dX7_read_20 rfl (lv_at hl 0 rfl) ?_
  refine lv_iconst (v := 0) hx hb dX7_read_21 (by decide) ?_
  refine z_put C G clX7 0 rfl 3 (by decide) m_fl_RX7_49 rfl rfl rfl (Nat.le_of_ble_eq_true rfl) dX7_read_22 (fun H locs G => ?_)
  have G : zS T A s.heap s [[zO7 rd rl rdd rg 0 r1 tp v_1 0 r4 r5 r6 r7 r8], [zAr T 1 tp 600 ft], z, wd, wg] _ _ := G
  refine lv_aload_n hx hb dX7_read_25 rfl (lv_at hl 0 rfl) ?_
  refine lv_iconst (v := (-1)) hx hb dX7_read_26 (by decide) ?_
  refine z_put C G clX7 0 rfl 4 (by decide) m_fl_RX7_52 rfl rfl rfl (Nat.le_of_ble_eq_true rfl) dX7_read_27 (fun H locs G => ?_)
  have G : zS T A s.heap s [[zO7 rd rl rdd rg 0 (-1) tp v_1 0 r4 r5 r6 r7 r8], [zAr T 1 tp 600 ft], z, wd, wg] _ _ := G
  refine lv_aload_n hx hb dX7_read_30 rfl (lv_at hl 0 rfl) ?_
  refine lv_iconst (v := 0) hx hb dX7_read_31 (by decide) ?_
  refine z_put C G clX7 0 rfl 11 (by decide) m_fl_RX7_55 rfl rfl rfl (Nat.le_of_ble_eq_true rfl) dX7_read_32 (fun H locs G => ?_)
  have G : zS T A s.heap s [[zO7 rd rl rdd rg 0 (-1) tp v_1 0 r4 r5 r6 0 r8], [zAr T 1 tp 600 ft], z, wd, wg] _ _ := G
  refine lv_aload_n hx hb dX7_read_35 rfl (lv_at hl 0 rfl) ?_
  refine lv_iconst (v := 0) hx hb dX7_read_36 (by decide) ?_
  refine z_put C G clX7 0 rfl 12 (by decide) m_fl_RX7_59 rfl rfl rfl (Nat.le_of_ble_eq_true rfl) dX7_read_37 (fun H locs G => ?_)
  have G : zS T A s.heap s [[zO7 rd rl rdd rg 0 (-1) tp v_1 0 r4 r5 r6 0 0], [zAr T 1 tp 600 ft], z, wd, wg] _ _ := G
  refine lv_aload_n hx hb dX7_read_40 rfl (lv_at hl 0 rfl) ?_
  refine z_get C G clX7 0 rfl 0 (by decide) m_fl_RX7_12 rfl dX7_read_41 ?_
  refine z_Vv (bc := [z]) (br := [[zO7 rd rl rdd rg 0 (-1) tp v_1 0 r4 r5 r6 0 0], [zAr T 1 tp 600 ft], wd, wg]) (As := []) (rest := []) C G (c_Land_clear l T rl cr inn k1 k2 k3 k4 z hz) (kV_RX7_62 C.2.2.2.2 (Nat.le_of_ble_eq_true rfl) (Nat.le_of_ble_eq_true rfl)) [2] [2] rfl rfl (ci := 4) (qc := (RX4, TX4, 6)) rfl rfl (List.mem_flatten.mpr ⟨_, List.mem_of_getElem? (i := 0) rfl, (bLand_mem hz).choose_spec⟩) rfl rfl hl.1 dX7_read_44 (Nat.le_of_ble_eq_true rfl) (Nat.le_of_ble_eq_true rfl) (fun b1 H locs hw G => ?_)
  refine zEx4 hw ?_
  intro w2_2 g1_3 g3_4 g4_5
  refine zCu5 ?_
  intro hbs9 h_6 h_7 h_8 h_9
  clear hw
  subst hbs9
  have G : zS T A s.heap s [[zO7 rd rl rdd rg 0 (-1) tp v_1 0 r4 r5 r6 0 0], [zAr T 1 tp 600 ft], wd, wg, w2_2] _ _ := G
  have hI : zLI 0 g1_3 g3_4 := zLI_zero h_7 h_8
  refine lv_aload_n hx hb dX7_read_47 rfl (lv_at hl 0 rfl) ?_
  refine z_get C G clX7 0 rfl 1 (by decide) m_fl_RX7_21 rfl dX7_read_48 ?_
  refine lv_iconst (v := 0) hx hb dX7_read_51 (by decide) ?_
  refine zEx3 hd ?_
  intro a1_11 a2_12 a3_13 hbs9
  clear hd
  subst hbs9
  have G : zS T A s.heap s [[zO7 rd rl rdd rg 0 (-1) tp v_1 0 r4 r5 r6 0 0], [zAr T 1 tp 600 ft], [(rdd, .inr (2, [.int dd, .ref a1_11, .ref a2_12, .ref a3_13]))], [zAr T 0 a1_11 40 d1], [zAr T 0 a2_12 40 d2], [zAr T 0 a3_13 40 d3], wg, w2_2] _ _ := G.re rfl
  refine z_put C G clX2 2 rfl 0 (by decide) m_fl_RX7_65 rfl rfl rfl (Nat.le_of_ble_eq_true rfl) dX7_read_52 (fun H locs G => ?_)
  have G : zS T A s.heap s [[zO7 rd rl rdd rg 0 (-1) tp v_1 0 r4 r5 r6 0 0], [zAr T 1 tp 600 ft], [(rdd, .inr (2, [.int 0, .ref a1_11, .ref a2_12, .ref a3_13]))], [zAr T 0 a1_11 40 d1], [zAr T 0 a2_12 40 d2], [zAr T 0 a3_13 40 d3], wg, w2_2] _ _ := G
  refine lv_aload_n hx hb dX7_read_55 rfl (lv_at hl 0 rfl) ?_
  refine z_get C G clX7 0 rfl 2 (by decide) m_fl_RX7_28 rfl dX7_read_56 ?_
  refine lv_iconst (v := 0) hx hb dX7_read_59 (by decide) ?_
  refine zEx2 hg ?_
  intro a1_14 a2_15 hbs9
  clear hg
  subst hbs9
  have G : zS T A s.heap s [[zO7 rd rl rdd rg 0 (-1) tp v_1 0 r4 r5 r6 0 0], [zAr T 1 tp 600 ft], [(rdd, .inr (2, [.int 0, .ref a1_11, .ref a2_12, .ref a3_13]))], [zAr T 0 a1_11 40 d1], [zAr T 0 a2_12 40 d2], [zAr T 0 a3_13 40 d3], [(rg, .inr (5, [.int gg, .ref a1_14, .ref a2_15]))], [zAr T 0 a1_14 8 e1], [zAr T 0 a2_15 8 e2], w2_2] _ _ := G.re rfl
  refine z_put C G clX5 6 rfl 0 (by decide) m_fl_RX7_68 rfl rfl rfl (Nat.le_of_ble_eq_true rfl) dX7_read_60 (fun H locs G => ?_)
  have G : zS T A s.heap s [[zO7 rd rl rdd rg 0 (-1) tp v_1 0 r4 r5 r6 0 0], [zAr T 1 tp 600 ft], [(rdd, .inr (2, [.int 0, .ref a1_11, .ref a2_12, .ref a3_13]))], [zAr T 0 a1_11 40 d1], [zAr T 0 a2_12 40 d2], [zAr T 0 a3_13 40 d3], [(rg, .inr (5, [.int 0, .ref a1_14, .ref a2_15]))], [zAr T 0 a1_14 8 e1], [zAr T 0 a2_15 8 e2], w2_2] _ _ := G
  refine lv_aload_n hx hb dX7_read_63 rfl (lv_at hl 0 rfl) ?_
  refine z_Vv (bc := [[zO7 rd rl rdd rg 0 (-1) tp v_1 0 r4 r5 r6 0 0], [zAr T 1 tp 600 ft]]) (br := [[(rdd, .inr (2, [.int 0, .ref a1_11, .ref a2_12, .ref a3_13]))], [zAr T 0 a1_11 40 d1], [zAr T 0 a2_12 40 d2], [zAr T 0 a3_13 40 d3], [(rg, .inr (5, [.int 0, .ref a1_14, .ref a2_15]))], [zAr T 0 a1_14 8 e1], [zAr T 0 a2_15 8 e2], w2_2]) (As := []) (rest := []) C G (c_f_nextToken l T rd rl rdd rg tp 0 (-1) v_1 0 r4 r5 r6 0 0 ft 0 N k rfl (Nat.zero_le _) hk hlen hN6) (kV_RX7_71 C.2.2.2.2 (Nat.le_of_ble_eq_true rfl) (Nat.le_of_ble_eq_true rfl)) [0, 1] [0, 0] rfl rfl (ci := 7) (qc := (RX7, TX7, 13)) rfl rfl (List.mem_flatten.mpr ⟨_, List.mem_of_getElem? (i := 0) rfl, List.mem_cons_self⟩) rfl rfl hl.1 dX7_read_64 (Nat.le_of_ble_eq_true rfl) (Nat.le_of_ble_eq_true rfl) (fun b1 H locs hw G => ?_)
  refine zEx4 hw ?_
  intro u3_16 u4_17 u5_18 u6_19
  refine zCu2 ?_
  intro hbs9 h_20
  clear hw
  subst hbs9
  have G : zS T A s.heap s [[(rdd, .inr (2, [.int 0, .ref a1_11, .ref a2_12, .ref a3_13]))], [zAr T 0 a1_11 40 d1], [zAr T 0 a2_12 40 d2], [zAr T 0 a3_13 40 d3], [(rg, .inr (5, [.int 0, .ref a1_14, .ref a2_15]))], [zAr T 0 a1_14 8 e1], [zAr T 0 a2_15 8 e2], w2_2, [zO7 rd rl rdd rg 0 (-1) tp v_1 u3_16 u4_17 u5_18 u6_19 0 0], [zAr T 1 tp 600 ft]] _ _ := G
  refine lv_iconst (v := 0) hx hb dX7_read_67 (by decide) ?_
  refine lv_istore (lv' := [(4, .int 0), (0, .ref rd), (1, .ref tp), (2, .int n), (3, .int 0)]) hx hb dX7_read_68 hl (by decide) (zLvf_h rfl) (fun ls hl => ?_)
  have hw_22 : bDay T rdd 0 d1 d2 d3 [(rdd, .inr (2, [.int 0, .ref a1_11, .ref a2_12, .ref a3_13])), zAr T 0 a1_11 40 d1, zAr T 0 a2_12 40 d2, zAr T 0 a3_13 40 d3] := ⟨a1_11, a2_12, a3_13, rfl⟩
  have G : zS T A s.heap s [[(rdd, .inr (2, [.int 0, .ref a1_11, .ref a2_12, .ref a3_13])), zAr T 0 a1_11 40 d1, zAr T 0 a2_12 40 d2, zAr T 0 a3_13 40 d3], [(rg, .inr (5, [.int 0, .ref a1_14, .ref a2_15]))], [zAr T 0 a1_14 8 e1], [zAr T 0 a2_15 8 e2], w2_2, [zO7 rd rl rdd rg 0 (-1) tp v_1 u3_16 u4_17 u5_18 u6_19 0 0], [zAr T 1 tp 600 ft]] _ _ := G.re rfl
  have hw_23 : bLog T rg 0 e1 e2 [(rg, .inr (5, [.int 0, .ref a1_14, .ref a2_15])), zAr T 0 a1_14 8 e1, zAr T 0 a2_15 8 e2] := ⟨a1_14, a2_15, rfl⟩
  have G : zS T A s.heap s [[(rdd, .inr (2, [.int 0, .ref a1_11, .ref a2_12, .ref a3_13])), zAr T 0 a1_11 40 d1, zAr T 0 a2_12 40 d2, zAr T 0 a3_13 40 d3], [(rg, .inr (5, [.int 0, .ref a1_14, .ref a2_15])), zAr T 0 a1_14 8 e1, zAr T 0 a2_15 8 e2], w2_2, [zO7 rd rl rdd rg 0 (-1) tp v_1 u3_16 u4_17 u5_18 u6_19 0 0], [zAr T 1 tp 600 ft]] _ _ := G.re rfl
  refine z_lp18 (T := T) 70 (fun (j : Nat) (A9 : pS) (fr : Nat → Int32) (y0 : Int32) (y1 : Int32) (y3 : Int32) (y4 : Int32) (y5 : Int32) (y6 : Int32) (y7 : Int32) (y8 : Int32) (z3 : va_W) (cc_ : Int32) (ci_ : Int32) (x1 : Nat → Int32) (x2 : Nat → Int32) (x3 : Nat → Int32) (x4 : Nat → Int32) => [[(rdd, .inr (2, [.int 0, .ref a1_11, .ref a2_12, .ref a3_13])), zAr T 0 a1_11 40 d1, zAr T 0 a2_12 40 d2, zAr T 0 a3_13 40 d3], [(rg, .inr (5, [.int 0, .ref a1_14, .ref a2_15])), zAr T 0 a1_14 8 e1, zAr T 0 a2_15 8 e2], z3, [zO7 rd rl rdd rg y0 y1 tp v_1 y3 y4 y5 y6 y7 y8], [zAr T 1 tp 600 ft]]) (fun (j : Nat) (A9 : pS) (fr : Nat → Int32) (y0 : Int32) (y1 : Int32) (y3 : Int32) (y4 : Int32) (y5 : Int32) (y6 : Int32) (y7 : Int32) (y8 : Int32) (z3 : va_W) (cc_ : Int32) (ci_ : Int32) (x1 : Nat → Int32) (x2 : Nat → Int32) (x3 : Nat → Int32) (x4 : Nat → Int32) => [(4, .int (nI j)), (0, .ref rd), (3, .int 0)]) (fun (j : Nat) (A9 : pS) (fr : Nat → Int32) (y0 : Int32) (y1 : Int32) (y3 : Int32) (y4 : Int32) (y5 : Int32) (y6 : Int32) (y7 : Int32) (y8 : Int32) (z3 : va_W) (cc_ : Int32) (ci_ : Int32) (x1 : Nat → Int32) (x2 : Nat → Int32) (x3 : Nat → Int32) (x4 : Nat → Int32) => bLand T rl cc_ ci_ x1 x2 x3 x4 z3 ∧ j ≤ 601 ∧ zRc k N ft y0 y1 v_1 y3 y4 y5 y6 y7 A9 ∧ pLines k 0 (601 - j) A9 fr = pLines k 0 601 (0, 0, 0, -1, -1) (fun _ => 0) ∧ zLc cc_ ci_ x1 x2 x3 x4 y8 A9 fr ∧ zLI cc_ x1 x3) (fun (j : Nat) (A9 : pS) (fr : Nat → Int32) (y0 : Int32) (y1 : Int32) (y3 : Int32) (y4 : Int32) (y5 : Int32) (y6 : Int32) (y7 : Int32) (y8 : Int32) (z3 : va_W) (cc_ : Int32) (ci_ : Int32) (x1 : Nat → Int32) (x2 : Nat → Int32) (x3 : Nat → Int32) (x4 : Nat → Int32) => 601 - j) ?_ 0 (0, 0, 0, -1, -1) (fun _ => 0) 0 (-1) u3_16 u4_17 u5_18 u6_19 0 0 w2_2 0 0 g1_3 k2 g3_4 g4_5 (show bLand T rl 0 0 g1_3 k2 g3_4 g4_5 w2_2 ∧ 0 ≤ 601 ∧ zRc k N ft 0 (-1) v_1 u3_16 u4_17 u5_18 u6_19 0 (0, 0, 0, -1, -1) ∧ pLines k 0 (601 - 0) (0, 0, 0, -1, -1) (fun _ => 0) = pLines k 0 601 (0, 0, 0, -1, -1) (fun _ => 0) ∧ zLc 0 0 g1_3 k2 g3_4 g4_5 0 (0, 0, 0, -1, -1) (fun _ => 0) ∧ zLI 0 g1_3 g3_4 from ⟨h_6, by omega, (zRc_st hk hN6 hlen h_20), rfl, (zLc_st h_7 h_8 h_9), hI⟩) G (lv_sub hl [0, 1, 4] rfl)
  intro j A9 fr y0 y1 y3 y4 y5 y6 y7 y8 z3 cc_ ci_ x1 x2 x3 x4 hI9 ih_70 H locs ls G hl
  replace hI9 : bLand T rl cc_ ci_ x1 x2 x3 x4 z3 ∧ j ≤ 601 ∧ zRc k N ft y0 y1 v_1 y3 y4 y5 y6 y7 A9 ∧ pLines k 0 (601 - j) A9 fr = pLines k 0 601 (0, 0, 0, -1, -1) (fun _ => 0) ∧ zLc cc_ ci_ x1 x2 x3 x4 y8 A9 fr ∧ zLI cc_ x1 x3 := hI9
  refine zAn6 hI9 ?_
  intro hz3 hj hBA hEq hCC hI2
  clear hI9
  replace G : zS T A s.heap s [[(rdd, .inr (2, [.int 0, .ref a1_11, .ref a2_12, .ref a3_13])), zAr T 0 a1_11 40 d1, zAr T 0 a2_12 40 d2, zAr T 0 a3_13 40 d3], [(rg, .inr (5, [.int 0, .ref a1_14, .ref a2_15])), zAr T 0 a1_14 8 e1, zAr T 0 a2_15 8 e2], z3, [zO7 rd rl rdd rg y0 y1 tp v_1 y3 y4 y5 y6 y7 y8], [zAr T 1 tp 600 ft]] _ _ := G
  replace hl : lv_has ls 5 [(4, .int (nI j)), (0, .ref rd), (3, .int 0)] := hl
  refine lv_iload hx hb dX7_read_70 (lv_at hl 0 rfl) ?_
  have hokA := zRc_ok hBA
  obtain ⟨hA1A, hA6A, hA7A, hA8A, hA9A, hAIA, hAEA⟩ := id hBA
  have hkaA := hokA A9.1 hA1A.2.2.2
  refine lv_sipush (v := 600) hx hb dX7_read_72 (by decide) ?_
  refine lv_icmp_gt (tgt := 103) hx hb dX7_read_75 (by decide) (fun c_24 => ?_) (fun c_24 => ?_)
  · have c_24n : 600 < j := (nI_ltI (a := 600) (b := j) (by omega) (by omega)).mp c_24
    have hX := pLines_o hj (by first | exact Or.inl (by omega) | exact Or.inr (Or.inl (by rw [← hA6A]; omega)) | exact Or.inr (Or.inr (pTk_0.mpr (by omega)))) hEq
    have hRd := pRead_e (n := N) hX
    refine lv_iload_n hx hb dX7_read_103 rfl (lv_at hl 2 rfl) ?_
    refine lv_if_ne (tgt := 111) hx hb dX7_read_104 (by decide) (fun q => absurd (by decide) q) (fun _ => ?_)
    refine lv_aload_n hx hb dX7_read_107 rfl (lv_at hl 1 rfl) ?_
    refine z_Vv (bc := [[zO7 rd rl rdd rg y0 y1 tp v_1 y3 y4 y5 y6 y7 y8], z3]) (br := [[(rdd, .inr (2, [.int 0, .ref a1_11, .ref a2_12, .ref a3_13])), zAr T 0 a1_11 40 d1, zAr T 0 a2_12 40 d2, zAr T 0 a3_13 40 d3], [(rg, .inr (5, [.int 0, .ref a1_14, .ref a2_15])), zAr T 0 a1_14 8 e1, zAr T 0 a2_15 8 e2], [zAr T 1 tp 600 ft]]) (As := []) (rest := []) C G (c_f_lookAtWhole l T rd rl rdd rg tp y0 y1 v_1 y3 y4 y5 y6 y7 y8 cc_ ci_ x1 x2 x3 x4 z3 ft k N A9 fr hz3 hI2 hBA hCC) (kV_RX7_81 C.2.2.2.2 (Nat.le_of_ble_eq_true rfl) (Nat.le_of_ble_eq_true rfl)) [3, 2] [2, 0] rfl rfl (ci := 7) (qc := (RX7, TX7, 13)) rfl rfl (List.mem_flatten.mpr ⟨_, List.mem_of_getElem? (i := 0) rfl, List.mem_cons_self⟩) rfl rfl hl.1 dX7_read_108 (Nat.le_of_ble_eq_true rfl) (Nat.le_of_ble_eq_true rfl) (fun b1 H locs hw G => ?_)
    refine zEx2 hw ?_
    intro u0_25 u1_26
    refine zCu3 ?_
    intro hbs9 h_27 h_28
    clear hw
    subst hbs9
    have G : zS T A s.heap s [[(rdd, .inr (2, [.int 0, .ref a1_11, .ref a2_12, .ref a3_13])), zAr T 0 a1_11 40 d1, zAr T 0 a2_12 40 d2, zAr T 0 a3_13 40 d3], [(rg, .inr (5, [.int 0, .ref a1_14, .ref a2_15])), zAr T 0 a1_14 8 e1, zAr T 0 a2_15 8 e2], [zAr T 1 tp 600 ft], [zO7 rd rl rdd rg u0_25 u1_26 tp v_1 y3 y4 y5 y6 y7 y8], z3] _ _ := G
    have G := G.sub (bs' := [[zO7 rd rl rdd rg u0_25 u1_26 tp v_1 y3 y4 y5 y6 y7 y8], [zAr T 1 tp 600 ft], z3, [(rdd, .inr (2, [.int 0, .ref a1_11, .ref a2_12, .ref a3_13])), zAr T 0 a1_11 40 d1, zAr T 0 a2_12 40 d2, zAr T 0 a3_13 40 d3], [(rg, .inr (5, [.int 0, .ref a1_14, .ref a2_15])), zAr T 0 a1_14 8 e1, zAr T 0 a2_15 8 e2]]) [3, 2, 4, 0, 1] rfl
    exact z_back hQz_ (z_vret C hr hlocks G (Nat.le_of_ble_eq_true rfl) (Nat.le_of_ble_eq_true rfl) dX7_read_111 ⟨v_1, u0_25, u1_26, y3, y4, y5, y6, y7, y8, z3, cc_, ci_, x1, x2, x3, x4, ([(rdd, .inr (2, [.int 0, .ref a1_11, .ref a2_12, .ref a3_13])), zAr T 0 a1_11 40 d1, zAr T 0 a2_12 40 d2, zAr T 0 a3_13 40 d3]), ([(rg, .inr (5, [.int 0, .ref a1_14, .ref a2_15])), zAr T 0 a1_14 8 e1, zAr T 0 a2_15 8 e2]), rfl, hz3, hI2, hw_22, hw_23, (by rw [hRd]; exact h_27), (by rw [hRd]; exact h_28), (by rw [hRd]; exact zLc_fin hCC)⟩)
  · have c_24n : ¬ 600 < j := fun q => c_24 ((nI_ltI (a := 600) (b := j) (by omega) (by omega)).mpr q)
    refine lv_aload_n hx hb dX7_read_78 rfl (lv_at hl 1 rfl) ?_
    refine z_get C G clX7 3 rfl 11 (by decide) m_fl_RX7_55 rfl dX7_read_79 ?_
    refine lv_if_ne (tgt := 103) hx hb dX7_read_82 (by decide) (fun c_30 => ?_) (fun c_30 => ?_)
    · have c_30n : ¬ y7.toInt = (0 : Int) := fun q => c_30 ((fa_eq _ _).mpr q)
      have hX := pLines_o hj (by first | exact Or.inl (by omega) | exact Or.inr (Or.inl (by rw [← hA6A]; omega)) | exact Or.inr (Or.inr (pTk_0.mpr (by omega)))) hEq
      have hRd := pRead_e (n := N) hX
      refine lv_iload_n hx hb dX7_read_103 rfl (lv_at hl 2 rfl) ?_
      refine lv_if_ne (tgt := 111) hx hb dX7_read_104 (by decide) (fun q => absurd (by decide) q) (fun _ => ?_)
      refine lv_aload_n hx hb dX7_read_107 rfl (lv_at hl 1 rfl) ?_
      refine z_Vv (bc := [[zO7 rd rl rdd rg y0 y1 tp v_1 y3 y4 y5 y6 y7 y8], z3]) (br := [[(rdd, .inr (2, [.int 0, .ref a1_11, .ref a2_12, .ref a3_13])), zAr T 0 a1_11 40 d1, zAr T 0 a2_12 40 d2, zAr T 0 a3_13 40 d3], [(rg, .inr (5, [.int 0, .ref a1_14, .ref a2_15])), zAr T 0 a1_14 8 e1, zAr T 0 a2_15 8 e2], [zAr T 1 tp 600 ft]]) (As := []) (rest := []) C G (c_f_lookAtWhole l T rd rl rdd rg tp y0 y1 v_1 y3 y4 y5 y6 y7 y8 cc_ ci_ x1 x2 x3 x4 z3 ft k N A9 fr hz3 hI2 hBA hCC) (kV_RX7_81 C.2.2.2.2 (Nat.le_of_ble_eq_true rfl) (Nat.le_of_ble_eq_true rfl)) [3, 2] [2, 0] rfl rfl (ci := 7) (qc := (RX7, TX7, 13)) rfl rfl (List.mem_flatten.mpr ⟨_, List.mem_of_getElem? (i := 0) rfl, List.mem_cons_self⟩) rfl rfl hl.1 dX7_read_108 (Nat.le_of_ble_eq_true rfl) (Nat.le_of_ble_eq_true rfl) (fun b1 H locs hw G => ?_)
      refine zEx2 hw ?_
      intro u0_31 u1_32
      refine zCu3 ?_
      intro hbs9 h_33 h_34
      clear hw
      subst hbs9
      have G : zS T A s.heap s [[(rdd, .inr (2, [.int 0, .ref a1_11, .ref a2_12, .ref a3_13])), zAr T 0 a1_11 40 d1, zAr T 0 a2_12 40 d2, zAr T 0 a3_13 40 d3], [(rg, .inr (5, [.int 0, .ref a1_14, .ref a2_15])), zAr T 0 a1_14 8 e1, zAr T 0 a2_15 8 e2], [zAr T 1 tp 600 ft], [zO7 rd rl rdd rg u0_31 u1_32 tp v_1 y3 y4 y5 y6 y7 y8], z3] _ _ := G
      have G := G.sub (bs' := [[zO7 rd rl rdd rg u0_31 u1_32 tp v_1 y3 y4 y5 y6 y7 y8], [zAr T 1 tp 600 ft], z3, [(rdd, .inr (2, [.int 0, .ref a1_11, .ref a2_12, .ref a3_13])), zAr T 0 a1_11 40 d1, zAr T 0 a2_12 40 d2, zAr T 0 a3_13 40 d3], [(rg, .inr (5, [.int 0, .ref a1_14, .ref a2_15])), zAr T 0 a1_14 8 e1, zAr T 0 a2_15 8 e2]]) [3, 2, 4, 0, 1] rfl
      exact z_back hQz_ (z_vret C hr hlocks G (Nat.le_of_ble_eq_true rfl) (Nat.le_of_ble_eq_true rfl) dX7_read_111 ⟨v_1, u0_31, u1_32, y3, y4, y5, y6, y7, y8, z3, cc_, ci_, x1, x2, x3, x4, ([(rdd, .inr (2, [.int 0, .ref a1_11, .ref a2_12, .ref a3_13])), zAr T 0 a1_11 40 d1, zAr T 0 a2_12 40 d2, zAr T 0 a3_13 40 d3]), ([(rg, .inr (5, [.int 0, .ref a1_14, .ref a2_15])), zAr T 0 a1_14 8 e1, zAr T 0 a2_15 8 e2]), rfl, hz3, hI2, hw_22, hw_23, (by rw [hRd]; exact h_33), (by rw [hRd]; exact h_34), (by rw [hRd]; exact zLc_fin hCC)⟩)
    · have c_30n : y7.toInt = (0 : Int) := (fa_eq _ _).mp c_30
      have hwA : A9.2.1.toInt = 0 := by rw [← hA6A]; omega
      obtain ⟨t3A, t4A, t5A, t6A⟩ := hA7A hwA
      have t4iA : y4.toInt = (pCl k A9.1 : Int) := by rw [t4A]; exact nI_toInt (by omega)
      refine lv_aload_n hx hb dX7_read_85 rfl (lv_at hl 1 rfl) ?_
      refine z_get C G clX7 3 rfl 8 (by decide) m_fl_RX7_74 rfl dX7_read_86 ?_
      refine lv_if_eq (tgt := 103) hx hb dX7_read_89 (by decide) (fun c_36 => ?_) (fun c_36 => ?_)
      · have c_36n : y4.toInt = (0 : Int) := (fa_eq _ _).mp c_36
        have hX := pLines_o hj (by first | exact Or.inl (by omega) | exact Or.inr (Or.inl (by rw [← hA6A]; omega)) | exact Or.inr (Or.inr (pTk_0.mpr (by omega)))) hEq
        have hRd := pRead_e (n := N) hX
        refine lv_iload_n hx hb dX7_read_103 rfl (lv_at hl 2 rfl) ?_
        refine lv_if_ne (tgt := 111) hx hb dX7_read_104 (by decide) (fun q => absurd (by decide) q) (fun _ => ?_)
        refine lv_aload_n hx hb dX7_read_107 rfl (lv_at hl 1 rfl) ?_
        refine z_Vv (bc := [[zO7 rd rl rdd rg y0 y1 tp v_1 y3 y4 y5 y6 y7 y8], z3]) (br := [[(rdd, .inr (2, [.int 0, .ref a1_11, .ref a2_12, .ref a3_13])), zAr T 0 a1_11 40 d1, zAr T 0 a2_12 40 d2, zAr T 0 a3_13 40 d3], [(rg, .inr (5, [.int 0, .ref a1_14, .ref a2_15])), zAr T 0 a1_14 8 e1, zAr T 0 a2_15 8 e2], [zAr T 1 tp 600 ft]]) (As := []) (rest := []) C G (c_f_lookAtWhole l T rd rl rdd rg tp y0 y1 v_1 y3 y4 y5 y6 y7 y8 cc_ ci_ x1 x2 x3 x4 z3 ft k N A9 fr hz3 hI2 hBA hCC) (kV_RX7_81 C.2.2.2.2 (Nat.le_of_ble_eq_true rfl) (Nat.le_of_ble_eq_true rfl)) [3, 2] [2, 0] rfl rfl (ci := 7) (qc := (RX7, TX7, 13)) rfl rfl (List.mem_flatten.mpr ⟨_, List.mem_of_getElem? (i := 0) rfl, List.mem_cons_self⟩) rfl rfl hl.1 dX7_read_108 (Nat.le_of_ble_eq_true rfl) (Nat.le_of_ble_eq_true rfl) (fun b1 H locs hw G => ?_)
        refine zEx2 hw ?_
        intro u0_37 u1_38
        refine zCu3 ?_
        intro hbs9 h_39 h_40
        clear hw
        subst hbs9
        have G : zS T A s.heap s [[(rdd, .inr (2, [.int 0, .ref a1_11, .ref a2_12, .ref a3_13])), zAr T 0 a1_11 40 d1, zAr T 0 a2_12 40 d2, zAr T 0 a3_13 40 d3], [(rg, .inr (5, [.int 0, .ref a1_14, .ref a2_15])), zAr T 0 a1_14 8 e1, zAr T 0 a2_15 8 e2], [zAr T 1 tp 600 ft], [zO7 rd rl rdd rg u0_37 u1_38 tp v_1 y3 y4 y5 y6 y7 y8], z3] _ _ := G
        have G := G.sub (bs' := [[zO7 rd rl rdd rg u0_37 u1_38 tp v_1 y3 y4 y5 y6 y7 y8], [zAr T 1 tp 600 ft], z3, [(rdd, .inr (2, [.int 0, .ref a1_11, .ref a2_12, .ref a3_13])), zAr T 0 a1_11 40 d1, zAr T 0 a2_12 40 d2, zAr T 0 a3_13 40 d3], [(rg, .inr (5, [.int 0, .ref a1_14, .ref a2_15])), zAr T 0 a1_14 8 e1, zAr T 0 a2_15 8 e2]]) [3, 2, 4, 0, 1] rfl
        exact z_back hQz_ (z_vret C hr hlocks G (Nat.le_of_ble_eq_true rfl) (Nat.le_of_ble_eq_true rfl) dX7_read_111 ⟨v_1, u0_37, u1_38, y3, y4, y5, y6, y7, y8, z3, cc_, ci_, x1, x2, x3, x4, ([(rdd, .inr (2, [.int 0, .ref a1_11, .ref a2_12, .ref a3_13])), zAr T 0 a1_11 40 d1, zAr T 0 a2_12 40 d2, zAr T 0 a3_13 40 d3]), ([(rg, .inr (5, [.int 0, .ref a1_14, .ref a2_15])), zAr T 0 a1_14 8 e1, zAr T 0 a2_15 8 e2]), rfl, hz3, hI2, hw_22, hw_23, (by rw [hRd]; exact h_39), (by rw [hRd]; exact h_40), (by rw [hRd]; exact zLc_fin hCC)⟩)
      · have c_36n : ¬ y4.toInt = (0 : Int) := fun q => c_36 ((fa_eq _ _).mpr q)
        have htA : ¬ pTk k A9.1 = 0 := fun z9 => by have := pTk_0.mp z9; omega
        refine lv_aload_n hx hb dX7_read_92 rfl (lv_at hl 1 rfl) ?_
        refine lv_iload_n hx hb dX7_read_93 rfl (lv_at hl 2 rfl) ?_
        refine z_Vv (bc := [[zO7 rd rl rdd rg y0 y1 tp v_1 y3 y4 y5 y6 y7 y8], [zAr T 1 tp 600 ft], z3]) (br := [[(rdd, .inr (2, [.int 0, .ref a1_11, .ref a2_12, .ref a3_13])), zAr T 0 a1_11 40 d1, zAr T 0 a2_12 40 d2, zAr T 0 a3_13 40 d3], [(rg, .inr (5, [.int 0, .ref a1_14, .ref a2_15])), zAr T 0 a1_14 8 e1, zAr T 0 a2_15 8 e2]]) (As := [.int 0]) (rest := []) C G (c_f_readLine0 l T rd rl rdd rg tp y0 y1 v_1 y3 y4 y5 y6 y7 y8 ft cc_ ci_ x1 x2 x3 x4 z3 k N A9 fr hBA hwA hz3 hI2 hCC) (kV_RX7_77 C.2.2.2.2 (Nat.le_of_ble_eq_true rfl) (Nat.le_of_ble_eq_true rfl)) [3, 4, 2] [2, 0, 0] rfl rfl (ci := 7) (qc := (RX7, TX7, 13)) rfl rfl (List.mem_flatten.mpr ⟨_, List.mem_of_getElem? (i := 0) rfl, List.mem_cons_self⟩) rfl rfl hl.1 dX7_read_94 (Nat.le_of_ble_eq_true rfl) (Nat.le_of_ble_eq_true rfl) (fun b1 H locs hw G => ?_)
        refine zEx15 hw ?_
        intro u0_42 u1_43 u3_44 u4_45 u5_46 u6_47 u7_48 u8_49 z2_50 c2_51 i2_52 j1_53 j2_54 j3_55 j4_56
        refine zCu5 ?_
        intro hbs9 h_57 h_58 h_59 h_60
        clear hw
        subst hbs9
        have G : zS T A s.heap s [[(rdd, .inr (2, [.int 0, .ref a1_11, .ref a2_12, .ref a3_13])), zAr T 0 a1_11 40 d1, zAr T 0 a2_12 40 d2, zAr T 0 a3_13 40 d3], [(rg, .inr (5, [.int 0, .ref a1_14, .ref a2_15])), zAr T 0 a1_14 8 e1, zAr T 0 a2_15 8 e2], [zO7 rd rl rdd rg u0_42 u1_43 tp v_1 u3_44 u4_45 u5_46 u6_47 u7_48 u8_49], [zAr T 1 tp 600 ft], z2_50] _ _ := G
        have hnR := h_59
        have hnC := h_60
        have hnI := h_58
        refine lv_iinc (v := nI (j + 1)) (lv' := [(4, .int (nI (j + 1))), (0, .ref rd), (3, .int 0)]) hx hb dX7_read_97 hl (k := 0) rfl (z_inc j 1) (by decide) (zLvf_h rfl) (fun ls hl => ?_)
        refine lv_goto (tgt := 70) hx hb dX7_read_100 (by decide) ?_
        have G := G.sub (bs' := [[(rdd, .inr (2, [.int 0, .ref a1_11, .ref a2_12, .ref a3_13])), zAr T 0 a1_11 40 d1, zAr T 0 a2_12 40 d2, zAr T 0 a3_13 40 d3], [(rg, .inr (5, [.int 0, .ref a1_14, .ref a2_15])), zAr T 0 a1_14 8 e1, zAr T 0 a2_15 8 e2], z2_50, [zO7 rd rl rdd rg u0_42 u1_43 tp v_1 u3_44 u4_45 u5_46 u6_47 u7_48 u8_49], [zAr T 1 tp 600 ft]]) [0, 1, 4, 2, 3] rfl
        exact ih_70 (j + 1) ((pLine k 0 A9 fr).1) ((pLine k 0 A9 fr).2) u0_42 u1_43 u3_44 u4_45 u5_46 u6_47 u7_48 u8_49 z2_50 c2_51 i2_52 j1_53 j2_54 j3_55 j4_56 (show bLand T rl c2_51 i2_52 j1_53 j2_54 j3_55 j4_56 z2_50 ∧ (j + 1) ≤ 601 ∧ zRc k N ft u0_42 u1_43 v_1 u3_44 u4_45 u5_46 u6_47 u7_48 ((pLine k 0 A9 fr).1) ∧ pLines k 0 (601 - (j + 1)) ((pLine k 0 A9 fr).1) ((pLine k 0 A9 fr).2) = pLines k 0 601 (0, 0, 0, -1, -1) (fun _ => 0) ∧ zLc c2_51 i2_52 j1_53 j2_54 j3_55 j4_56 u8_49 ((pLine k 0 A9 fr).1) ((pLine k 0 A9 fr).2) ∧ zLI c2_51 j1_53 j3_55 from ⟨h_57, by omega, hnR, (pLines_n (by omega) hwA htA hEq), hnC, hnI⟩) (show 601 - (j + 1) < 601 - j from by omega) _ _ ls G (lv_sub hl [0, 1, 2] rfl)
set_option maxHeartbeats 4000000 in
set_option maxRecDepth 100000 in
/-- c_f_read1 -/
theorem c_f_read1 (l : Launch) (T : zTy) (rd : Nat) (rl : Nat) (rdd : Nat) (rg : Nat) (tp : Nat) (r0 : Int32) (r1 : Int32) (r2 : Int32) (r3 : Int32) (r4 : Int32) (r5 : Int32) (r6 : Int32) (r7 : Int32) (r8 : Int32) (tq : Nat) (ft : Nat → Int32) (cr : Int32) (inn : Int32) (k1 : Nat → Int32) (k2 : Nat → Int32) (k3 : Nat → Int32) (k4 : Nat → Int32) (z : va_W) (dd : Int32) (d1 : Nat → Int32) (d2 : Nat → Int32) (d3 : Nat → Int32) (wd : va_W) (gg : Int32) (e1 : Nat → Int32) (e2 : Nat → Int32) (wg : va_W) (n : Int32) (k : pT) (N : Nat) (hz : bLand T rl cr inn k1 k2 k3 k4 z) (hd : bDay T rdd dd d1 d2 d3 wd) (hg : bLog T rg gg e1 e2 wg) (hN : n = nI N) (hN6 : N ≤ 600) (hk : k = tkT ft N) : zMv l T yX7_read cX7_read 5 8 0 0 [.ref rd, .ref tp, .int n, .int 1] [[zO7 rd rl rdd rg r0 r1 tq r2 r3 r4 r5 r6 r7 r8], [zAr T 1 tp 600 ft], z, wd, wg] (fun bs => ∃ (u2 : Int32) (u0 : Int32) (u1 : Int32) (u3 : Int32) (u4 : Int32) (u5 : Int32) (u6 : Int32) (u7 : Int32) (u8 : Int32) (z2 : va_W) (j1 : Nat → Int32) (j2 : Nat → Int32) (j3 : Nat → Int32) (j4 : Nat → Int32) (wd2 : va_W) (dd2 : Int32) (b1 : Nat → Int32) (b2 : Nat → Int32) (b3 : Nat → Int32) (wg2 : va_W), bs = [[zO7 rd rl rdd rg u0 u1 tp u2 u3 u4 u5 u6 u7 u8], [zAr T 1 tp 600 ft], z2, wd2, wg2] ∧ bLand T rl 0 0 j1 j2 j3 j4 z2 ∧ zLI 0 j1 j3 ∧ bDay T rdd dd2 b1 b2 b3 wd2 ∧ bLog T rg 0 e1 e2 wg2 ∧ u0 = (pRead k N 1).1.2.2.1 ∧ u1 = (pRead k N 1).1.2.2.2.1 ∧ zDc dd2 b1 b2 b3 (pRead k N 1).1 (pRead k N 1).2) := by
  refine zMv_of (own := RX7) (by decide) rfl (Nat.le_of_ble_eq_true rfl) ?_
  intro p e s m args below meth c A ls C hr hlocks hnm hAe G hl
  refine zHide (fun Qz_ hQz_ => ?_)
  have hx := C.1
  have hb := C.2.1
  have hl : lv_has ls 5 [(0, .ref rd), (1, .ref tp), (2, .int n), (3, .int 1)] := hl
  refine lv_aload_n hx hb dX7_read_0 rfl (lv_at hl 0 rfl) ?_
  refine lv_aload_n hx hb dX7_read_1 rfl (lv_at hl 1 rfl) ?_
  refine z_put C G clX7 0 rfl 5 (by decide) m_fl_RX7_32 rfl rfl rfl (Nat.le_of_ble_eq_true rfl) dX7_read_2 (fun H locs G => ?_)
  have G : zS T A s.heap s [[zO7 rd rl rdd rg r0 r1 tp r2 r3 r4 r5 r6 r7 r8], [zAr T 1 tp 600 ft], z, wd, wg] _ _ := G
  refine lv_aload_n hx hb dX7_read_5 rfl (lv_at hl 0 rfl) ?_
  refine lv_iload_n hx hb dX7_read_6 rfl (lv_at hl 2 rfl) ?_
  refine lv_aload_n hx hb dX7_read_7 rfl (lv_at hl 1 rfl) ?_
  refine z_alen C G 1 1 rfl (v := 600) rfl rfl dX7_read_8 ?_
  refine va_mmin hx hb (C.2.2.1.trans hl.1.symm) C.2.2.2.1 (C.2.2.2.2 _ m_ml_RX7_36) (C.2.2.2.2 _ m_st_math_min) (C.2.2.2.2 _ m_ii_math) (C.2.2.2.2 _ m_co_math_min) (Nat.le_of_ble_eq_true rfl) (Nat.le_of_ble_eq_true rfl) (Nat.le_of_ble_eq_true rfl) (Nat.le_of_ble_eq_true rfl) dX7_read_9 ?_
  refine lv_topi (fun v_1 ev_1 => ?_)
  have hlen : v_1 = nI N := by rw [ev_1, if_neg (fun z9 => by have z8 := (fa_lt _ _).mp z9; rw [hN, nI_toInt (by omega)] at z8; have z7 : (600 : Int32).toInt = 600 := rfl; omega)]; exact hN
  refine z_put C G clX7 0 rfl 6 (by decide) m_fl_RX7_42 rfl rfl rfl (Nat.le_of_ble_eq_true rfl) dX7_read_12 (fun H locs G => ?_)
  have G : zS T A s.heap s [[zO7 rd rl rdd rg r0 r1 tp v_1 r3 r4 r5 r6 r7 r8], [zAr T 1 tp 600 ft], z, wd, wg] _ _ := G
  refine lv_aload_n hx hb dX7_read_15 rfl (lv_at hl 0 rfl) ?_
  refine lv_iconst (v := 0) hx hb dX7_read_16 (by decide) ?_
  refine z_put C G clX7 0 rfl 7 (by decide) m_fl_RX7_46 rfl rfl rfl (Nat.le_of_ble_eq_true rfl) dX7_read_17 (fun H locs G => ?_)
  have G : zS T A s.heap s [[zO7 rd rl rdd rg r0 r1 tp v_1 0 r4 r5 r6 r7 r8], [zAr T 1 tp 600 ft], z, wd, wg] _ _ := G
  refine lv_aload_n hx hb dX7_read_20 rfl (lv_at hl 0 rfl) ?_
  refine lv_iconst (v := 0) hx hb dX7_read_21 (by decide) ?_
  refine z_put C G clX7 0 rfl 3 (by decide) m_fl_RX7_49 rfl rfl rfl (Nat.le_of_ble_eq_true rfl) dX7_read_22 (fun H locs G => ?_)
  have G : zS T A s.heap s [[zO7 rd rl rdd rg 0 r1 tp v_1 0 r4 r5 r6 r7 r8], [zAr T 1 tp 600 ft], z, wd, wg] _ _ := G
  refine lv_aload_n hx hb dX7_read_25 rfl (lv_at hl 0 rfl) ?_
  refine lv_iconst (v := (-1)) hx hb dX7_read_26 (by decide) ?_
  refine z_put C G clX7 0 rfl 4 (by decide) m_fl_RX7_52 rfl rfl rfl (Nat.le_of_ble_eq_true rfl) dX7_read_27 (fun H locs G => ?_)
  have G : zS T A s.heap s [[zO7 rd rl rdd rg 0 (-1) tp v_1 0 r4 r5 r6 r7 r8], [zAr T 1 tp 600 ft], z, wd, wg] _ _ := G
  refine lv_aload_n hx hb dX7_read_30 rfl (lv_at hl 0 rfl) ?_
  refine lv_iconst (v := 0) hx hb dX7_read_31 (by decide) ?_
  refine z_put C G clX7 0 rfl 11 (by decide) m_fl_RX7_55 rfl rfl rfl (Nat.le_of_ble_eq_true rfl) dX7_read_32 (fun H locs G => ?_)
  have G : zS T A s.heap s [[zO7 rd rl rdd rg 0 (-1) tp v_1 0 r4 r5 r6 0 r8], [zAr T 1 tp 600 ft], z, wd, wg] _ _ := G
  refine lv_aload_n hx hb dX7_read_35 rfl (lv_at hl 0 rfl) ?_
  refine lv_iconst (v := 0) hx hb dX7_read_36 (by decide) ?_
  refine z_put C G clX7 0 rfl 12 (by decide) m_fl_RX7_59 rfl rfl rfl (Nat.le_of_ble_eq_true rfl) dX7_read_37 (fun H locs G => ?_)
  have G : zS T A s.heap s [[zO7 rd rl rdd rg 0 (-1) tp v_1 0 r4 r5 r6 0 0], [zAr T 1 tp 600 ft], z, wd, wg] _ _ := G
  refine lv_aload_n hx hb dX7_read_40 rfl (lv_at hl 0 rfl) ?_
  refine z_get C G clX7 0 rfl 0 (by decide) m_fl_RX7_12 rfl dX7_read_41 ?_
  refine z_Vv (bc := [z]) (br := [[zO7 rd rl rdd rg 0 (-1) tp v_1 0 r4 r5 r6 0 0], [zAr T 1 tp 600 ft], wd, wg]) (As := []) (rest := []) C G (c_Land_clear l T rl cr inn k1 k2 k3 k4 z hz) (kV_RX7_62 C.2.2.2.2 (Nat.le_of_ble_eq_true rfl) (Nat.le_of_ble_eq_true rfl)) [2] [2] rfl rfl (ci := 4) (qc := (RX4, TX4, 6)) rfl rfl (List.mem_flatten.mpr ⟨_, List.mem_of_getElem? (i := 0) rfl, (bLand_mem hz).choose_spec⟩) rfl rfl hl.1 dX7_read_44 (Nat.le_of_ble_eq_true rfl) (Nat.le_of_ble_eq_true rfl) (fun b1 H locs hw G => ?_)
  refine zEx4 hw ?_
  intro w2_2 g1_3 g3_4 g4_5
  refine zCu5 ?_
  intro hbs9 h_6 h_7 h_8 h_9
  clear hw
  subst hbs9
  have G : zS T A s.heap s [[zO7 rd rl rdd rg 0 (-1) tp v_1 0 r4 r5 r6 0 0], [zAr T 1 tp 600 ft], wd, wg, w2_2] _ _ := G
  have hI : zLI 0 g1_3 g3_4 := zLI_zero h_7 h_8
  refine lv_aload_n hx hb dX7_read_47 rfl (lv_at hl 0 rfl) ?_
  refine z_get C G clX7 0 rfl 1 (by decide) m_fl_RX7_21 rfl dX7_read_48 ?_
  refine lv_iconst (v := 0) hx hb dX7_read_51 (by decide) ?_
  refine zEx3 hd ?_
  intro a1_11 a2_12 a3_13 hbs9
  clear hd
  subst hbs9
  have G : zS T A s.heap s [[zO7 rd rl rdd rg 0 (-1) tp v_1 0 r4 r5 r6 0 0], [zAr T 1 tp 600 ft], [(rdd, .inr (2, [.int dd, .ref a1_11, .ref a2_12, .ref a3_13]))], [zAr T 0 a1_11 40 d1], [zAr T 0 a2_12 40 d2], [zAr T 0 a3_13 40 d3], wg, w2_2] _ _ := G.re rfl
  refine z_put C G clX2 2 rfl 0 (by decide) m_fl_RX7_65 rfl rfl rfl (Nat.le_of_ble_eq_true rfl) dX7_read_52 (fun H locs G => ?_)
  have G : zS T A s.heap s [[zO7 rd rl rdd rg 0 (-1) tp v_1 0 r4 r5 r6 0 0], [zAr T 1 tp 600 ft], [(rdd, .inr (2, [.int 0, .ref a1_11, .ref a2_12, .ref a3_13]))], [zAr T 0 a1_11 40 d1], [zAr T 0 a2_12 40 d2], [zAr T 0 a3_13 40 d3], wg, w2_2] _ _ := G
  refine lv_aload_n hx hb dX7_read_55 rfl (lv_at hl 0 rfl) ?_
  refine z_get C G clX7 0 rfl 2 (by decide) m_fl_RX7_28 rfl dX7_read_56 ?_
  refine lv_iconst (v := 0) hx hb dX7_read_59 (by decide) ?_
  refine zEx2 hg ?_
  intro a1_14 a2_15 hbs9
  clear hg
  subst hbs9
  have G : zS T A s.heap s [[zO7 rd rl rdd rg 0 (-1) tp v_1 0 r4 r5 r6 0 0], [zAr T 1 tp 600 ft], [(rdd, .inr (2, [.int 0, .ref a1_11, .ref a2_12, .ref a3_13]))], [zAr T 0 a1_11 40 d1], [zAr T 0 a2_12 40 d2], [zAr T 0 a3_13 40 d3], [(rg, .inr (5, [.int gg, .ref a1_14, .ref a2_15]))], [zAr T 0 a1_14 8 e1], [zAr T 0 a2_15 8 e2], w2_2] _ _ := G.re rfl
  refine z_put C G clX5 6 rfl 0 (by decide) m_fl_RX7_68 rfl rfl rfl (Nat.le_of_ble_eq_true rfl) dX7_read_60 (fun H locs G => ?_)
  have G : zS T A s.heap s [[zO7 rd rl rdd rg 0 (-1) tp v_1 0 r4 r5 r6 0 0], [zAr T 1 tp 600 ft], [(rdd, .inr (2, [.int 0, .ref a1_11, .ref a2_12, .ref a3_13]))], [zAr T 0 a1_11 40 d1], [zAr T 0 a2_12 40 d2], [zAr T 0 a3_13 40 d3], [(rg, .inr (5, [.int 0, .ref a1_14, .ref a2_15]))], [zAr T 0 a1_14 8 e1], [zAr T 0 a2_15 8 e2], w2_2] _ _ := G
  refine lv_aload_n hx hb dX7_read_63 rfl (lv_at hl 0 rfl) ?_
  refine z_Vv (bc := [[zO7 rd rl rdd rg 0 (-1) tp v_1 0 r4 r5 r6 0 0], [zAr T 1 tp 600 ft]]) (br := [[(rdd, .inr (2, [.int 0, .ref a1_11, .ref a2_12, .ref a3_13]))], [zAr T 0 a1_11 40 d1], [zAr T 0 a2_12 40 d2], [zAr T 0 a3_13 40 d3], [(rg, .inr (5, [.int 0, .ref a1_14, .ref a2_15]))], [zAr T 0 a1_14 8 e1], [zAr T 0 a2_15 8 e2], w2_2]) (As := []) (rest := []) C G (c_f_nextToken l T rd rl rdd rg tp 0 (-1) v_1 0 r4 r5 r6 0 0 ft 0 N k rfl (Nat.zero_le _) hk hlen hN6) (kV_RX7_71 C.2.2.2.2 (Nat.le_of_ble_eq_true rfl) (Nat.le_of_ble_eq_true rfl)) [0, 1] [0, 0] rfl rfl (ci := 7) (qc := (RX7, TX7, 13)) rfl rfl (List.mem_flatten.mpr ⟨_, List.mem_of_getElem? (i := 0) rfl, List.mem_cons_self⟩) rfl rfl hl.1 dX7_read_64 (Nat.le_of_ble_eq_true rfl) (Nat.le_of_ble_eq_true rfl) (fun b1 H locs hw G => ?_)
  refine zEx4 hw ?_
  intro u3_16 u4_17 u5_18 u6_19
  refine zCu2 ?_
  intro hbs9 h_20
  clear hw
  subst hbs9
  have G : zS T A s.heap s [[(rdd, .inr (2, [.int 0, .ref a1_11, .ref a2_12, .ref a3_13]))], [zAr T 0 a1_11 40 d1], [zAr T 0 a2_12 40 d2], [zAr T 0 a3_13 40 d3], [(rg, .inr (5, [.int 0, .ref a1_14, .ref a2_15]))], [zAr T 0 a1_14 8 e1], [zAr T 0 a2_15 8 e2], w2_2, [zO7 rd rl rdd rg 0 (-1) tp v_1 u3_16 u4_17 u5_18 u6_19 0 0], [zAr T 1 tp 600 ft]] _ _ := G
  refine lv_iconst (v := 0) hx hb dX7_read_67 (by decide) ?_
  refine lv_istore (lv' := [(4, .int 0), (0, .ref rd), (1, .ref tp), (2, .int n), (3, .int 1)]) hx hb dX7_read_68 hl (by decide) (zLvf_h rfl) (fun ls hl => ?_)
  have hw_22 : bDay T rdd 0 d1 d2 d3 [(rdd, .inr (2, [.int 0, .ref a1_11, .ref a2_12, .ref a3_13])), zAr T 0 a1_11 40 d1, zAr T 0 a2_12 40 d2, zAr T 0 a3_13 40 d3] := ⟨a1_11, a2_12, a3_13, rfl⟩
  have G : zS T A s.heap s [[(rdd, .inr (2, [.int 0, .ref a1_11, .ref a2_12, .ref a3_13])), zAr T 0 a1_11 40 d1, zAr T 0 a2_12 40 d2, zAr T 0 a3_13 40 d3], [(rg, .inr (5, [.int 0, .ref a1_14, .ref a2_15]))], [zAr T 0 a1_14 8 e1], [zAr T 0 a2_15 8 e2], w2_2, [zO7 rd rl rdd rg 0 (-1) tp v_1 u3_16 u4_17 u5_18 u6_19 0 0], [zAr T 1 tp 600 ft]] _ _ := G.re rfl
  have hw_23 : bLog T rg 0 e1 e2 [(rg, .inr (5, [.int 0, .ref a1_14, .ref a2_15])), zAr T 0 a1_14 8 e1, zAr T 0 a2_15 8 e2] := ⟨a1_14, a2_15, rfl⟩
  have G : zS T A s.heap s [[(rdd, .inr (2, [.int 0, .ref a1_11, .ref a2_12, .ref a3_13])), zAr T 0 a1_11 40 d1, zAr T 0 a2_12 40 d2, zAr T 0 a3_13 40 d3], [(rg, .inr (5, [.int 0, .ref a1_14, .ref a2_15])), zAr T 0 a1_14 8 e1, zAr T 0 a2_15 8 e2], w2_2, [zO7 rd rl rdd rg 0 (-1) tp v_1 u3_16 u4_17 u5_18 u6_19 0 0], [zAr T 1 tp 600 ft]] _ _ := G.re rfl
  refine z_lp16 (T := T) 70 (fun (j : Nat) (A9 : pS) (fr : Nat → Int32) (y0 : Int32) (y1 : Int32) (y3 : Int32) (y4 : Int32) (y5 : Int32) (y6 : Int32) (y7 : Int32) (y8 : Int32) (wd3 : va_W) (dd3 : Int32) (v1 : Nat → Int32) (v2 : Nat → Int32) (v3 : Nat → Int32) => [wd3, [(rg, .inr (5, [.int 0, .ref a1_14, .ref a2_15])), zAr T 0 a1_14 8 e1, zAr T 0 a2_15 8 e2], w2_2, [zO7 rd rl rdd rg y0 y1 tp v_1 y3 y4 y5 y6 y7 y8], [zAr T 1 tp 600 ft]]) (fun (j : Nat) (A9 : pS) (fr : Nat → Int32) (y0 : Int32) (y1 : Int32) (y3 : Int32) (y4 : Int32) (y5 : Int32) (y6 : Int32) (y7 : Int32) (y8 : Int32) (wd3 : va_W) (dd3 : Int32) (v1 : Nat → Int32) (v2 : Nat → Int32) (v3 : Nat → Int32) => [(4, .int (nI j)), (0, .ref rd), (3, .int 1)]) (fun (j : Nat) (A9 : pS) (fr : Nat → Int32) (y0 : Int32) (y1 : Int32) (y3 : Int32) (y4 : Int32) (y5 : Int32) (y6 : Int32) (y7 : Int32) (y8 : Int32) (wd3 : va_W) (dd3 : Int32) (v1 : Nat → Int32) (v2 : Nat → Int32) (v3 : Nat → Int32) => bDay T rdd dd3 v1 v2 v3 wd3 ∧ j ≤ 601 ∧ zRc k N ft y0 y1 v_1 y3 y4 y5 y6 y7 A9 ∧ pLines k 1 (601 - j) A9 fr = pLines k 1 601 (0, 0, 0, -1, -1) (fun _ => 0) ∧ zDc dd3 v1 v2 v3 A9 fr) (fun (j : Nat) (A9 : pS) (fr : Nat → Int32) (y0 : Int32) (y1 : Int32) (y3 : Int32) (y4 : Int32) (y5 : Int32) (y6 : Int32) (y7 : Int32) (y8 : Int32) (wd3 : va_W) (dd3 : Int32) (v1 : Nat → Int32) (v2 : Nat → Int32) (v3 : Nat → Int32) => 601 - j) ?_ 0 (0, 0, 0, -1, -1) (fun _ => 0) 0 (-1) u3_16 u4_17 u5_18 u6_19 0 0 ([(rdd, .inr (2, [.int 0, .ref a1_11, .ref a2_12, .ref a3_13])), zAr T 0 a1_11 40 d1, zAr T 0 a2_12 40 d2, zAr T 0 a3_13 40 d3]) 0 d1 d2 d3 (show bDay T rdd 0 d1 d2 d3 ([(rdd, .inr (2, [.int 0, .ref a1_11, .ref a2_12, .ref a3_13])), zAr T 0 a1_11 40 d1, zAr T 0 a2_12 40 d2, zAr T 0 a3_13 40 d3]) ∧ 0 ≤ 601 ∧ zRc k N ft 0 (-1) v_1 u3_16 u4_17 u5_18 u6_19 0 (0, 0, 0, -1, -1) ∧ pLines k 1 (601 - 0) (0, 0, 0, -1, -1) (fun _ => 0) = pLines k 1 601 (0, 0, 0, -1, -1) (fun _ => 0) ∧ zDc 0 d1 d2 d3 (0, 0, 0, -1, -1) (fun _ => 0) from ⟨hw_22, by omega, (zRc_st hk hN6 hlen h_20), rfl, zDc_st⟩) G (lv_sub hl [0, 1, 4] rfl)
  intro j A9 fr y0 y1 y3 y4 y5 y6 y7 y8 wd3 dd3 v1 v2 v3 hI9 ih_70 H locs ls G hl
  replace hI9 : bDay T rdd dd3 v1 v2 v3 wd3 ∧ j ≤ 601 ∧ zRc k N ft y0 y1 v_1 y3 y4 y5 y6 y7 A9 ∧ pLines k 1 (601 - j) A9 fr = pLines k 1 601 (0, 0, 0, -1, -1) (fun _ => 0) ∧ zDc dd3 v1 v2 v3 A9 fr := hI9
  refine zAn5 hI9 ?_
  intro hd3 hj hBA hEq hCC
  clear hI9
  replace G : zS T A s.heap s [wd3, [(rg, .inr (5, [.int 0, .ref a1_14, .ref a2_15])), zAr T 0 a1_14 8 e1, zAr T 0 a2_15 8 e2], w2_2, [zO7 rd rl rdd rg y0 y1 tp v_1 y3 y4 y5 y6 y7 y8], [zAr T 1 tp 600 ft]] _ _ := G
  replace hl : lv_has ls 5 [(4, .int (nI j)), (0, .ref rd), (3, .int 1)] := hl
  refine lv_iload hx hb dX7_read_70 (lv_at hl 0 rfl) ?_
  have hokA := zRc_ok hBA
  obtain ⟨hA1A, hA6A, hA7A, hA8A, hA9A, hAIA, hAEA⟩ := id hBA
  have hkaA := hokA A9.1 hA1A.2.2.2
  refine lv_sipush (v := 600) hx hb dX7_read_72 (by decide) ?_
  refine lv_icmp_gt (tgt := 103) hx hb dX7_read_75 (by decide) (fun c_24 => ?_) (fun c_24 => ?_)
  · have c_24n : 600 < j := (nI_ltI (a := 600) (b := j) (by omega) (by omega)).mp c_24
    have hX := pLines_o hj (by first | exact Or.inl (by omega) | exact Or.inr (Or.inl (by rw [← hA6A]; omega)) | exact Or.inr (Or.inr (pTk_0.mpr (by omega)))) hEq
    have hRd := pRead_e (n := N) hX
    refine lv_iload_n hx hb dX7_read_103 rfl (lv_at hl 2 rfl) ?_
    refine lv_if_ne (tgt := 111) hx hb dX7_read_104 (by decide) (fun _ => ?_) (fun q => absurd q (by decide))
    have G := G.sub (bs' := [[zO7 rd rl rdd rg y0 y1 tp v_1 y3 y4 y5 y6 y7 y8], [zAr T 1 tp 600 ft], w2_2, wd3, [(rg, .inr (5, [.int 0, .ref a1_14, .ref a2_15])), zAr T 0 a1_14 8 e1, zAr T 0 a2_15 8 e2]]) [3, 4, 2, 0, 1] rfl
    exact z_back hQz_ (z_vret C hr hlocks G (Nat.le_of_ble_eq_true rfl) (Nat.le_of_ble_eq_true rfl) dX7_read_111 ⟨v_1, y0, y1, y3, y4, y5, y6, y7, y8, w2_2, g1_3, k2, g3_4, g4_5, wd3, dd3, v1, v2, v3, ([(rg, .inr (5, [.int 0, .ref a1_14, .ref a2_15])), zAr T 0 a1_14 8 e1, zAr T 0 a2_15 8 e2]), rfl, h_6, hI, hd3, hw_23, (by rw [hRd, pFin_s (by decide)]; exact hA8A), (by rw [hRd, pFin_s (by decide)]; exact hA9A), (by rw [hRd, pFin_s (by decide)]; exact hCC)⟩)
  · have c_24n : ¬ 600 < j := fun q => c_24 ((nI_ltI (a := 600) (b := j) (by omega) (by omega)).mpr q)
    refine lv_aload_n hx hb dX7_read_78 rfl (lv_at hl 1 rfl) ?_
    refine z_get C G clX7 3 rfl 11 (by decide) m_fl_RX7_55 rfl dX7_read_79 ?_
    refine lv_if_ne (tgt := 103) hx hb dX7_read_82 (by decide) (fun c_25 => ?_) (fun c_25 => ?_)
    · have c_25n : ¬ y7.toInt = (0 : Int) := fun q => c_25 ((fa_eq _ _).mpr q)
      have hX := pLines_o hj (by first | exact Or.inl (by omega) | exact Or.inr (Or.inl (by rw [← hA6A]; omega)) | exact Or.inr (Or.inr (pTk_0.mpr (by omega)))) hEq
      have hRd := pRead_e (n := N) hX
      refine lv_iload_n hx hb dX7_read_103 rfl (lv_at hl 2 rfl) ?_
      refine lv_if_ne (tgt := 111) hx hb dX7_read_104 (by decide) (fun _ => ?_) (fun q => absurd q (by decide))
      have G := G.sub (bs' := [[zO7 rd rl rdd rg y0 y1 tp v_1 y3 y4 y5 y6 y7 y8], [zAr T 1 tp 600 ft], w2_2, wd3, [(rg, .inr (5, [.int 0, .ref a1_14, .ref a2_15])), zAr T 0 a1_14 8 e1, zAr T 0 a2_15 8 e2]]) [3, 4, 2, 0, 1] rfl
      exact z_back hQz_ (z_vret C hr hlocks G (Nat.le_of_ble_eq_true rfl) (Nat.le_of_ble_eq_true rfl) dX7_read_111 ⟨v_1, y0, y1, y3, y4, y5, y6, y7, y8, w2_2, g1_3, k2, g3_4, g4_5, wd3, dd3, v1, v2, v3, ([(rg, .inr (5, [.int 0, .ref a1_14, .ref a2_15])), zAr T 0 a1_14 8 e1, zAr T 0 a2_15 8 e2]), rfl, h_6, hI, hd3, hw_23, (by rw [hRd, pFin_s (by decide)]; exact hA8A), (by rw [hRd, pFin_s (by decide)]; exact hA9A), (by rw [hRd, pFin_s (by decide)]; exact hCC)⟩)
    · have c_25n : y7.toInt = (0 : Int) := (fa_eq _ _).mp c_25
      have hwA : A9.2.1.toInt = 0 := by rw [← hA6A]; omega
      obtain ⟨t3A, t4A, t5A, t6A⟩ := hA7A hwA
      have t4iA : y4.toInt = (pCl k A9.1 : Int) := by rw [t4A]; exact nI_toInt (by omega)
      refine lv_aload_n hx hb dX7_read_85 rfl (lv_at hl 1 rfl) ?_
      refine z_get C G clX7 3 rfl 8 (by decide) m_fl_RX7_74 rfl dX7_read_86 ?_
      refine lv_if_eq (tgt := 103) hx hb dX7_read_89 (by decide) (fun c_26 => ?_) (fun c_26 => ?_)
      · have c_26n : y4.toInt = (0 : Int) := (fa_eq _ _).mp c_26
        have hX := pLines_o hj (by first | exact Or.inl (by omega) | exact Or.inr (Or.inl (by rw [← hA6A]; omega)) | exact Or.inr (Or.inr (pTk_0.mpr (by omega)))) hEq
        have hRd := pRead_e (n := N) hX
        refine lv_iload_n hx hb dX7_read_103 rfl (lv_at hl 2 rfl) ?_
        refine lv_if_ne (tgt := 111) hx hb dX7_read_104 (by decide) (fun _ => ?_) (fun q => absurd q (by decide))
        have G := G.sub (bs' := [[zO7 rd rl rdd rg y0 y1 tp v_1 y3 y4 y5 y6 y7 y8], [zAr T 1 tp 600 ft], w2_2, wd3, [(rg, .inr (5, [.int 0, .ref a1_14, .ref a2_15])), zAr T 0 a1_14 8 e1, zAr T 0 a2_15 8 e2]]) [3, 4, 2, 0, 1] rfl
        exact z_back hQz_ (z_vret C hr hlocks G (Nat.le_of_ble_eq_true rfl) (Nat.le_of_ble_eq_true rfl) dX7_read_111 ⟨v_1, y0, y1, y3, y4, y5, y6, y7, y8, w2_2, g1_3, k2, g3_4, g4_5, wd3, dd3, v1, v2, v3, ([(rg, .inr (5, [.int 0, .ref a1_14, .ref a2_15])), zAr T 0 a1_14 8 e1, zAr T 0 a2_15 8 e2]), rfl, h_6, hI, hd3, hw_23, (by rw [hRd, pFin_s (by decide)]; exact hA8A), (by rw [hRd, pFin_s (by decide)]; exact hA9A), (by rw [hRd, pFin_s (by decide)]; exact hCC)⟩)
      · have c_26n : ¬ y4.toInt = (0 : Int) := fun q => c_26 ((fa_eq _ _).mpr q)
        have htA : ¬ pTk k A9.1 = 0 := fun z9 => by have := pTk_0.mp z9; omega
        refine lv_aload_n hx hb dX7_read_92 rfl (lv_at hl 1 rfl) ?_
        refine lv_iload_n hx hb dX7_read_93 rfl (lv_at hl 2 rfl) ?_
        refine z_Vv (bc := [[zO7 rd rl rdd rg y0 y1 tp v_1 y3 y4 y5 y6 y7 y8], [zAr T 1 tp 600 ft], wd3]) (br := [[(rg, .inr (5, [.int 0, .ref a1_14, .ref a2_15])), zAr T 0 a1_14 8 e1, zAr T 0 a2_15 8 e2], w2_2]) (As := [.int 1]) (rest := []) C G (c_f_readLine1 l T rd rl rdd rg tp y0 y1 v_1 y3 y4 y5 y6 y7 y8 ft dd3 v1 v2 v3 wd3 k N A9 fr hBA hwA hd3 hCC) (kV_RX7_77 C.2.2.2.2 (Nat.le_of_ble_eq_true rfl) (Nat.le_of_ble_eq_true rfl)) [3, 4, 0] [0, 2, 0] rfl rfl (ci := 7) (qc := (RX7, TX7, 13)) rfl rfl (List.mem_flatten.mpr ⟨_, List.mem_of_getElem? (i := 0) rfl, List.mem_cons_self⟩) rfl rfl hl.1 dX7_read_94 (Nat.le_of_ble_eq_true rfl) (Nat.le_of_ble_eq_true rfl) (fun b1 H locs hw G => ?_)
        refine zEx13 hw ?_
        intro u0_27 u1_28 u3_29 u4_30 u5_31 u6_32 u7_33 u8_34 wd2_35 dd2_36 b1_37 b2_38 b3_39
        refine zCu4 ?_
        intro hbs9 h_40 h_41 h_42
        clear hw
        subst hbs9
        have G : zS T A s.heap s [[(rg, .inr (5, [.int 0, .ref a1_14, .ref a2_15])), zAr T 0 a1_14 8 e1, zAr T 0 a2_15 8 e2], w2_2, [zO7 rd rl rdd rg u0_27 u1_28 tp v_1 u3_29 u4_30 u5_31 u6_32 u7_33 u8_34], [zAr T 1 tp 600 ft], wd2_35] _ _ := G
        have hnR := h_41
        have hnC := h_42
        refine lv_iinc (v := nI (j + 1)) (lv' := [(4, .int (nI (j + 1))), (0, .ref rd), (3, .int 1)]) hx hb dX7_read_97 hl (k := 0) rfl (z_inc j 1) (by decide) (zLvf_h rfl) (fun ls hl => ?_)
        refine lv_goto (tgt := 70) hx hb dX7_read_100 (by decide) ?_
        have G := G.sub (bs' := [wd2_35, [(rg, .inr (5, [.int 0, .ref a1_14, .ref a2_15])), zAr T 0 a1_14 8 e1, zAr T 0 a2_15 8 e2], w2_2, [zO7 rd rl rdd rg u0_27 u1_28 tp v_1 u3_29 u4_30 u5_31 u6_32 u7_33 u8_34], [zAr T 1 tp 600 ft]]) [4, 0, 1, 2, 3] rfl
        exact ih_70 (j + 1) ((pLine k 1 A9 fr).1) ((pLine k 1 A9 fr).2) u0_27 u1_28 u3_29 u4_30 u5_31 u6_32 u7_33 u8_34 wd2_35 dd2_36 b1_37 b2_38 b3_39 (show bDay T rdd dd2_36 b1_37 b2_38 b3_39 wd2_35 ∧ (j + 1) ≤ 601 ∧ zRc k N ft u0_27 u1_28 v_1 u3_29 u4_30 u5_31 u6_32 u7_33 ((pLine k 1 A9 fr).1) ∧ pLines k 1 (601 - (j + 1)) ((pLine k 1 A9 fr).1) ((pLine k 1 A9 fr).2) = pLines k 1 601 (0, 0, 0, -1, -1) (fun _ => 0) ∧ zDc dd2_36 b1_37 b2_38 b3_39 ((pLine k 1 A9 fr).1) ((pLine k 1 A9 fr).2) from ⟨h_40, by omega, hnR, (pLines_n (by omega) hwA htA hEq), hnC⟩) (show 601 - (j + 1) < 601 - j from by omega) _ _ ls G (lv_sub hl [0, 1, 2] rfl)
set_option maxHeartbeats 4000000 in
set_option maxRecDepth 100000 in
/-- c_f_read2 -/
theorem c_f_read2 (l : Launch) (T : zTy) (rd : Nat) (rl : Nat) (rdd : Nat) (rg : Nat) (tp : Nat) (r0 : Int32) (r1 : Int32) (r2 : Int32) (r3 : Int32) (r4 : Int32) (r5 : Int32) (r6 : Int32) (r7 : Int32) (r8 : Int32) (tq : Nat) (ft : Nat → Int32) (cr : Int32) (inn : Int32) (k1 : Nat → Int32) (k2 : Nat → Int32) (k3 : Nat → Int32) (k4 : Nat → Int32) (z : va_W) (dd : Int32) (d1 : Nat → Int32) (d2 : Nat → Int32) (d3 : Nat → Int32) (wd : va_W) (gg : Int32) (e1 : Nat → Int32) (e2 : Nat → Int32) (wg : va_W) (n : Int32) (k : pT) (N : Nat) (hz : bLand T rl cr inn k1 k2 k3 k4 z) (hd : bDay T rdd dd d1 d2 d3 wd) (hg : bLog T rg gg e1 e2 wg) (hN : n = nI N) (hN6 : N ≤ 600) (hk : k = tkT ft N) : zMv l T yX7_read cX7_read 5 8 0 0 [.ref rd, .ref tp, .int n, .int 2] [[zO7 rd rl rdd rg r0 r1 tq r2 r3 r4 r5 r6 r7 r8], [zAr T 1 tp 600 ft], z, wd, wg] (fun bs => ∃ (u2 : Int32) (u0 : Int32) (u1 : Int32) (u3 : Int32) (u4 : Int32) (u5 : Int32) (u6 : Int32) (u7 : Int32) (u8 : Int32) (z2 : va_W) (j1 : Nat → Int32) (j2 : Nat → Int32) (j3 : Nat → Int32) (j4 : Nat → Int32) (wd2 : va_W) (wg2 : va_W) (gg2 : Int32) (b4 : Nat → Int32) (b5 : Nat → Int32), bs = [[zO7 rd rl rdd rg u0 u1 tp u2 u3 u4 u5 u6 u7 u8], [zAr T 1 tp 600 ft], z2, wd2, wg2] ∧ bLand T rl 0 0 j1 j2 j3 j4 z2 ∧ zLI 0 j1 j3 ∧ bDay T rdd 0 d1 d2 d3 wd2 ∧ bLog T rg gg2 b4 b5 wg2 ∧ u0 = (pRead k N 2).1.2.2.1 ∧ u1 = (pRead k N 2).1.2.2.2.1 ∧ zGc gg2 b4 b5 (pRead k N 2).1 (pRead k N 2).2) := by
  refine zMv_of (own := RX7) (by decide) rfl (Nat.le_of_ble_eq_true rfl) ?_
  intro p e s m args below meth c A ls C hr hlocks hnm hAe G hl
  refine zHide (fun Qz_ hQz_ => ?_)
  have hx := C.1
  have hb := C.2.1
  have hl : lv_has ls 5 [(0, .ref rd), (1, .ref tp), (2, .int n), (3, .int 2)] := hl
  refine lv_aload_n hx hb dX7_read_0 rfl (lv_at hl 0 rfl) ?_
  refine lv_aload_n hx hb dX7_read_1 rfl (lv_at hl 1 rfl) ?_
  refine z_put C G clX7 0 rfl 5 (by decide) m_fl_RX7_32 rfl rfl rfl (Nat.le_of_ble_eq_true rfl) dX7_read_2 (fun H locs G => ?_)
  have G : zS T A s.heap s [[zO7 rd rl rdd rg r0 r1 tp r2 r3 r4 r5 r6 r7 r8], [zAr T 1 tp 600 ft], z, wd, wg] _ _ := G
  refine lv_aload_n hx hb dX7_read_5 rfl (lv_at hl 0 rfl) ?_
  refine lv_iload_n hx hb dX7_read_6 rfl (lv_at hl 2 rfl) ?_
  refine lv_aload_n hx hb dX7_read_7 rfl (lv_at hl 1 rfl) ?_
  refine z_alen C G 1 1 rfl (v := 600) rfl rfl dX7_read_8 ?_
  refine va_mmin hx hb (C.2.2.1.trans hl.1.symm) C.2.2.2.1 (C.2.2.2.2 _ m_ml_RX7_36) (C.2.2.2.2 _ m_st_math_min) (C.2.2.2.2 _ m_ii_math) (C.2.2.2.2 _ m_co_math_min) (Nat.le_of_ble_eq_true rfl) (Nat.le_of_ble_eq_true rfl) (Nat.le_of_ble_eq_true rfl) (Nat.le_of_ble_eq_true rfl) dX7_read_9 ?_
  refine lv_topi (fun v_1 ev_1 => ?_)
  have hlen : v_1 = nI N := by rw [ev_1, if_neg (fun z9 => by have z8 := (fa_lt _ _).mp z9; rw [hN, nI_toInt (by omega)] at z8; have z7 : (600 : Int32).toInt = 600 := rfl; omega)]; exact hN
  refine z_put C G clX7 0 rfl 6 (by decide) m_fl_RX7_42 rfl rfl rfl (Nat.le_of_ble_eq_true rfl) dX7_read_12 (fun H locs G => ?_)
  have G : zS T A s.heap s [[zO7 rd rl rdd rg r0 r1 tp v_1 r3 r4 r5 r6 r7 r8], [zAr T 1 tp 600 ft], z, wd, wg] _ _ := G
  refine lv_aload_n hx hb dX7_read_15 rfl (lv_at hl 0 rfl) ?_
  refine lv_iconst (v := 0) hx hb dX7_read_16 (by decide) ?_
  refine z_put C G clX7 0 rfl 7 (by decide) m_fl_RX7_46 rfl rfl rfl (Nat.le_of_ble_eq_true rfl) dX7_read_17 (fun H locs G => ?_)
  have G : zS T A s.heap s [[zO7 rd rl rdd rg r0 r1 tp v_1 0 r4 r5 r6 r7 r8], [zAr T 1 tp 600 ft], z, wd, wg] _ _ := G
  refine lv_aload_n hx hb dX7_read_20 rfl (lv_at hl 0 rfl) ?_
  refine lv_iconst (v := 0) hx hb dX7_read_21 (by decide) ?_
  refine z_put C G clX7 0 rfl 3 (by decide) m_fl_RX7_49 rfl rfl rfl (Nat.le_of_ble_eq_true rfl) dX7_read_22 (fun H locs G => ?_)
  have G : zS T A s.heap s [[zO7 rd rl rdd rg 0 r1 tp v_1 0 r4 r5 r6 r7 r8], [zAr T 1 tp 600 ft], z, wd, wg] _ _ := G
  refine lv_aload_n hx hb dX7_read_25 rfl (lv_at hl 0 rfl) ?_
  refine lv_iconst (v := (-1)) hx hb dX7_read_26 (by decide) ?_
  refine z_put C G clX7 0 rfl 4 (by decide) m_fl_RX7_52 rfl rfl rfl (Nat.le_of_ble_eq_true rfl) dX7_read_27 (fun H locs G => ?_)
  have G : zS T A s.heap s [[zO7 rd rl rdd rg 0 (-1) tp v_1 0 r4 r5 r6 r7 r8], [zAr T 1 tp 600 ft], z, wd, wg] _ _ := G
  refine lv_aload_n hx hb dX7_read_30 rfl (lv_at hl 0 rfl) ?_
  refine lv_iconst (v := 0) hx hb dX7_read_31 (by decide) ?_
  refine z_put C G clX7 0 rfl 11 (by decide) m_fl_RX7_55 rfl rfl rfl (Nat.le_of_ble_eq_true rfl) dX7_read_32 (fun H locs G => ?_)
  have G : zS T A s.heap s [[zO7 rd rl rdd rg 0 (-1) tp v_1 0 r4 r5 r6 0 r8], [zAr T 1 tp 600 ft], z, wd, wg] _ _ := G
  refine lv_aload_n hx hb dX7_read_35 rfl (lv_at hl 0 rfl) ?_
  refine lv_iconst (v := 0) hx hb dX7_read_36 (by decide) ?_
  refine z_put C G clX7 0 rfl 12 (by decide) m_fl_RX7_59 rfl rfl rfl (Nat.le_of_ble_eq_true rfl) dX7_read_37 (fun H locs G => ?_)
  have G : zS T A s.heap s [[zO7 rd rl rdd rg 0 (-1) tp v_1 0 r4 r5 r6 0 0], [zAr T 1 tp 600 ft], z, wd, wg] _ _ := G
  refine lv_aload_n hx hb dX7_read_40 rfl (lv_at hl 0 rfl) ?_
  refine z_get C G clX7 0 rfl 0 (by decide) m_fl_RX7_12 rfl dX7_read_41 ?_
  refine z_Vv (bc := [z]) (br := [[zO7 rd rl rdd rg 0 (-1) tp v_1 0 r4 r5 r6 0 0], [zAr T 1 tp 600 ft], wd, wg]) (As := []) (rest := []) C G (c_Land_clear l T rl cr inn k1 k2 k3 k4 z hz) (kV_RX7_62 C.2.2.2.2 (Nat.le_of_ble_eq_true rfl) (Nat.le_of_ble_eq_true rfl)) [2] [2] rfl rfl (ci := 4) (qc := (RX4, TX4, 6)) rfl rfl (List.mem_flatten.mpr ⟨_, List.mem_of_getElem? (i := 0) rfl, (bLand_mem hz).choose_spec⟩) rfl rfl hl.1 dX7_read_44 (Nat.le_of_ble_eq_true rfl) (Nat.le_of_ble_eq_true rfl) (fun b1 H locs hw G => ?_)
  refine zEx4 hw ?_
  intro w2_2 g1_3 g3_4 g4_5
  refine zCu5 ?_
  intro hbs9 h_6 h_7 h_8 h_9
  clear hw
  subst hbs9
  have G : zS T A s.heap s [[zO7 rd rl rdd rg 0 (-1) tp v_1 0 r4 r5 r6 0 0], [zAr T 1 tp 600 ft], wd, wg, w2_2] _ _ := G
  have hI : zLI 0 g1_3 g3_4 := zLI_zero h_7 h_8
  refine lv_aload_n hx hb dX7_read_47 rfl (lv_at hl 0 rfl) ?_
  refine z_get C G clX7 0 rfl 1 (by decide) m_fl_RX7_21 rfl dX7_read_48 ?_
  refine lv_iconst (v := 0) hx hb dX7_read_51 (by decide) ?_
  refine zEx3 hd ?_
  intro a1_11 a2_12 a3_13 hbs9
  clear hd
  subst hbs9
  have G : zS T A s.heap s [[zO7 rd rl rdd rg 0 (-1) tp v_1 0 r4 r5 r6 0 0], [zAr T 1 tp 600 ft], [(rdd, .inr (2, [.int dd, .ref a1_11, .ref a2_12, .ref a3_13]))], [zAr T 0 a1_11 40 d1], [zAr T 0 a2_12 40 d2], [zAr T 0 a3_13 40 d3], wg, w2_2] _ _ := G.re rfl
  refine z_put C G clX2 2 rfl 0 (by decide) m_fl_RX7_65 rfl rfl rfl (Nat.le_of_ble_eq_true rfl) dX7_read_52 (fun H locs G => ?_)
  have G : zS T A s.heap s [[zO7 rd rl rdd rg 0 (-1) tp v_1 0 r4 r5 r6 0 0], [zAr T 1 tp 600 ft], [(rdd, .inr (2, [.int 0, .ref a1_11, .ref a2_12, .ref a3_13]))], [zAr T 0 a1_11 40 d1], [zAr T 0 a2_12 40 d2], [zAr T 0 a3_13 40 d3], wg, w2_2] _ _ := G
  refine lv_aload_n hx hb dX7_read_55 rfl (lv_at hl 0 rfl) ?_
  refine z_get C G clX7 0 rfl 2 (by decide) m_fl_RX7_28 rfl dX7_read_56 ?_
  refine lv_iconst (v := 0) hx hb dX7_read_59 (by decide) ?_
  refine zEx2 hg ?_
  intro a1_14 a2_15 hbs9
  clear hg
  subst hbs9
  have G : zS T A s.heap s [[zO7 rd rl rdd rg 0 (-1) tp v_1 0 r4 r5 r6 0 0], [zAr T 1 tp 600 ft], [(rdd, .inr (2, [.int 0, .ref a1_11, .ref a2_12, .ref a3_13]))], [zAr T 0 a1_11 40 d1], [zAr T 0 a2_12 40 d2], [zAr T 0 a3_13 40 d3], [(rg, .inr (5, [.int gg, .ref a1_14, .ref a2_15]))], [zAr T 0 a1_14 8 e1], [zAr T 0 a2_15 8 e2], w2_2] _ _ := G.re rfl
  refine z_put C G clX5 6 rfl 0 (by decide) m_fl_RX7_68 rfl rfl rfl (Nat.le_of_ble_eq_true rfl) dX7_read_60 (fun H locs G => ?_)
  have G : zS T A s.heap s [[zO7 rd rl rdd rg 0 (-1) tp v_1 0 r4 r5 r6 0 0], [zAr T 1 tp 600 ft], [(rdd, .inr (2, [.int 0, .ref a1_11, .ref a2_12, .ref a3_13]))], [zAr T 0 a1_11 40 d1], [zAr T 0 a2_12 40 d2], [zAr T 0 a3_13 40 d3], [(rg, .inr (5, [.int 0, .ref a1_14, .ref a2_15]))], [zAr T 0 a1_14 8 e1], [zAr T 0 a2_15 8 e2], w2_2] _ _ := G
  refine lv_aload_n hx hb dX7_read_63 rfl (lv_at hl 0 rfl) ?_
  refine z_Vv (bc := [[zO7 rd rl rdd rg 0 (-1) tp v_1 0 r4 r5 r6 0 0], [zAr T 1 tp 600 ft]]) (br := [[(rdd, .inr (2, [.int 0, .ref a1_11, .ref a2_12, .ref a3_13]))], [zAr T 0 a1_11 40 d1], [zAr T 0 a2_12 40 d2], [zAr T 0 a3_13 40 d3], [(rg, .inr (5, [.int 0, .ref a1_14, .ref a2_15]))], [zAr T 0 a1_14 8 e1], [zAr T 0 a2_15 8 e2], w2_2]) (As := []) (rest := []) C G (c_f_nextToken l T rd rl rdd rg tp 0 (-1) v_1 0 r4 r5 r6 0 0 ft 0 N k rfl (Nat.zero_le _) hk hlen hN6) (kV_RX7_71 C.2.2.2.2 (Nat.le_of_ble_eq_true rfl) (Nat.le_of_ble_eq_true rfl)) [0, 1] [0, 0] rfl rfl (ci := 7) (qc := (RX7, TX7, 13)) rfl rfl (List.mem_flatten.mpr ⟨_, List.mem_of_getElem? (i := 0) rfl, List.mem_cons_self⟩) rfl rfl hl.1 dX7_read_64 (Nat.le_of_ble_eq_true rfl) (Nat.le_of_ble_eq_true rfl) (fun b1 H locs hw G => ?_)
  refine zEx4 hw ?_
  intro u3_16 u4_17 u5_18 u6_19
  refine zCu2 ?_
  intro hbs9 h_20
  clear hw
  subst hbs9
  have G : zS T A s.heap s [[(rdd, .inr (2, [.int 0, .ref a1_11, .ref a2_12, .ref a3_13]))], [zAr T 0 a1_11 40 d1], [zAr T 0 a2_12 40 d2], [zAr T 0 a3_13 40 d3], [(rg, .inr (5, [.int 0, .ref a1_14, .ref a2_15]))], [zAr T 0 a1_14 8 e1], [zAr T 0 a2_15 8 e2], w2_2, [zO7 rd rl rdd rg 0 (-1) tp v_1 u3_16 u4_17 u5_18 u6_19 0 0], [zAr T 1 tp 600 ft]] _ _ := G
  refine lv_iconst (v := 0) hx hb dX7_read_67 (by decide) ?_
  refine lv_istore (lv' := [(4, .int 0), (0, .ref rd), (1, .ref tp), (2, .int n), (3, .int 2)]) hx hb dX7_read_68 hl (by decide) (zLvf_h rfl) (fun ls hl => ?_)
  have hw_22 : bDay T rdd 0 d1 d2 d3 [(rdd, .inr (2, [.int 0, .ref a1_11, .ref a2_12, .ref a3_13])), zAr T 0 a1_11 40 d1, zAr T 0 a2_12 40 d2, zAr T 0 a3_13 40 d3] := ⟨a1_11, a2_12, a3_13, rfl⟩
  have G : zS T A s.heap s [[(rdd, .inr (2, [.int 0, .ref a1_11, .ref a2_12, .ref a3_13])), zAr T 0 a1_11 40 d1, zAr T 0 a2_12 40 d2, zAr T 0 a3_13 40 d3], [(rg, .inr (5, [.int 0, .ref a1_14, .ref a2_15]))], [zAr T 0 a1_14 8 e1], [zAr T 0 a2_15 8 e2], w2_2, [zO7 rd rl rdd rg 0 (-1) tp v_1 u3_16 u4_17 u5_18 u6_19 0 0], [zAr T 1 tp 600 ft]] _ _ := G.re rfl
  have hw_23 : bLog T rg 0 e1 e2 [(rg, .inr (5, [.int 0, .ref a1_14, .ref a2_15])), zAr T 0 a1_14 8 e1, zAr T 0 a2_15 8 e2] := ⟨a1_14, a2_15, rfl⟩
  have G : zS T A s.heap s [[(rdd, .inr (2, [.int 0, .ref a1_11, .ref a2_12, .ref a3_13])), zAr T 0 a1_11 40 d1, zAr T 0 a2_12 40 d2, zAr T 0 a3_13 40 d3], [(rg, .inr (5, [.int 0, .ref a1_14, .ref a2_15])), zAr T 0 a1_14 8 e1, zAr T 0 a2_15 8 e2], w2_2, [zO7 rd rl rdd rg 0 (-1) tp v_1 u3_16 u4_17 u5_18 u6_19 0 0], [zAr T 1 tp 600 ft]] _ _ := G.re rfl
  refine z_lp15 (T := T) 70 (fun (j : Nat) (A9 : pS) (fr : Nat → Int32) (y0 : Int32) (y1 : Int32) (y3 : Int32) (y4 : Int32) (y5 : Int32) (y6 : Int32) (y7 : Int32) (y8 : Int32) (wg3 : va_W) (gg3 : Int32) (v4 : Nat → Int32) (v5 : Nat → Int32) => [[(rdd, .inr (2, [.int 0, .ref a1_11, .ref a2_12, .ref a3_13])), zAr T 0 a1_11 40 d1, zAr T 0 a2_12 40 d2, zAr T 0 a3_13 40 d3], wg3, w2_2, [zO7 rd rl rdd rg y0 y1 tp v_1 y3 y4 y5 y6 y7 y8], [zAr T 1 tp 600 ft]]) (fun (j : Nat) (A9 : pS) (fr : Nat → Int32) (y0 : Int32) (y1 : Int32) (y3 : Int32) (y4 : Int32) (y5 : Int32) (y6 : Int32) (y7 : Int32) (y8 : Int32) (wg3 : va_W) (gg3 : Int32) (v4 : Nat → Int32) (v5 : Nat → Int32) => [(4, .int (nI j)), (0, .ref rd), (3, .int 2)]) (fun (j : Nat) (A9 : pS) (fr : Nat → Int32) (y0 : Int32) (y1 : Int32) (y3 : Int32) (y4 : Int32) (y5 : Int32) (y6 : Int32) (y7 : Int32) (y8 : Int32) (wg3 : va_W) (gg3 : Int32) (v4 : Nat → Int32) (v5 : Nat → Int32) => bLog T rg gg3 v4 v5 wg3 ∧ j ≤ 601 ∧ zRc k N ft y0 y1 v_1 y3 y4 y5 y6 y7 A9 ∧ pLines k 2 (601 - j) A9 fr = pLines k 2 601 (0, 0, 0, -1, -1) (fun _ => 0) ∧ zGc gg3 v4 v5 A9 fr) (fun (j : Nat) (A9 : pS) (fr : Nat → Int32) (y0 : Int32) (y1 : Int32) (y3 : Int32) (y4 : Int32) (y5 : Int32) (y6 : Int32) (y7 : Int32) (y8 : Int32) (wg3 : va_W) (gg3 : Int32) (v4 : Nat → Int32) (v5 : Nat → Int32) => 601 - j) ?_ 0 (0, 0, 0, -1, -1) (fun _ => 0) 0 (-1) u3_16 u4_17 u5_18 u6_19 0 0 ([(rg, .inr (5, [.int 0, .ref a1_14, .ref a2_15])), zAr T 0 a1_14 8 e1, zAr T 0 a2_15 8 e2]) 0 e1 e2 (show bLog T rg 0 e1 e2 ([(rg, .inr (5, [.int 0, .ref a1_14, .ref a2_15])), zAr T 0 a1_14 8 e1, zAr T 0 a2_15 8 e2]) ∧ 0 ≤ 601 ∧ zRc k N ft 0 (-1) v_1 u3_16 u4_17 u5_18 u6_19 0 (0, 0, 0, -1, -1) ∧ pLines k 2 (601 - 0) (0, 0, 0, -1, -1) (fun _ => 0) = pLines k 2 601 (0, 0, 0, -1, -1) (fun _ => 0) ∧ zGc 0 e1 e2 (0, 0, 0, -1, -1) (fun _ => 0) from ⟨hw_23, by omega, (zRc_st hk hN6 hlen h_20), rfl, zGc_st⟩) G (lv_sub hl [0, 1, 4] rfl)
  intro j A9 fr y0 y1 y3 y4 y5 y6 y7 y8 wg3 gg3 v4 v5 hI9 ih_70 H locs ls G hl
  replace hI9 : bLog T rg gg3 v4 v5 wg3 ∧ j ≤ 601 ∧ zRc k N ft y0 y1 v_1 y3 y4 y5 y6 y7 A9 ∧ pLines k 2 (601 - j) A9 fr = pLines k 2 601 (0, 0, 0, -1, -1) (fun _ => 0) ∧ zGc gg3 v4 v5 A9 fr := hI9
  refine zAn5 hI9 ?_
  intro hg3 hj hBA hEq hCC
  clear hI9
  replace G : zS T A s.heap s [[(rdd, .inr (2, [.int 0, .ref a1_11, .ref a2_12, .ref a3_13])), zAr T 0 a1_11 40 d1, zAr T 0 a2_12 40 d2, zAr T 0 a3_13 40 d3], wg3, w2_2, [zO7 rd rl rdd rg y0 y1 tp v_1 y3 y4 y5 y6 y7 y8], [zAr T 1 tp 600 ft]] _ _ := G
  replace hl : lv_has ls 5 [(4, .int (nI j)), (0, .ref rd), (3, .int 2)] := hl
  refine lv_iload hx hb dX7_read_70 (lv_at hl 0 rfl) ?_
  have hokA := zRc_ok hBA
  obtain ⟨hA1A, hA6A, hA7A, hA8A, hA9A, hAIA, hAEA⟩ := id hBA
  have hkaA := hokA A9.1 hA1A.2.2.2
  refine lv_sipush (v := 600) hx hb dX7_read_72 (by decide) ?_
  refine lv_icmp_gt (tgt := 103) hx hb dX7_read_75 (by decide) (fun c_24 => ?_) (fun c_24 => ?_)
  · have c_24n : 600 < j := (nI_ltI (a := 600) (b := j) (by omega) (by omega)).mp c_24
    have hX := pLines_o hj (by first | exact Or.inl (by omega) | exact Or.inr (Or.inl (by rw [← hA6A]; omega)) | exact Or.inr (Or.inr (pTk_0.mpr (by omega)))) hEq
    have hRd := pRead_e (n := N) hX
    refine lv_iload_n hx hb dX7_read_103 rfl (lv_at hl 2 rfl) ?_
    refine lv_if_ne (tgt := 111) hx hb dX7_read_104 (by decide) (fun _ => ?_) (fun q => absurd q (by decide))
    have G := G.sub (bs' := [[zO7 rd rl rdd rg y0 y1 tp v_1 y3 y4 y5 y6 y7 y8], [zAr T 1 tp 600 ft], w2_2, [(rdd, .inr (2, [.int 0, .ref a1_11, .ref a2_12, .ref a3_13])), zAr T 0 a1_11 40 d1, zAr T 0 a2_12 40 d2, zAr T 0 a3_13 40 d3], wg3]) [3, 4, 2, 0, 1] rfl
    exact z_back hQz_ (z_vret C hr hlocks G (Nat.le_of_ble_eq_true rfl) (Nat.le_of_ble_eq_true rfl) dX7_read_111 ⟨v_1, y0, y1, y3, y4, y5, y6, y7, y8, w2_2, g1_3, k2, g3_4, g4_5, ([(rdd, .inr (2, [.int 0, .ref a1_11, .ref a2_12, .ref a3_13])), zAr T 0 a1_11 40 d1, zAr T 0 a2_12 40 d2, zAr T 0 a3_13 40 d3]), wg3, gg3, v4, v5, rfl, h_6, hI, hw_22, hg3, (by rw [hRd, pFin_s (by decide)]; exact hA8A), (by rw [hRd, pFin_s (by decide)]; exact hA9A), (by rw [hRd, pFin_s (by decide)]; exact hCC)⟩)
  · have c_24n : ¬ 600 < j := fun q => c_24 ((nI_ltI (a := 600) (b := j) (by omega) (by omega)).mpr q)
    refine lv_aload_n hx hb dX7_read_78 rfl (lv_at hl 1 rfl) ?_
    refine z_get C G clX7 3 rfl 11 (by decide) m_fl_RX7_55 rfl dX7_read_79 ?_
    refine lv_if_ne (tgt := 103) hx hb dX7_read_82 (by decide) (fun c_25 => ?_) (fun c_25 => ?_)
    · have c_25n : ¬ y7.toInt = (0 : Int) := fun q => c_25 ((fa_eq _ _).mpr q)
      have hX := pLines_o hj (by first | exact Or.inl (by omega) | exact Or.inr (Or.inl (by rw [← hA6A]; omega)) | exact Or.inr (Or.inr (pTk_0.mpr (by omega)))) hEq
      have hRd := pRead_e (n := N) hX
      refine lv_iload_n hx hb dX7_read_103 rfl (lv_at hl 2 rfl) ?_
      refine lv_if_ne (tgt := 111) hx hb dX7_read_104 (by decide) (fun _ => ?_) (fun q => absurd q (by decide))
      have G := G.sub (bs' := [[zO7 rd rl rdd rg y0 y1 tp v_1 y3 y4 y5 y6 y7 y8], [zAr T 1 tp 600 ft], w2_2, [(rdd, .inr (2, [.int 0, .ref a1_11, .ref a2_12, .ref a3_13])), zAr T 0 a1_11 40 d1, zAr T 0 a2_12 40 d2, zAr T 0 a3_13 40 d3], wg3]) [3, 4, 2, 0, 1] rfl
      exact z_back hQz_ (z_vret C hr hlocks G (Nat.le_of_ble_eq_true rfl) (Nat.le_of_ble_eq_true rfl) dX7_read_111 ⟨v_1, y0, y1, y3, y4, y5, y6, y7, y8, w2_2, g1_3, k2, g3_4, g4_5, ([(rdd, .inr (2, [.int 0, .ref a1_11, .ref a2_12, .ref a3_13])), zAr T 0 a1_11 40 d1, zAr T 0 a2_12 40 d2, zAr T 0 a3_13 40 d3]), wg3, gg3, v4, v5, rfl, h_6, hI, hw_22, hg3, (by rw [hRd, pFin_s (by decide)]; exact hA8A), (by rw [hRd, pFin_s (by decide)]; exact hA9A), (by rw [hRd, pFin_s (by decide)]; exact hCC)⟩)
    · have c_25n : y7.toInt = (0 : Int) := (fa_eq _ _).mp c_25
      have hwA : A9.2.1.toInt = 0 := by rw [← hA6A]; omega
      obtain ⟨t3A, t4A, t5A, t6A⟩ := hA7A hwA
      have t4iA : y4.toInt = (pCl k A9.1 : Int) := by rw [t4A]; exact nI_toInt (by omega)
      refine lv_aload_n hx hb dX7_read_85 rfl (lv_at hl 1 rfl) ?_
      refine z_get C G clX7 3 rfl 8 (by decide) m_fl_RX7_74 rfl dX7_read_86 ?_
      refine lv_if_eq (tgt := 103) hx hb dX7_read_89 (by decide) (fun c_26 => ?_) (fun c_26 => ?_)
      · have c_26n : y4.toInt = (0 : Int) := (fa_eq _ _).mp c_26
        have hX := pLines_o hj (by first | exact Or.inl (by omega) | exact Or.inr (Or.inl (by rw [← hA6A]; omega)) | exact Or.inr (Or.inr (pTk_0.mpr (by omega)))) hEq
        have hRd := pRead_e (n := N) hX
        refine lv_iload_n hx hb dX7_read_103 rfl (lv_at hl 2 rfl) ?_
        refine lv_if_ne (tgt := 111) hx hb dX7_read_104 (by decide) (fun _ => ?_) (fun q => absurd q (by decide))
        have G := G.sub (bs' := [[zO7 rd rl rdd rg y0 y1 tp v_1 y3 y4 y5 y6 y7 y8], [zAr T 1 tp 600 ft], w2_2, [(rdd, .inr (2, [.int 0, .ref a1_11, .ref a2_12, .ref a3_13])), zAr T 0 a1_11 40 d1, zAr T 0 a2_12 40 d2, zAr T 0 a3_13 40 d3], wg3]) [3, 4, 2, 0, 1] rfl
        exact z_back hQz_ (z_vret C hr hlocks G (Nat.le_of_ble_eq_true rfl) (Nat.le_of_ble_eq_true rfl) dX7_read_111 ⟨v_1, y0, y1, y3, y4, y5, y6, y7, y8, w2_2, g1_3, k2, g3_4, g4_5, ([(rdd, .inr (2, [.int 0, .ref a1_11, .ref a2_12, .ref a3_13])), zAr T 0 a1_11 40 d1, zAr T 0 a2_12 40 d2, zAr T 0 a3_13 40 d3]), wg3, gg3, v4, v5, rfl, h_6, hI, hw_22, hg3, (by rw [hRd, pFin_s (by decide)]; exact hA8A), (by rw [hRd, pFin_s (by decide)]; exact hA9A), (by rw [hRd, pFin_s (by decide)]; exact hCC)⟩)
      · have c_26n : ¬ y4.toInt = (0 : Int) := fun q => c_26 ((fa_eq _ _).mpr q)
        have htA : ¬ pTk k A9.1 = 0 := fun z9 => by have := pTk_0.mp z9; omega
        refine lv_aload_n hx hb dX7_read_92 rfl (lv_at hl 1 rfl) ?_
        refine lv_iload_n hx hb dX7_read_93 rfl (lv_at hl 2 rfl) ?_
        refine z_Vv (bc := [[zO7 rd rl rdd rg y0 y1 tp v_1 y3 y4 y5 y6 y7 y8], [zAr T 1 tp 600 ft], wg3]) (br := [[(rdd, .inr (2, [.int 0, .ref a1_11, .ref a2_12, .ref a3_13])), zAr T 0 a1_11 40 d1, zAr T 0 a2_12 40 d2, zAr T 0 a3_13 40 d3], w2_2]) (As := [.int 2]) (rest := []) C G (c_f_readLine2 l T rd rl rdd rg tp y0 y1 v_1 y3 y4 y5 y6 y7 y8 ft gg3 v4 v5 wg3 k N A9 fr hBA hwA hg3 hCC) (kV_RX7_77 C.2.2.2.2 (Nat.le_of_ble_eq_true rfl) (Nat.le_of_ble_eq_true rfl)) [3, 4, 1] [1, 1, 0] rfl rfl (ci := 7) (qc := (RX7, TX7, 13)) rfl rfl (List.mem_flatten.mpr ⟨_, List.mem_of_getElem? (i := 0) rfl, List.mem_cons_self⟩) rfl rfl hl.1 dX7_read_94 (Nat.le_of_ble_eq_true rfl) (Nat.le_of_ble_eq_true rfl) (fun b1 H locs hw G => ?_)
        refine zEx12 hw ?_
        intro u0_27 u1_28 u3_29 u4_30 u5_31 u6_32 u7_33 u8_34 wg2_35 gg2_36 b4_37 b5_38
        refine zCu4 ?_
        intro hbs9 h_39 h_40 h_41
        clear hw
        subst hbs9
        have G : zS T A s.heap s [[(rdd, .inr (2, [.int 0, .ref a1_11, .ref a2_12, .ref a3_13])), zAr T 0 a1_11 40 d1, zAr T 0 a2_12 40 d2, zAr T 0 a3_13 40 d3], w2_2, [zO7 rd rl rdd rg u0_27 u1_28 tp v_1 u3_29 u4_30 u5_31 u6_32 u7_33 u8_34], [zAr T 1 tp 600 ft], wg2_35] _ _ := G
        have hnR := h_40
        have hnC := h_41
        refine lv_iinc (v := nI (j + 1)) (lv' := [(4, .int (nI (j + 1))), (0, .ref rd), (3, .int 2)]) hx hb dX7_read_97 hl (k := 0) rfl (z_inc j 1) (by decide) (zLvf_h rfl) (fun ls hl => ?_)
        refine lv_goto (tgt := 70) hx hb dX7_read_100 (by decide) ?_
        have G := G.sub (bs' := [[(rdd, .inr (2, [.int 0, .ref a1_11, .ref a2_12, .ref a3_13])), zAr T 0 a1_11 40 d1, zAr T 0 a2_12 40 d2, zAr T 0 a3_13 40 d3], wg2_35, w2_2, [zO7 rd rl rdd rg u0_27 u1_28 tp v_1 u3_29 u4_30 u5_31 u6_32 u7_33 u8_34], [zAr T 1 tp 600 ft]]) [0, 4, 1, 2, 3] rfl
        exact ih_70 (j + 1) ((pLine k 2 A9 fr).1) ((pLine k 2 A9 fr).2) u0_27 u1_28 u3_29 u4_30 u5_31 u6_32 u7_33 u8_34 wg2_35 gg2_36 b4_37 b5_38 (show bLog T rg gg2_36 b4_37 b5_38 wg2_35 ∧ (j + 1) ≤ 601 ∧ zRc k N ft u0_27 u1_28 v_1 u3_29 u4_30 u5_31 u6_32 u7_33 ((pLine k 2 A9 fr).1) ∧ pLines k 2 (601 - (j + 1)) ((pLine k 2 A9 fr).1) ((pLine k 2 A9 fr).2) = pLines k 2 601 (0, 0, 0, -1, -1) (fun _ => 0) ∧ zGc gg2_36 b4_37 b5_38 ((pLine k 2 A9 fr).1) ((pLine k 2 A9 fr).2) from ⟨h_39, by omega, hnR, (pLines_n (by omega) hwA htA hEq), hnC⟩) (show 601 - (j + 1) < 601 - j from by omega) _ _ ls G (lv_sub hl [0, 1, 2] rfl)
/-! the reference's words: letters five bits each -/
def zVal (g : Nat → Int32) (w : Nat) : Nat → Int
  | 0 => 0
  | k + 1 => 32 * zVal g w k + ((g (w + k)).toInt - 96)
theorem zVal_bd {g : Nat → Int32} {w : Nat} : ∀ k : Nat, (∀ j, j < k → tkL (g (w + j)) = true) → 0 ≤ zVal g w k ∧ zVal g w k < 32 ^ k
  | 0, h => by unfold zVal; exact ⟨by omega, by decide⟩
  | k + 1, h => by
    have h1 := zVal_bd (g := g) (w := w) k (fun j hj => h j (by omega))
    have h2 := tkL_iff.mp (h k (by omega))
    unfold zVal
    rw [Int.pow_succ]
    omega
theorem zVal_inj {g g' : Nat → Int32} {w w' : Nat} : ∀ k k' : Nat, (∀ j, j < k → tkL (g (w + j)) = true) → (∀ j, j < k' → tkL (g' (w' + j)) = true) → zVal g w k = zVal g' w' k' → k = k' ∧ ∀ j, j < k → g (w + j) = g' (w' + j)
  | 0, 0, _, _, _ => ⟨rfl, fun j hj => absurd hj (by omega)⟩
  | 0, k' + 1, _, h', e => by
    have h1 := zVal_bd (g := g') (w := w') k' (fun j hj => h' j (by omega))
    have h2 := tkL_iff.mp (h' k' (by omega))
    unfold zVal at e
    omega
  | k + 1, 0, h, _, e => by
    have h1 := zVal_bd (g := g) (w := w) k (fun j hj => h j (by omega))
    have h2 := tkL_iff.mp (h k (by omega))
    unfold zVal at e
    omega
  | k + 1, k' + 1, h, h', e => by
    have h2 := tkL_iff.mp (h k (by omega))
    have h3 := tkL_iff.mp (h' k' (by omega))
    unfold zVal at e
    obtain ⟨q1, q2⟩ := zVal_inj k k' (fun j hj => h j (by omega)) (fun j hj => h' j (by omega)) (by omega)
    refine ⟨by omega, fun j hj => ?_⟩
    by_cases c : j = k
    · subst q1
      subst c
      exact Int32.toInt_inj.mp (by omega)
    · exact q2 j (by omega)
def zWq (i : Nat) : Nat → Int32 := fun j => (zByt.getD i []).getD j 0
theorem zWq_let : ∀ i, i < 12 → ∀ j, j < zLen.getD i 0 → tkL (zWq i j) = true := by decide +kernel
theorem zVal_word {g : Nat → Int32} {w e i : Nat} (hi : i < 12) (hw : w ≤ e) (hl : ∀ j, w ≤ j → j < e → tkL (g j) = true) : (zVal g w (e - w) = zVal (zWq i) 0 (zLen.getD i 0)) ↔ zWI g w e i = true := by
  unfold zWI
  rw [decide_eq_true_iff]
  constructor
  · intro h
    obtain ⟨q1, q2⟩ := zVal_inj _ _ (fun j hj => hl (w + j) (by omega) (by omega)) (fun j hj => by rw [Nat.zero_add]; exact zWq_let i hi j hj) h
    refine ⟨q1, fun j hj => ?_⟩
    have := q2 j (by omega)
    rw [Nat.zero_add] at this
    exact this
  · rintro ⟨h1, h2⟩
    rw [h1]
    have key : ∀ k, k ≤ zLen.getD i 0 → zVal g w k = zVal (zWq i) 0 k := by
      intro k
      induction k with
      | zero => intro _; rfl
      | succ k ih =>
        intro hk
        unfold zVal
        rw [ih (by omega), h2 k (by omega), Nat.zero_add]
        rfl
    exact key _ (Nat.le_refl _)
def zKon : List Int64 := [zEight 0 0 0 3 18 15 19 19, zFour 16 15 19 20, zEight 0 23 1 12 11 5 18 19, zFour 0 9 14 14, zFour 3 1 13 5, zEight 0 0 0 14 5 22 5 18, zFour 0 0 7 15, zFour 0 18 21 14, zFour 20 21 18 14, zFour 0 1 4 4, zFour 19 8 21 20, zFour 15 16 5 14]
theorem zKon_val : ∀ i, i < 12 → (zKon.getD i 0).toInt = zVal (zWq i) 0 (zLen.getD i 0) := by decide +kernel
theorem zWord_at {g : Nat → Int32} {w e : Nat} {v : Int64} (hw : w ≤ e) (hl : ∀ j, w ≤ j → j < e → tkL (g j) = true) (hv : v.toInt = zVal g w (e - w)) : (zWord v).toInt = (zWordAt g w e : Int) := by
  have c : ∀ i, i < 12 → ((v = zKon.getD i 0) ↔ zWI g w e i = true) := fun i hi => by
    rw [← zVal_word hi hw hl, ← zKon_val i hi, ← hv]
    exact Int64.toInt_inj.symm
  have c0 : (v = zEight 0 0 0 3 18 15 19 19) ↔ zWI g w e 0 = true := c 0 (by decide)
  have c1 : (v = zFour 16 15 19 20) ↔ zWI g w e 1 = true := c 1 (by decide)
  have c2 : (v = zEight 0 23 1 12 11 5 18 19) ↔ zWI g w e 2 = true := c 2 (by decide)
  have c3 : (v = zFour 0 9 14 14) ↔ zWI g w e 3 = true := c 3 (by decide)
  have c4 : (v = zFour 3 1 13 5) ↔ zWI g w e 4 = true := c 4 (by decide)
  have c5 : (v = zEight 0 0 0 14 5 22 5 18) ↔ zWI g w e 5 = true := c 5 (by decide)
  have c6 : (v = zFour 0 0 7 15) ↔ zWI g w e 6 = true := c 6 (by decide)
  have c7 : (v = zFour 0 18 21 14) ↔ zWI g w e 7 = true := c 7 (by decide)
  have c8 : (v = zFour 20 21 18 14) ↔ zWI g w e 8 = true := c 8 (by decide)
  have c9 : (v = zFour 0 1 4 4) ↔ zWI g w e 9 = true := c 9 (by decide)
  have c10 : (v = zFour 19 8 21 20) ↔ zWI g w e 10 = true := c 10 (by decide)
  have c11 : (v = zFour 15 16 5 14) ↔ zWI g w e 11 = true := c 11 (by decide)
  unfold zWord zWordAt
  simp only [c0, c1, c2, c3, c4, c5, c6, c7, c8, c9, c10, c11]
  by_cases h0 : zWI g w e 0 = true
  · rw [if_pos h0, if_pos h0]; rfl
  rw [if_neg h0, if_neg h0]
  by_cases h1 : zWI g w e 1 = true
  · rw [if_pos h1, if_pos h1]; rfl
  rw [if_neg h1, if_neg h1]
  by_cases h2 : zWI g w e 2 = true
  · rw [if_pos h2, if_pos h2]; rfl
  rw [if_neg h2, if_neg h2]
  by_cases h3 : zWI g w e 3 = true
  · rw [if_pos h3, if_pos h3]; rfl
  rw [if_neg h3, if_neg h3]
  by_cases h6 : zWI g w e 6 = true
  · rw [if_pos h6, if_pos h6]; rfl
  rw [if_neg h6, if_neg h6]
  by_cases h7 : zWI g w e 7 = true
  · rw [if_pos h7, if_pos h7]; rfl
  rw [if_neg h7, if_neg h7]
  by_cases h8 : zWI g w e 8 = true
  · rw [if_pos h8, if_pos h8]; rfl
  rw [if_neg h8, if_neg h8]
  by_cases h9 : zWI g w e 9 = true
  · rw [if_pos h9, if_pos h9]; rfl
  rw [if_neg h9, if_neg h9]
  by_cases h10 : zWI g w e 10 = true
  · rw [if_pos h10, if_pos h10]; rfl
  rw [if_neg h10, if_neg h10]
  by_cases h11 : zWI g w e 11 = true
  · rw [if_pos h11, if_pos h11]; rfl
  rw [if_neg h11, if_neg h11]
  by_cases h4 : zWI g w e 4 = true
  · rw [if_pos h4, if_pos h4]; rfl
  rw [if_neg h4, if_neg h4]
  by_cases h5 : zWI g w e 5 = true
  · rw [if_pos h5, if_pos h5]; rfl
  rw [if_neg h5, if_neg h5]
  rfl
theorem zWd_long {g : Nat → Int32} {w e : Nat} (h : 7 < e - w) : zWordAt g w e = 99 := by
  rcases zWd_c g w e with ⟨i, hi, a, -⟩ | b
  · unfold zWI at a
    have q := (of_decide_eq_true a).1
    have := zLen_le i hi
    omega
  · exact b
def zBt (f : Nat → Int32) (n q : Nat) : Int32 := if q < n then f (10 + q) else -1
theorem zBt_lt {f : Nat → Int32} {n q : Nat} (h : ¬ (zBt f n q).toInt = -1) : q < n := by
  by_cases c : q < n
  · exact c
  · exact absurd (by unfold zBt; rw [if_neg c]; rfl) h
theorem zBt_e {f : Nat → Int32} {n q : Nat} (h : q < n) : zBt f n q = f (10 + q) := if_pos h
theorem zBt_neg {f : Nat → Int32} {n q : Nat} (hb : ∀ j, j < n → 0 ≤ (f (10 + j)).toInt) (h : (zBt f n q).toInt < 0) : n ≤ q := by
  by_cases c : q < n
  · rw [zBt_e c] at h
    have := hb q c
    omega
  · omega
theorem zBt_B {f : Nat → Int32} {n q : Nat} (h : (zBt f n q).toInt = 10 ∨ (zBt f n q).toInt = 32) : q < n ∧ tkB (f (10 + q)) = true := by
  have c : q < n := zBt_lt (f := f) (by omega)
  rw [zBt_e c] at h
  exact ⟨c, tkB_iff.mpr h⟩
theorem zBt_nB {f : Nat → Int32} {n q : Nat} (c : q < n) (h1 : ¬ (zBt f n q).toInt = 10) (h2 : ¬ (zBt f n q).toInt = 32) : tkB (f (10 + q)) = false := by
  rw [zBt_e c] at h1 h2
  exact tkB_f h1 h2
theorem zBt_L {f : Nat → Int32} {n q : Nat} (h1 : 97 ≤ (zBt f n q).toInt) (h2 : (zBt f n q).toInt ≤ 122) : q < n ∧ tkL (f (10 + q)) = true := by
  have c : q < n := zBt_lt (f := f) (by omega)
  rw [zBt_e c] at h1 h2
  exact ⟨c, tkL_iff.mpr ⟨h1, h2⟩⟩
theorem zBt_nL {f : Nat → Int32} {n q : Nat} (c : q < n) (h : (zBt f n q).toInt < 97 ∨ 122 < (zBt f n q).toInt) : tkL (f (10 + q)) = false := by
  rw [zBt_e c] at h
  exact tkL_f h
theorem zBt_D {f : Nat → Int32} {n q : Nat} (h1 : 48 ≤ (zBt f n q).toInt) (h2 : (zBt f n q).toInt ≤ 57) : q < n ∧ tkD (f (10 + q)) = true := by
  have c : q < n := zBt_lt (f := f) (by omega)
  rw [zBt_e c] at h1 h2
  exact ⟨c, tkD_iff.mpr ⟨h1, h2⟩⟩
theorem zBt_nD {f : Nat → Int32} {n q : Nat} (c : q < n) (h : (zBt f n q).toInt < 48 ∨ 57 < (zBt f n q).toInt) : tkD (f (10 + q)) = false := by
  rw [zBt_e c] at h
  exact tkD_f h
theorem zVal_0 {g : Nat → Int32} {w : Nat} : (0 : Int64).toInt = zVal g w (min (w - w) 8) := by rw [Nat.sub_self]; rfl
theorem z_l32 {v : Int64} {x : Int32} (h0 : 0 ≤ v.toInt) (h1 : v.toInt < 1099511627776) (hx : 97 ≤ x.toInt ∧ x.toInt ≤ 122) : (32 * v + x.toInt64 - 96).toInt = 32 * v.toInt + (x.toInt - 96) := by
  have e32 : (32 : Int64).toInt = 32 := rfl
  have e96 : (96 : Int64).toInt = 96 := rfl
  rw [Int64.toInt_sub, Int64.toInt_add, Int64.toInt_mul, Int32.toInt_toInt64, e32, e96]
  rw [Int.bmod_eq_of_le (n := 32 * v.toInt) (by omega) (by omega), Int.bmod_eq_of_le (n := 32 * v.toInt + x.toInt) (by omega) (by omega), Int.bmod_eq_of_le (by omega) (by omega)]
  omega
theorem zVal_p {g : Nat → Int32} {w y : Nat} {v : Int64} (hall : ∀ j, w ≤ j → j < y → tkL (g j) = true) (hv : v.toInt = zVal g w (min (y - w) 8)) : 0 ≤ v.toInt ∧ v.toInt < 1099511627776 := by
  have h := zVal_bd (g := g) (w := w) (min (y - w) 8) (fun j hj => hall (w + j) (by omega) (by omega))
  have p : ∀ k, k ≤ 8 → (32 : Int) ^ k ≤ 32 ^ 8 := by decide
  have q := p (min (y - w) 8) (by omega)
  rw [hv]
  have e : (32 : Int) ^ 8 = 1099511627776 := rfl
  omega
theorem zVal_a {g : Nat → Int32} {w y : Nat} {v : Int64} {x : Int32} (hw : w ≤ y) (hall : ∀ j, w ≤ j → j < y → tkL (g j) = true) (hx : x = g y) (hl : tkL (g y) = true) (hv : v.toInt = zVal g w (min (y - w) 8)) (h8 : y - w < 8) : (32 * v + x.toInt64 - 96).toInt = zVal g w (min (y + 1 - w) 8) := by
  have b := zVal_p hall hv
  have c := tkL_iff.mp hl
  rw [z_l32 b.1 b.2 (by rw [hx]; exact c), hv, show min (y + 1 - w) 8 = min (y - w) 8 + 1 by omega]
  conv => rhs; unfold zVal
  rw [show w + min (y - w) 8 = y by omega, hx]
theorem zVal_b {g : Nat → Int32} {w y : Nat} {v : Int64} (hv : v.toInt = zVal g w (min (y - w) 8)) (h8 : 8 ≤ y - w) : v.toInt = zVal g w (min (y + 1 - w) 8) := by
  rw [hv, show min (y - w) 8 = min (y + 1 - w) 8 by omega]
theorem zTokR_old {k : pT} {n p : Nat} {nx wh tk nu wo : Int32} (hk : pOk k n) (hp : p ≤ n) (hn : n ≤ 600) (h : zTokR k p nx wh tk nu wo) : 0 ≤ nx.toInt ∧ nx.toInt ≤ (nI n).toInt ∧ (nI p).toInt ≤ nx.toInt ∧ (tk.toInt = 0 ∨ (nI p).toInt < nx.toInt) ∧ 0 ≤ tk.toInt ∧ tk.toInt ≤ 4 := by
  obtain ⟨h1, h2, h3, -, -⟩ := h
  have q := hk p hp
  have t := pTk_le hk hp
  have e1 : nx.toInt = (pEn k p : Int) := by rw [h1]; exact nI_toInt (by omega)
  have e3 : tk.toInt = (pTk k p : Int) := by rw [h3]; exact nI_toInt (by omega)
  have e4 : (nI n).toInt = (n : Int) := nI_toInt (by omega)
  have e5 : (nI p).toInt = (p : Int) := nI_toInt (by omega)
  rw [e1, e3, e4, e5]
  refine ⟨by omega, by omega, by omega, ?_, by omega, by omega⟩
  by_cases c : pTk k p = 0
  · exact Or.inl (by omega)
  · have := q.2.2.2.1 (fun z => c (pTk_0.mpr z))
    exact Or.inr (by omega)
theorem tkV_m {g : Nat → Int32} {x z : Nat} {nu y : Int32} (hx : x ≤ z) (hz : z < x + 2) (hnu : nu.toInt = tkV g x (min z (x + 2))) (e : y.toInt = 10 * nu.toInt + (g z).toInt - 48) : y.toInt = tkV g x (min (z + 1) (x + 2)) := by
  rw [show min (z + 1) (x + 2) = z + 1 by omega, tkV_s hx hz, e, hnu, show min z (x + 2) = z by omega]
  omega
theorem tkV_b2 {g : Nat → Int32} {x z : Nat} {nu : Int32} (hx : x ≤ z) (hall : ∀ j, x ≤ j → j < z → tkD (g j) = true) (hnu : nu.toInt = tkV g x (min z (x + 2))) : 0 ≤ nu.toInt ∧ nu.toInt ≤ 99 := by
  rw [hnu]
  exact tkV_bd (fun j h1 h2 => hall j h1 (by omega)) (by omega) (by omega)
set_option maxHeartbeats 4000000 in
set_option maxRecDepth 100000 in
/-- byteAt -/
theorem c_fm_byteAt (l : Launch) (T : zTy) (mo : Nat) (m_all : Nat) (m_has : Nat) (i_size : Int32) (i_next : Int32) (i_where : Int32) (i_token : Int32) (i_number : Int32) (i_word : Int32) (i_wrong : Int32) (i_farCrossing : Int32) (m_read : Nat) (i_z0 : Int32) (i_crossings : Int32) (i_inns : Int32) (m_posts : Nat) (m_shut : Nat) (m_here : Nat) (i_steps : Int32) (i_done : Int32) (i_at : Int32) (i_gone : Int32) (m_was : Nat) (m_came : Nat) (m_seenAt : Nat) (m_rowWorth : Nat) (m_farBy : Nat) (m_used : Nat) (i_everywhere : Int32) (i_again0 : Int32) (i_d0 : Int32) (i_never : Int32) (i_firstCame : Int32) (i_longRun : Int32) (i_moved : Int32) (i_crowd : Int32) (i_l0 : Int32) (i_fitMany : Int32) (i_fitLeast : Int32) (i_fitMost : Int32) (m_fitPost : Nat) (m_fitEnd : Nat) (m_keptPosts : Nat) (i_x0 : Int32) (f_all : Nat → Int32) (x : Int32) (n : Nat) (qq : Nat) (hsn : i_size = nI n) (hxq : x = nI qq) (hn6 : n ≤ 600) (hq6 : qq ≤ 600) : zMi l T yX12_byteAt cX12_byteAt 2 (some .int) 1 0 0 [.ref mo, .int x] [[zO11 mo m_all m_has i_size i_next i_where i_token i_number i_word i_wrong i_farCrossing m_read i_z0 i_crossings i_inns m_posts m_shut m_here i_steps i_done i_at i_gone m_was m_came m_seenAt m_rowWorth m_farBy m_used i_everywhere i_again0 i_d0 i_never i_firstCame i_longRun i_moved i_crowd i_l0 i_fitMany i_fitLeast i_fitMost m_fitPost m_fitEnd m_keptPosts i_x0], [zAr T 0 m_all 3952 f_all]] (fun (r : Int32) bs => bs = [[zO11 mo m_all m_has i_size i_next i_where i_token i_number i_word i_wrong i_farCrossing m_read i_z0 i_crossings i_inns m_posts m_shut m_here i_steps i_done i_at i_gone m_was m_came m_seenAt m_rowWorth m_farBy m_used i_everywhere i_again0 i_d0 i_never i_firstCame i_longRun i_moved i_crowd i_l0 i_fitMany i_fitLeast i_fitMost m_fitPost m_fitEnd m_keptPosts i_x0], [zAr T 0 m_all 3952 f_all]] ∧ r = zBt f_all n qq) := by
  refine zMi_of (own := RX12) (by decide) rfl (Nat.le_of_ble_eq_true rfl) ?_
  intro p e s m args below meth c A ls C hr hlocks hnm hAe G hl
  refine zHide (fun Qz_ hQz_ => ?_)
  have hx := C.1
  have hb := C.2.1
  have hl : lv_has ls 2 [(0, .ref mo), (1, .int x)] := hl
  subst hsn
  subst hxq
  refine lv_iload_n hx hb dX12_byteAt_0 rfl (lv_at hl 1 rfl) ?_
  refine lv_aload_n hx hb dX12_byteAt_1 rfl (lv_at hl 0 rfl) ?_
  refine z_get C G clX12 0 rfl 2 (by decide) m_fl_RX12_56 rfl dX12_byteAt_2 ?_
  refine lv_icmp_ge (tgt := 20) hx hb dX12_byteAt_5 (by decide) (fun c_1 => ?_) (fun c_1 => ?_)
  · have c_1n : n ≤ qq := (nI_leI (a := n) (b := qq) (by omega) (by omega)).mp c_1
    refine lv_iconst (v := (-1)) hx hb dX12_byteAt_20 (by decide) ?_
    exact z_back hQz_ (z_iret C hr hlocks G (Nat.le_of_ble_eq_true rfl) (Nat.le_of_ble_eq_true rfl) dX12_byteAt_21 ⟨rfl, (by unfold zBt; rw [if_neg (by omega)])⟩)
  · have c_1n : ¬ n ≤ qq := fun q => c_1 ((nI_leI (a := n) (b := qq) (by omega) (by omega)).mpr q)
    refine lv_aload_n hx hb dX12_byteAt_8 rfl (lv_at hl 0 rfl) ?_
    refine z_get C G clX12 0 rfl 0 (by decide) m_fl_RX12_7 rfl dX12_byteAt_9 ?_
    refine lv_bipush (v := 10) hx hb dX12_byteAt_12 (by decide) ?_
    refine lv_iload_n hx hb dX12_byteAt_14 rfl (lv_at hl 1 rfl) ?_
    refine lv_iadd hx hb dX12_byteAt_15 ?_
    refine lv_topi (fun y_2 ey_2 => ?_)
    obtain rfl : y_2 = nI (10 + qq) := ey_2.trans (z_iaddn 10 qq rfl rfl)
    refine z_ild C G 1 rfl (vp_in_nI (by omega) (by decide)) dX12_byteAt_16 ?_
    refine lv_topi (fun v_3 ev_3 => ?_)
    rw [nI_clamp (by omega)] at ev_3
    subst ev_3
    refine lv_goto (tgt := 21) hx hb dX12_byteAt_17 (by decide) ?_
    exact z_back hQz_ (z_iret C hr hlocks G (Nat.le_of_ble_eq_true rfl) (Nat.le_of_ble_eq_true rfl) dX12_byteAt_21 ⟨rfl, (by unfold zBt; rw [if_pos (by omega)])⟩)
set_option maxHeartbeats 4000000 in
set_option maxRecDepth 100000 in
/-- c_fm_advance -/
theorem c_fm_advance (l : Launch) (T : zTy) (mo : Nat) (m_all : Nat) (m_has : Nat) (i_size : Int32) (i_next : Int32) (i_where : Int32) (i_token : Int32) (i_number : Int32) (i_word : Int32) (i_wrong : Int32) (i_farCrossing : Int32) (m_read : Nat) (i_z0 : Int32) (i_crossings : Int32) (i_inns : Int32) (m_posts : Nat) (m_shut : Nat) (m_here : Nat) (i_steps : Int32) (i_done : Int32) (i_at : Int32) (i_gone : Int32) (m_was : Nat) (m_came : Nat) (m_seenAt : Nat) (m_rowWorth : Nat) (m_farBy : Nat) (m_used : Nat) (i_everywhere : Int32) (i_again0 : Int32) (i_d0 : Int32) (i_never : Int32) (i_firstCame : Int32) (i_longRun : Int32) (i_moved : Int32) (i_crowd : Int32) (i_l0 : Int32) (i_fitMany : Int32) (i_fitLeast : Int32) (i_fitMost : Int32) (m_fitPost : Nat) (m_fitEnd : Nat) (m_keptPosts : Nat) (i_x0 : Int32) (f_all : Nat → Int32) (pp : Nat) (n : Nat) (k : pT) (hsn : i_size = nI n) (hp : i_next = nI pp) (hpn : pp ≤ n) (hn6 : n ≤ 600) (hk : k = tkT (fun j => f_all (10 + j)) n) (hby : ∀ j, j < n → 0 ≤ (f_all (10 + j)).toInt) : zMv l T yX12_advance cX12_advance 4 4 0 0 [.ref mo] [[zO11 mo m_all m_has i_size i_next i_where i_token i_number i_word i_wrong i_farCrossing m_read i_z0 i_crossings i_inns m_posts m_shut m_here i_steps i_done i_at i_gone m_was m_came m_seenAt m_rowWorth m_farBy m_used i_everywhere i_again0 i_d0 i_never i_firstCame i_longRun i_moved i_crowd i_l0 i_fitMany i_fitLeast i_fitMost m_fitPost m_fitEnd m_keptPosts i_x0], [zAr T 0 m_all 3952 f_all]] (fun bs => ∃ (j_next : Int32) (j_where : Int32) (j_token : Int32) (j_number : Int32) (j_word : Int32), bs = [[zO11 mo m_all m_has i_size j_next j_where j_token j_number j_word i_wrong i_farCrossing m_read i_z0 i_crossings i_inns m_posts m_shut m_here i_steps i_done i_at i_gone m_was m_came m_seenAt m_rowWorth m_farBy m_used i_everywhere i_again0 i_d0 i_never i_firstCame i_longRun i_moved i_crowd i_l0 i_fitMany i_fitLeast i_fitMost m_fitPost m_fitEnd m_keptPosts i_x0], [zAr T 0 m_all 3952 f_all]] ∧ 0 ≤ j_next.toInt ∧ j_next.toInt ≤ i_size.toInt ∧ i_next.toInt ≤ j_next.toInt ∧ (j_token.toInt = 0 ∨ i_next.toInt < j_next.toInt) ∧ 0 ≤ j_token.toInt ∧ j_token.toInt ≤ 4 ∧ zTokR k pp j_next j_where j_token j_number j_word) := by
  refine zMv_of (own := RX12) (by decide) rfl (Nat.le_of_ble_eq_true rfl) ?_
  intro p e s m args below meth c A ls C hr hlocks hnm hAe G hl
  refine zHide (fun Qz_ hQz_ => ?_)
  have hx := C.1
  have hb := C.2.1
  have hl : lv_has ls 4 [(0, .ref mo)] := hl
  subst hsn
  subst hp
  subst hk
  refine z_lp1 (T := T) 0 (fun (x : Nat) => [[zO11 mo m_all m_has (nI n) (nI x) i_where i_token i_number i_word i_wrong i_farCrossing m_read i_z0 i_crossings i_inns m_posts m_shut m_here i_steps i_done i_at i_gone m_was m_came m_seenAt m_rowWorth m_farBy m_used i_everywhere i_again0 i_d0 i_never i_firstCame i_longRun i_moved i_crowd i_l0 i_fitMany i_fitLeast i_fitMost m_fitPost m_fitEnd m_keptPosts i_x0], [zAr T 0 m_all 3952 f_all]]) (fun (x : Nat) => [(0, .ref mo)]) (fun (x : Nat) => (pp ≤ x ∧ x ≤ n) ∧ (∀ j, pp ≤ j → j < x → tkB (f_all (10 + j)) = true)) (fun (x : Nat) => n - x) ?_ pp (show (pp ≤ pp ∧ pp ≤ n) ∧ (∀ j, pp ≤ j → j < pp → tkB (f_all (10 + j)) = true) from ⟨(by omega), (fun j h1 h2 => by omega)⟩) G (lv_sub hl [0] rfl)
  intro x hI9 ih_0 H locs ls G hl
  replace hI9 : (pp ≤ x ∧ x ≤ n) ∧ (∀ j, pp ≤ j → j < x → tkB (f_all (10 + j)) = true) := hI9
  refine zAn2 hI9 ?_
  intro hxq hall
  clear hI9
  replace G : zS T A s.heap s [[zO11 mo m_all m_has (nI n) (nI x) i_where i_token i_number i_word i_wrong i_farCrossing m_read i_z0 i_crossings i_inns m_posts m_shut m_here i_steps i_done i_at i_gone m_was m_came m_seenAt m_rowWorth m_farBy m_used i_everywhere i_again0 i_d0 i_never i_firstCame i_longRun i_moved i_crowd i_l0 i_fitMany i_fitLeast i_fitMost m_fitPost m_fitEnd m_keptPosts i_x0], [zAr T 0 m_all 3952 f_all]] _ _ := G
  replace hl : lv_has ls 4 [(0, .ref mo)] := hl
  refine lv_aload_n hx hb dX12_advance_0 rfl (lv_at hl 0 rfl) ?_
  refine lv_aload_n hx hb dX12_advance_1 rfl (lv_at hl 0 rfl) ?_
  refine z_get C G clX12 0 rfl 3 (by decide) m_fl_RX12_70 rfl dX12_advance_2 ?_
  refine z_Vi (bc := [[zO11 mo m_all m_has (nI n) (nI x) i_where i_token i_number i_word i_wrong i_farCrossing m_read i_z0 i_crossings i_inns m_posts m_shut m_here i_steps i_done i_at i_gone m_was m_came m_seenAt m_rowWorth m_farBy m_used i_everywhere i_again0 i_d0 i_never i_firstCame i_longRun i_moved i_crowd i_l0 i_fitMany i_fitLeast i_fitMost m_fitPost m_fitEnd m_keptPosts i_x0], [zAr T 0 m_all 3952 f_all]]) (br := []) (As := [.int (nI x)]) (rest := []) C G (c_fm_byteAt l T mo m_all m_has (nI n) (nI x) i_where i_token i_number i_word i_wrong i_farCrossing m_read i_z0 i_crossings i_inns m_posts m_shut m_here i_steps i_done i_at i_gone m_was m_came m_seenAt m_rowWorth m_farBy m_used i_everywhere i_again0 i_d0 i_never i_firstCame i_longRun i_moved i_crowd i_l0 i_fitMany i_fitLeast i_fitMost m_fitPost m_fitEnd m_keptPosts i_x0 f_all (nI x) n x rfl rfl (by first | with_reducible assumption | with_reducible rfl | omega | assumption | rfl) (by first | with_reducible assumption | with_reducible rfl | omega | assumption | rfl)) (kV_RX12_73 C.2.2.2.2 (Nat.le_of_ble_eq_true rfl) (Nat.le_of_ble_eq_true rfl)) [0, 1] [0, 0] rfl rfl (ci := 11) (qc := (RX12, TX12, 43)) rfl rfl (List.mem_flatten.mpr ⟨_, List.mem_of_getElem? (i := 0) rfl, List.mem_cons_self⟩) rfl rfl hl.1 dX12_advance_5 (Nat.le_of_ble_eq_true rfl) (Nat.le_of_ble_eq_true rfl) (fun r_2 b1 H locs hw G => ?_)
  refine zAn2 hw ?_
  intro hbs9 h_1
  clear hw
  subst hbs9
  have G : zS T A s.heap s [[zO11 mo m_all m_has (nI n) (nI x) i_where i_token i_number i_word i_wrong i_farCrossing m_read i_z0 i_crossings i_inns m_posts m_shut m_here i_steps i_done i_at i_gone m_was m_came m_seenAt m_rowWorth m_farBy m_used i_everywhere i_again0 i_d0 i_never i_firstCame i_longRun i_moved i_crowd i_l0 i_fitMany i_fitLeast i_fitMost m_fitPost m_fitEnd m_keptPosts i_x0], [zAr T 0 m_all 3952 f_all]] _ _ := G
  subst h_1
  refine lv_bipush (v := 10) hx hb dX12_advance_8 (by decide) ?_
  refine lv_icmp_eq (tgt := 26) hx hb dX12_advance_10 (by decide) (fun c_3 => ?_) (fun c_3 => ?_)
  · have c_3n : (zBt f_all n x).toInt = (10 : Int) := (fa_eq _ _).mp c_3
    have hz9 := zBt_B (show (zBt f_all n x).toInt = 10 ∨ (zBt f_all n x).toInt = 32 by omega)
    have hlt := hz9.1
    refine lv_aload_n hx hb dX12_advance_26 rfl (lv_at hl 0 rfl) ?_
    refine lv_dup hx hb dX12_advance_27 rfl ?_
    refine z_get C G clX12 0 rfl 3 (by decide) m_fl_RX12_70 rfl dX12_advance_28 ?_
    refine lv_iconst (v := 1) hx hb dX12_advance_31 (by decide) ?_
    refine lv_iadd hx hb dX12_advance_32 ?_
    refine lv_topi (fun y_4 ey_4 => ?_)
    obtain rfl : y_4 = nI (x + 1) := ey_4.trans (z_iaddn x 1 rfl rfl)
    refine z_put C G clX12 0 rfl 3 (by decide) m_fl_RX12_70 rfl rfl rfl (Nat.le_of_ble_eq_true rfl) dX12_advance_33 (fun H locs G => ?_)
    have G : zS T A s.heap s [[zO11 mo m_all m_has (nI n) (nI (x + 1)) i_where i_token i_number i_word i_wrong i_farCrossing m_read i_z0 i_crossings i_inns m_posts m_shut m_here i_steps i_done i_at i_gone m_was m_came m_seenAt m_rowWorth m_farBy m_used i_everywhere i_again0 i_d0 i_never i_firstCame i_longRun i_moved i_crowd i_l0 i_fitMany i_fitLeast i_fitMost m_fitPost m_fitEnd m_keptPosts i_x0], [zAr T 0 m_all 3952 f_all]] _ _ := G
    refine lv_goto (tgt := 0) hx hb dX12_advance_36 (by decide) ?_
    exact ih_0 (x + 1) (show (pp ≤ (x + 1) ∧ (x + 1) ≤ n) ∧ (∀ j, pp ≤ j → j < (x + 1) → tkB (f_all (10 + j)) = true) from ⟨(by omega), (z_allS (f := (fun j => f_all (10 + j))) hall hz9.2)⟩) (show n - (x + 1) < n - x from by omega) _ _ ls G (lv_sub hl [0] rfl)
  · have c_3n : ¬ (zBt f_all n x).toInt = (10 : Int) := fun q => c_3 ((fa_eq _ _).mpr q)
    refine lv_aload_n hx hb dX12_advance_13 rfl (lv_at hl 0 rfl) ?_
    refine lv_aload_n hx hb dX12_advance_14 rfl (lv_at hl 0 rfl) ?_
    refine z_get C G clX12 0 rfl 3 (by decide) m_fl_RX12_70 rfl dX12_advance_15 ?_
    refine z_Vi (bc := [[zO11 mo m_all m_has (nI n) (nI x) i_where i_token i_number i_word i_wrong i_farCrossing m_read i_z0 i_crossings i_inns m_posts m_shut m_here i_steps i_done i_at i_gone m_was m_came m_seenAt m_rowWorth m_farBy m_used i_everywhere i_again0 i_d0 i_never i_firstCame i_longRun i_moved i_crowd i_l0 i_fitMany i_fitLeast i_fitMost m_fitPost m_fitEnd m_keptPosts i_x0], [zAr T 0 m_all 3952 f_all]]) (br := []) (As := [.int (nI x)]) (rest := []) C G (c_fm_byteAt l T mo m_all m_has (nI n) (nI x) i_where i_token i_number i_word i_wrong i_farCrossing m_read i_z0 i_crossings i_inns m_posts m_shut m_here i_steps i_done i_at i_gone m_was m_came m_seenAt m_rowWorth m_farBy m_used i_everywhere i_again0 i_d0 i_never i_firstCame i_longRun i_moved i_crowd i_l0 i_fitMany i_fitLeast i_fitMost m_fitPost m_fitEnd m_keptPosts i_x0 f_all (nI x) n x rfl rfl (by first | with_reducible assumption | with_reducible rfl | omega | assumption | rfl) (by first | with_reducible assumption | with_reducible rfl | omega | assumption | rfl)) (kV_RX12_73 C.2.2.2.2 (Nat.le_of_ble_eq_true rfl) (Nat.le_of_ble_eq_true rfl)) [0, 1] [0, 0] rfl rfl (ci := 11) (qc := (RX12, TX12, 43)) rfl rfl (List.mem_flatten.mpr ⟨_, List.mem_of_getElem? (i := 0) rfl, List.mem_cons_self⟩) rfl rfl hl.1 dX12_advance_18 (Nat.le_of_ble_eq_true rfl) (Nat.le_of_ble_eq_true rfl) (fun r_6 b1 H locs hw G => ?_)
    refine zAn2 hw ?_
    intro hbs9 h_5
    clear hw
    subst hbs9
    have G : zS T A s.heap s [[zO11 mo m_all m_has (nI n) (nI x) i_where i_token i_number i_word i_wrong i_farCrossing m_read i_z0 i_crossings i_inns m_posts m_shut m_here i_steps i_done i_at i_gone m_was m_came m_seenAt m_rowWorth m_farBy m_used i_everywhere i_again0 i_d0 i_never i_firstCame i_longRun i_moved i_crowd i_l0 i_fitMany i_fitLeast i_fitMost m_fitPost m_fitEnd m_keptPosts i_x0], [zAr T 0 m_all 3952 f_all]] _ _ := G
    subst h_5
    refine lv_bipush (v := 32) hx hb dX12_advance_21 (by decide) ?_
    refine lv_icmp_ne (tgt := 39) hx hb dX12_advance_23 (by decide) (fun c_7 => ?_) (fun c_7 => ?_)
    · have c_7n : ¬ (zBt f_all n x).toInt = (32 : Int) := fun q => c_7 ((fa_eq _ _).mpr q)
      have hB : zRun tkB (fun j => f_all (10 + j)) n pp x := ⟨hxq.1, Or.inl hxq.2, hall, fun h9 => zBt_nB h9 (by omega) (by omega)⟩
      refine lv_aload_n hx hb dX12_advance_39 rfl (lv_at hl 0 rfl) ?_
      refine lv_aload_n hx hb dX12_advance_40 rfl (lv_at hl 0 rfl) ?_
      refine z_get C G clX12 0 rfl 3 (by decide) m_fl_RX12_70 rfl dX12_advance_41 ?_
      refine z_put C G clX12 0 rfl 4 (by decide) m_fl_RX12_77 rfl rfl rfl (Nat.le_of_ble_eq_true rfl) dX12_advance_44 (fun H locs G => ?_)
      have G : zS T A s.heap s [[zO11 mo m_all m_has (nI n) (nI x) (nI x) i_token i_number i_word i_wrong i_farCrossing m_read i_z0 i_crossings i_inns m_posts m_shut m_here i_steps i_done i_at i_gone m_was m_came m_seenAt m_rowWorth m_farBy m_used i_everywhere i_again0 i_d0 i_never i_firstCame i_longRun i_moved i_crowd i_l0 i_fitMany i_fitLeast i_fitMost m_fitPost m_fitEnd m_keptPosts i_x0], [zAr T 0 m_all 3952 f_all]] _ _ := G
      refine lv_aload_n hx hb dX12_advance_47 rfl (lv_at hl 0 rfl) ?_
      refine lv_aload_n hx hb dX12_advance_48 rfl (lv_at hl 0 rfl) ?_
      refine z_get C G clX12 0 rfl 3 (by decide) m_fl_RX12_70 rfl dX12_advance_49 ?_
      refine z_Vi (bc := [[zO11 mo m_all m_has (nI n) (nI x) (nI x) i_token i_number i_word i_wrong i_farCrossing m_read i_z0 i_crossings i_inns m_posts m_shut m_here i_steps i_done i_at i_gone m_was m_came m_seenAt m_rowWorth m_farBy m_used i_everywhere i_again0 i_d0 i_never i_firstCame i_longRun i_moved i_crowd i_l0 i_fitMany i_fitLeast i_fitMost m_fitPost m_fitEnd m_keptPosts i_x0], [zAr T 0 m_all 3952 f_all]]) (br := []) (As := [.int (nI x)]) (rest := []) C G (c_fm_byteAt l T mo m_all m_has (nI n) (nI x) (nI x) i_token i_number i_word i_wrong i_farCrossing m_read i_z0 i_crossings i_inns m_posts m_shut m_here i_steps i_done i_at i_gone m_was m_came m_seenAt m_rowWorth m_farBy m_used i_everywhere i_again0 i_d0 i_never i_firstCame i_longRun i_moved i_crowd i_l0 i_fitMany i_fitLeast i_fitMost m_fitPost m_fitEnd m_keptPosts i_x0 f_all (nI x) n x rfl rfl (by first | with_reducible assumption | with_reducible rfl | omega | assumption | rfl) (by first | with_reducible assumption | with_reducible rfl | omega | assumption | rfl)) (kV_RX12_73 C.2.2.2.2 (Nat.le_of_ble_eq_true rfl) (Nat.le_of_ble_eq_true rfl)) [0, 1] [0, 0] rfl rfl (ci := 11) (qc := (RX12, TX12, 43)) rfl rfl (List.mem_flatten.mpr ⟨_, List.mem_of_getElem? (i := 0) rfl, List.mem_cons_self⟩) rfl rfl hl.1 dX12_advance_52 (Nat.le_of_ble_eq_true rfl) (Nat.le_of_ble_eq_true rfl) (fun r_9 b1 H locs hw G => ?_)
      refine zAn2 hw ?_
      intro hbs9 h_8
      clear hw
      subst hbs9
      have G : zS T A s.heap s [[zO11 mo m_all m_has (nI n) (nI x) (nI x) i_token i_number i_word i_wrong i_farCrossing m_read i_z0 i_crossings i_inns m_posts m_shut m_here i_steps i_done i_at i_gone m_was m_came m_seenAt m_rowWorth m_farBy m_used i_everywhere i_again0 i_d0 i_never i_firstCame i_longRun i_moved i_crowd i_l0 i_fitMany i_fitLeast i_fitMost m_fitPost m_fitEnd m_keptPosts i_x0], [zAr T 0 m_all 3952 f_all]] _ _ := G
      subst h_8
      refine lv_istore_n (lv' := [(1, .int (zBt f_all n x)), (0, .ref mo)]) hx hb dX12_advance_55 rfl hl (by decide) (zLvf_h rfl) (fun ls hl => ?_)
      refine lv_iload_n hx hb dX12_advance_56 rfl (lv_at hl 0 rfl) ?_
      refine lv_if_ge (tgt := 68) hx hb dX12_advance_57 (by decide) (fun c_10 => ?_) (fun c_10 => ?_)
      · have c_10n : (0 : Int) ≤ (zBt f_all n x).toInt := (fa_le _ _).mp c_10
        have hlt : x < n := zBt_lt (f := f_all) (by omega)
        have hbx : zBt f_all n x = f_all (10 + x) := zBt_e hlt
        refine lv_iload_n hx hb dX12_advance_68 rfl (lv_at hl 0 rfl) ?_
        refine z_Si (bc := []) (br := [[zO11 mo m_all m_has (nI n) (nI x) (nI x) i_token i_number i_word i_wrong i_farCrossing m_read i_z0 i_crossings i_inns m_posts m_shut m_here i_steps i_done i_at i_gone m_was m_came m_seenAt m_rowWorth m_farBy m_used i_everywhere i_again0 i_d0 i_never i_firstCame i_longRun i_moved i_crowd i_l0 i_fitMany i_fitLeast i_fitMost m_fitPost m_fitEnd m_keptPosts i_x0], [zAr T 0 m_all 3952 f_all]]) (As := [.int (zBt f_all n x)]) (rest := []) C G (c_m_isLetter l T (zBt f_all n x)) (kS_RX12_83 C.2.2.2.2 (Nat.le_of_ble_eq_true rfl) (Nat.le_of_ble_eq_true rfl)) [] [] rfl rfl rfl rfl hl.1 dX12_advance_69 (Nat.le_of_ble_eq_true rfl) (Nat.le_of_ble_eq_true rfl) (fun r_12 b1 H locs hw G => ?_)
        refine zAn2 hw ?_
        intro hbs9 hc_11
        clear hw
        subst hbs9
        have G : zS T A s.heap s [[zO11 mo m_all m_has (nI n) (nI x) (nI x) i_token i_number i_word i_wrong i_farCrossing m_read i_z0 i_crossings i_inns m_posts m_shut m_here i_steps i_done i_at i_gone m_was m_came m_seenAt m_rowWorth m_farBy m_used i_everywhere i_again0 i_d0 i_never i_firstCame i_longRun i_moved i_crowd i_l0 i_fitMany i_fitLeast i_fitMost m_fitPost m_fitEnd m_keptPosts i_x0], [zAr T 0 m_all 3952 f_all]] _ _ := G
        rcases hc_11 with ⟨rfl, h_13, h_14⟩ | ⟨rfl, h_15⟩
        · have h_13 : 97 ≤ (zBt f_all n x).toInt := h_13
          have h_14 : (zBt f_all n x).toInt ≤ 122 := h_14
          refine lv_if_eq (tgt := 186) hx hb dX12_advance_72 (by decide) (fun q => absurd q (by decide)) (fun _ => ?_)
          refine lv_lconst (v := 0) hx hb dX12_advance_75 (by decide) ?_
          refine lv_lstore_n (lv' := [(2, .long 0), (1, .int (zBt f_all n x)), (0, .ref mo)]) hx hb dX12_advance_76 rfl hl (by decide) rfl (fun ls hl => ?_)
          refine z_lp2 (T := T) 77 (fun (y : Nat) (v : Int64) => [[zO11 mo m_all m_has (nI n) (nI y) (nI x) i_token i_number i_word i_wrong i_farCrossing m_read i_z0 i_crossings i_inns m_posts m_shut m_here i_steps i_done i_at i_gone m_was m_came m_seenAt m_rowWorth m_farBy m_used i_everywhere i_again0 i_d0 i_never i_firstCame i_longRun i_moved i_crowd i_l0 i_fitMany i_fitLeast i_fitMost m_fitPost m_fitEnd m_keptPosts i_x0], [zAr T 0 m_all 3952 f_all]]) (fun (y : Nat) (v : Int64) => [(2, .long v), (1, .int (zBt f_all n x)), (0, .ref mo)]) (fun (y : Nat) (v : Int64) => (x ≤ y ∧ y ≤ n) ∧ (∀ j, x ≤ j → j < y → tkL (f_all (10 + j)) = true) ∧ v.toInt = zVal (fun j => f_all (10 + j)) x (min (y - x) 8)) (fun (y : Nat) (v : Int64) => n - y) ?_ x 0 (show (x ≤ x ∧ x ≤ n) ∧ (∀ j, x ≤ j → j < x → tkL (f_all (10 + j)) = true) ∧ (0 : Int32).toInt = zVal (fun j => f_all (10 + j)) x (min (x - x) 8) from ⟨(by omega), (fun j h1 h2 => by omega), zVal_0⟩) G (lv_sub hl [0, 1, 2] rfl)
          intro y v hI9 ih_77 H locs ls G hl
          replace hI9 : (x ≤ y ∧ y ≤ n) ∧ (∀ j, x ≤ j → j < y → tkL (f_all (10 + j)) = true) ∧ v.toInt = zVal (fun j => f_all (10 + j)) x (min (y - x) 8) := hI9
          refine zAn3 hI9 ?_
          intro hyq hally hvv
          clear hI9
          replace G : zS T A s.heap s [[zO11 mo m_all m_has (nI n) (nI y) (nI x) i_token i_number i_word i_wrong i_farCrossing m_read i_z0 i_crossings i_inns m_posts m_shut m_here i_steps i_done i_at i_gone m_was m_came m_seenAt m_rowWorth m_farBy m_used i_everywhere i_again0 i_d0 i_never i_firstCame i_longRun i_moved i_crowd i_l0 i_fitMany i_fitLeast i_fitMost m_fitPost m_fitEnd m_keptPosts i_x0], [zAr T 0 m_all 3952 f_all]] _ _ := G
          replace hl : lv_has ls 4 [(2, .long v), (1, .int (zBt f_all n x)), (0, .ref mo)] := hl
          refine lv_aload_n hx hb dX12_advance_77 rfl (lv_at hl 2 rfl) ?_
          refine lv_aload_n hx hb dX12_advance_78 rfl (lv_at hl 2 rfl) ?_
          refine z_get C G clX12 0 rfl 3 (by decide) m_fl_RX12_70 rfl dX12_advance_79 ?_
          refine z_Vi (bc := [[zO11 mo m_all m_has (nI n) (nI y) (nI x) i_token i_number i_word i_wrong i_farCrossing m_read i_z0 i_crossings i_inns m_posts m_shut m_here i_steps i_done i_at i_gone m_was m_came m_seenAt m_rowWorth m_farBy m_used i_everywhere i_again0 i_d0 i_never i_firstCame i_longRun i_moved i_crowd i_l0 i_fitMany i_fitLeast i_fitMost m_fitPost m_fitEnd m_keptPosts i_x0], [zAr T 0 m_all 3952 f_all]]) (br := []) (As := [.int (nI y)]) (rest := []) C G (c_fm_byteAt l T mo m_all m_has (nI n) (nI y) (nI x) i_token i_number i_word i_wrong i_farCrossing m_read i_z0 i_crossings i_inns m_posts m_shut m_here i_steps i_done i_at i_gone m_was m_came m_seenAt m_rowWorth m_farBy m_used i_everywhere i_again0 i_d0 i_never i_firstCame i_longRun i_moved i_crowd i_l0 i_fitMany i_fitLeast i_fitMost m_fitPost m_fitEnd m_keptPosts i_x0 f_all (nI y) n y rfl rfl (by first | with_reducible assumption | with_reducible rfl | omega | assumption | rfl) (by first | with_reducible assumption | with_reducible rfl | omega | assumption | rfl)) (kV_RX12_73 C.2.2.2.2 (Nat.le_of_ble_eq_true rfl) (Nat.le_of_ble_eq_true rfl)) [0, 1] [0, 0] rfl rfl (ci := 11) (qc := (RX12, TX12, 43)) rfl rfl (List.mem_flatten.mpr ⟨_, List.mem_of_getElem? (i := 0) rfl, List.mem_cons_self⟩) rfl rfl hl.1 dX12_advance_82 (Nat.le_of_ble_eq_true rfl) (Nat.le_of_ble_eq_true rfl) (fun r_17 b1 H locs hw G => ?_)
          refine zAn2 hw ?_
          intro hbs9 h_16
          clear hw
          subst hbs9
          have G : zS T A s.heap s [[zO11 mo m_all m_has (nI n) (nI y) (nI x) i_token i_number i_word i_wrong i_farCrossing m_read i_z0 i_crossings i_inns m_posts m_shut m_here i_steps i_done i_at i_gone m_was m_came m_seenAt m_rowWorth m_farBy m_used i_everywhere i_again0 i_d0 i_never i_firstCame i_longRun i_moved i_crowd i_l0 i_fitMany i_fitLeast i_fitMost m_fitPost m_fitEnd m_keptPosts i_x0], [zAr T 0 m_all 3952 f_all]] _ _ := G
          subst h_16
          refine z_Si (bc := []) (br := [[zO11 mo m_all m_has (nI n) (nI y) (nI x) i_token i_number i_word i_wrong i_farCrossing m_read i_z0 i_crossings i_inns m_posts m_shut m_here i_steps i_done i_at i_gone m_was m_came m_seenAt m_rowWorth m_farBy m_used i_everywhere i_again0 i_d0 i_never i_firstCame i_longRun i_moved i_crowd i_l0 i_fitMany i_fitLeast i_fitMost m_fitPost m_fitEnd m_keptPosts i_x0], [zAr T 0 m_all 3952 f_all]]) (As := [.int (zBt f_all n y)]) (rest := []) C G (c_m_isLetter l T (zBt f_all n y)) (kS_RX12_83 C.2.2.2.2 (Nat.le_of_ble_eq_true rfl) (Nat.le_of_ble_eq_true rfl)) [] [] rfl rfl rfl rfl hl.1 dX12_advance_85 (Nat.le_of_ble_eq_true rfl) (Nat.le_of_ble_eq_true rfl) (fun r_19 b1 H locs hw G => ?_)
          refine zAn2 hw ?_
          intro hbs9 hc_18
          clear hw
          subst hbs9
          have G : zS T A s.heap s [[zO11 mo m_all m_has (nI n) (nI y) (nI x) i_token i_number i_word i_wrong i_farCrossing m_read i_z0 i_crossings i_inns m_posts m_shut m_here i_steps i_done i_at i_gone m_was m_came m_seenAt m_rowWorth m_farBy m_used i_everywhere i_again0 i_d0 i_never i_firstCame i_longRun i_moved i_crowd i_l0 i_fitMany i_fitLeast i_fitMost m_fitPost m_fitEnd m_keptPosts i_x0], [zAr T 0 m_all 3952 f_all]] _ _ := G
          rcases hc_18 with ⟨rfl, h_20, h_21⟩ | ⟨rfl, h_22⟩
          · have h_20 : 97 ≤ (zBt f_all n y).toInt := h_20
            have h_21 : (zBt f_all n y).toInt ≤ 122 := h_21
            have hlz := zBt_L h_20 h_21
            refine lv_if_eq (tgt := 138) hx hb dX12_advance_88 (by decide) (fun q => absurd q (by decide)) (fun _ => ?_)
            refine lv_aload_n hx hb dX12_advance_91 rfl (lv_at hl 2 rfl) ?_
            refine z_get C G clX12 0 rfl 3 (by decide) m_fl_RX12_70 rfl dX12_advance_92 ?_
            refine lv_aload_n hx hb dX12_advance_95 rfl (lv_at hl 2 rfl) ?_
            refine z_get C G clX12 0 rfl 4 (by decide) m_fl_RX12_77 rfl dX12_advance_96 ?_
            refine lv_isub hx hb dX12_advance_99 ?_
            refine lv_topi (fun y_23 ey_23 => ?_)
            have ey_23i : y_23.toInt = (y : Int) - (x : Int) := by rw [ey_23]; exact (z_isubI (x := (nI y)) (y := (nI x)) (by rw [nI_toInt (n := y) (by omega), nI_toInt (n := x) (by omega)]; show -2147483648 ≤ (y : Int) - (x : Int); omega) (by rw [nI_toInt (n := y) (by omega), nI_toInt (n := x) (by omega)]; show (y : Int) - (x : Int) < 2147483648; omega)).trans (by rw [nI_toInt (n := y) (by omega), nI_toInt (n := x) (by omega)] <;> rfl)
            refine lv_bipush (v := 8) hx hb dX12_advance_100 (by decide) ?_
            refine lv_icmp_ge (tgt := 125) hx hb dX12_advance_102 (by decide) (fun c_24 => ?_) (fun c_24 => ?_)
            · have c_24n : (8 : Int) ≤ y_23.toInt := (fa_le _ _).mp c_24
              refine lv_aload_n hx hb dX12_advance_125 rfl (lv_at hl 2 rfl) ?_
              refine lv_dup hx hb dX12_advance_126 rfl ?_
              refine z_get C G clX12 0 rfl 3 (by decide) m_fl_RX12_70 rfl dX12_advance_127 ?_
              refine lv_iconst (v := 1) hx hb dX12_advance_130 (by decide) ?_
              refine lv_iadd hx hb dX12_advance_131 ?_
              refine lv_topi (fun y_25 ey_25 => ?_)
              obtain rfl : y_25 = nI (y + 1) := ey_25.trans (z_iaddn y 1 rfl rfl)
              refine z_put C G clX12 0 rfl 3 (by decide) m_fl_RX12_70 rfl rfl rfl (Nat.le_of_ble_eq_true rfl) dX12_advance_132 (fun H locs G => ?_)
              have G : zS T A s.heap s [[zO11 mo m_all m_has (nI n) (nI (y + 1)) (nI x) i_token i_number i_word i_wrong i_farCrossing m_read i_z0 i_crossings i_inns m_posts m_shut m_here i_steps i_done i_at i_gone m_was m_came m_seenAt m_rowWorth m_farBy m_used i_everywhere i_again0 i_d0 i_never i_firstCame i_longRun i_moved i_crowd i_l0 i_fitMany i_fitLeast i_fitMost m_fitPost m_fitEnd m_keptPosts i_x0], [zAr T 0 m_all 3952 f_all]] _ _ := G
              refine lv_goto (tgt := 77) hx hb dX12_advance_135 (by decide) ?_
              exact ih_77 (y + 1) v (show (x ≤ (y + 1) ∧ (y + 1) ≤ n) ∧ (∀ j, x ≤ j → j < (y + 1) → tkL (f_all (10 + j)) = true) ∧ v.toInt = zVal (fun j => f_all (10 + j)) x (min ((y + 1) - x) 8) from ⟨(by omega), (z_allS (f := (fun j => f_all (10 + j))) hally hlz.2), (zVal_b hvv (by omega))⟩) (show n - (y + 1) < n - y from by omega) _ _ ls G (lv_sub hl [0, 1, 2] rfl)
            · have c_24n : ¬ (8 : Int) ≤ y_23.toInt := fun q => c_24 ((fa_le _ _).mpr q)
              refine lv_ldc2 (v := 32) hx hb C.2.2.2.1 (C.2.2.2.2 _ m_kl_RX12_87) dX12_advance_105 ?_
              refine lv_lload_n hx hb dX12_advance_108 rfl (lv_at hl 0 rfl) ?_
              refine lv_lmul hx hb dX12_advance_109 ?_
              refine lv_aload_n hx hb dX12_advance_110 rfl (lv_at hl 2 rfl) ?_
              refine lv_aload_n hx hb dX12_advance_111 rfl (lv_at hl 2 rfl) ?_
              refine z_get C G clX12 0 rfl 3 (by decide) m_fl_RX12_70 rfl dX12_advance_112 ?_
              refine z_Vi (bc := [[zO11 mo m_all m_has (nI n) (nI y) (nI x) i_token i_number i_word i_wrong i_farCrossing m_read i_z0 i_crossings i_inns m_posts m_shut m_here i_steps i_done i_at i_gone m_was m_came m_seenAt m_rowWorth m_farBy m_used i_everywhere i_again0 i_d0 i_never i_firstCame i_longRun i_moved i_crowd i_l0 i_fitMany i_fitLeast i_fitMost m_fitPost m_fitEnd m_keptPosts i_x0], [zAr T 0 m_all 3952 f_all]]) (br := []) (As := [.int (nI y)]) (rest := [.long ((32 : Int64) * v)]) C G (c_fm_byteAt l T mo m_all m_has (nI n) (nI y) (nI x) i_token i_number i_word i_wrong i_farCrossing m_read i_z0 i_crossings i_inns m_posts m_shut m_here i_steps i_done i_at i_gone m_was m_came m_seenAt m_rowWorth m_farBy m_used i_everywhere i_again0 i_d0 i_never i_firstCame i_longRun i_moved i_crowd i_l0 i_fitMany i_fitLeast i_fitMost m_fitPost m_fitEnd m_keptPosts i_x0 f_all (nI y) n y rfl rfl (by first | with_reducible assumption | with_reducible rfl | omega | assumption | rfl) (by first | with_reducible assumption | with_reducible rfl | omega | assumption | rfl)) (kV_RX12_73 C.2.2.2.2 (Nat.le_of_ble_eq_true rfl) (Nat.le_of_ble_eq_true rfl)) [0, 1] [0, 0] rfl rfl (ci := 11) (qc := (RX12, TX12, 43)) rfl rfl (List.mem_flatten.mpr ⟨_, List.mem_of_getElem? (i := 0) rfl, List.mem_cons_self⟩) rfl rfl hl.1 dX12_advance_115 (Nat.le_of_ble_eq_true rfl) (Nat.le_of_ble_eq_true rfl) (fun r_27 b1 H locs hw G => ?_)
              refine zAn2 hw ?_
              intro hbs9 h_26
              clear hw
              subst hbs9
              have G : zS T A s.heap s [[zO11 mo m_all m_has (nI n) (nI y) (nI x) i_token i_number i_word i_wrong i_farCrossing m_read i_z0 i_crossings i_inns m_posts m_shut m_here i_steps i_done i_at i_gone m_was m_came m_seenAt m_rowWorth m_farBy m_used i_everywhere i_again0 i_d0 i_never i_firstCame i_longRun i_moved i_crowd i_l0 i_fitMany i_fitLeast i_fitMost m_fitPost m_fitEnd m_keptPosts i_x0], [zAr T 0 m_all 3952 f_all]] _ _ := G
              subst h_26
              refine lv_i2l hx hb dX12_advance_118 rfl ?_
              refine lv_ladd hx hb dX12_advance_119 ?_
              refine lv_ldc2 (v := 96) hx hb C.2.2.2.1 (C.2.2.2.2 _ m_kl_RX12_89) dX12_advance_120 ?_
              refine lv_lsub hx hb dX12_advance_123 ?_
              refine lv_lstore_n (lv' := [(2, .long ((((32 : Int64) * v) + ((zBt f_all n y).toInt64)) - (96 : Int64))), (1, .int (zBt f_all n x)), (0, .ref mo)]) hx hb dX12_advance_124 rfl hl (by decide) rfl (fun ls hl => ?_)
              refine lv_aload_n hx hb dX12_advance_125 rfl (lv_at hl 2 rfl) ?_
              refine lv_dup hx hb dX12_advance_126 rfl ?_
              refine z_get C G clX12 0 rfl 3 (by decide) m_fl_RX12_70 rfl dX12_advance_127 ?_
              refine lv_iconst (v := 1) hx hb dX12_advance_130 (by decide) ?_
              refine lv_iadd hx hb dX12_advance_131 ?_
              refine lv_topi (fun y_28 ey_28 => ?_)
              obtain rfl : y_28 = nI (y + 1) := ey_28.trans (z_iaddn y 1 rfl rfl)
              refine z_put C G clX12 0 rfl 3 (by decide) m_fl_RX12_70 rfl rfl rfl (Nat.le_of_ble_eq_true rfl) dX12_advance_132 (fun H locs G => ?_)
              have G : zS T A s.heap s [[zO11 mo m_all m_has (nI n) (nI (y + 1)) (nI x) i_token i_number i_word i_wrong i_farCrossing m_read i_z0 i_crossings i_inns m_posts m_shut m_here i_steps i_done i_at i_gone m_was m_came m_seenAt m_rowWorth m_farBy m_used i_everywhere i_again0 i_d0 i_never i_firstCame i_longRun i_moved i_crowd i_l0 i_fitMany i_fitLeast i_fitMost m_fitPost m_fitEnd m_keptPosts i_x0], [zAr T 0 m_all 3952 f_all]] _ _ := G
              refine lv_goto (tgt := 77) hx hb dX12_advance_135 (by decide) ?_
              exact ih_77 (y + 1) ((((32 : Int64) * v) + ((zBt f_all n y).toInt64)) - (96 : Int64)) (show (x ≤ (y + 1) ∧ (y + 1) ≤ n) ∧ (∀ j, x ≤ j → j < (y + 1) → tkL (f_all (10 + j)) = true) ∧ ((((32 : Int64) * v) + ((zBt f_all n y).toInt64)) - (96 : Int64)).toInt = zVal (fun j => f_all (10 + j)) x (min ((y + 1) - x) 8) from ⟨(by omega), (z_allS (f := (fun j => f_all (10 + j))) hally hlz.2), (zVal_a hyq.1 hally (zBt_e hlz.1) hlz.2 hvv (by omega))⟩) (show n - (y + 1) < n - y from by omega) _ _ ls G (lv_sub hl [0, 1, 2] rfl)
          · have h_22 : ((zBt f_all n y).toInt < 97 ∨ 122 < (zBt f_all n y).toInt) := h_22
            refine lv_if_eq (tgt := 138) hx hb dX12_advance_88 (by decide) (fun _ => ?_) (fun q => absurd (by decide) q)
            have hL : zRun tkL (fun j => f_all (10 + j)) n x y := ⟨hyq.1, Or.inl hyq.2, hally, fun h9 => zBt_nL h9 (by omega)⟩
            have hlx := tkL_iff.mpr (show 97 ≤ (f_all (10 + x)).toInt ∧ (f_all (10 + x)).toInt ≤ 122 by rw [← hbx]; omega)
            refine lv_aload_n hx hb dX12_advance_138 rfl (lv_at hl 2 rfl) ?_
            refine lv_aload_n hx hb dX12_advance_139 rfl (lv_at hl 2 rfl) ?_
            refine z_get C G clX12 0 rfl 3 (by decide) m_fl_RX12_70 rfl dX12_advance_140 ?_
            refine lv_aload_n hx hb dX12_advance_143 rfl (lv_at hl 2 rfl) ?_
            refine z_get C G clX12 0 rfl 4 (by decide) m_fl_RX12_77 rfl dX12_advance_144 ?_
            refine lv_isub hx hb dX12_advance_147 ?_
            refine lv_topi (fun y_29 ey_29 => ?_)
            have ey_29i : y_29.toInt = (y : Int) - (x : Int) := by rw [ey_29]; exact (z_isubI (x := (nI y)) (y := (nI x)) (by rw [nI_toInt (n := y) (by omega), nI_toInt (n := x) (by omega)]; show -2147483648 ≤ (y : Int) - (x : Int); omega) (by rw [nI_toInt (n := y) (by omega), nI_toInt (n := x) (by omega)]; show (y : Int) - (x : Int) < 2147483648; omega)).trans (by rw [nI_toInt (n := y) (by omega), nI_toInt (n := x) (by omega)] <;> rfl)
            refine lv_bipush (v := 8) hx hb dX12_advance_148 (by decide) ?_
            refine lv_icmp_le (tgt := 158) hx hb dX12_advance_150 (by decide) (fun c_30 => ?_) (fun c_30 => ?_)
            · have c_30n : y_29.toInt ≤ (8 : Int) := (fa_le _ _).mp c_30
              refine lv_lload_n hx hb dX12_advance_158 rfl (lv_at hl 0 rfl) ?_
              refine z_Si (bc := []) (br := [[zO11 mo m_all m_has (nI n) (nI y) (nI x) i_token i_number i_word i_wrong i_farCrossing m_read i_z0 i_crossings i_inns m_posts m_shut m_here i_steps i_done i_at i_gone m_was m_came m_seenAt m_rowWorth m_farBy m_used i_everywhere i_again0 i_d0 i_never i_firstCame i_longRun i_moved i_crowd i_l0 i_fitMany i_fitLeast i_fitMost m_fitPost m_fitEnd m_keptPosts i_x0], [zAr T 0 m_all 3952 f_all]]) (As := [.long v]) (rest := [.ref mo]) C G (c_m_wordOf l T v) (kS_RX12_91 C.2.2.2.2 (Nat.le_of_ble_eq_true rfl) (Nat.le_of_ble_eq_true rfl)) [] [] rfl rfl rfl rfl hl.1 dX12_advance_159 (Nat.le_of_ble_eq_true rfl) (Nat.le_of_ble_eq_true rfl) (fun r_32 b1 H locs hw G => ?_)
              refine zAn2 hw ?_
              intro hbs9 h_31
              clear hw
              subst hbs9
              have G : zS T A s.heap s [[zO11 mo m_all m_has (nI n) (nI y) (nI x) i_token i_number i_word i_wrong i_farCrossing m_read i_z0 i_crossings i_inns m_posts m_shut m_here i_steps i_done i_at i_gone m_was m_came m_seenAt m_rowWorth m_farBy m_used i_everywhere i_again0 i_d0 i_never i_firstCame i_longRun i_moved i_crowd i_l0 i_fitMany i_fitLeast i_fitMost m_fitPost m_fitEnd m_keptPosts i_x0], [zAr T 0 m_all 3952 f_all]] _ _ := G
              subst h_31
              refine z_put C G clX12 0 rfl 7 (by decide) m_fl_RX12_95 rfl rfl rfl (Nat.le_of_ble_eq_true rfl) dX12_advance_162 (fun H locs G => ?_)
              have G : zS T A s.heap s [[zO11 mo m_all m_has (nI n) (nI y) (nI x) i_token i_number (zWord v) i_wrong i_farCrossing m_read i_z0 i_crossings i_inns m_posts m_shut m_here i_steps i_done i_at i_gone m_was m_came m_seenAt m_rowWorth m_farBy m_used i_everywhere i_again0 i_d0 i_never i_firstCame i_longRun i_moved i_crowd i_l0 i_fitMany i_fitLeast i_fitMost m_fitPost m_fitEnd m_keptPosts i_x0], [zAr T 0 m_all 3952 f_all]] _ _ := G
              have hwat : (zWord v).toInt = (zWordAt (fun j => f_all (10 + j)) x y : Int) := zWord_at hyq.1 hally (by rw [hvv, show min (y - x) 8 = y - x by omega])
              have hwin := zWordAt_in (fun j => f_all (10 + j)) x y
              refine lv_aload_n hx hb dX12_advance_165 rfl (lv_at hl 2 rfl) ?_
              refine lv_aload_n hx hb dX12_advance_166 rfl (lv_at hl 2 rfl) ?_
              refine z_get C G clX12 0 rfl 7 (by decide) m_fl_RX12_95 rfl dX12_advance_167 ?_
              refine lv_bipush (v := 99) hx hb dX12_advance_170 (by decide) ?_
              refine lv_icmp_ne (tgt := 179) hx hb dX12_advance_172 (by decide) (fun c_33 => ?_) (fun c_33 => ?_)
              · have c_33n : ¬ (zWord v).toInt = (99 : Int) := fun q => c_33 ((fa_eq _ _).mpr q)
                refine lv_iconst (v := 3) hx hb dX12_advance_179 (by decide) ?_
                refine z_put C G clX12 0 rfl 5 (by decide) m_fl_RX12_80 rfl rfl rfl (Nat.le_of_ble_eq_true rfl) dX12_advance_180 (fun H locs G => ?_)
                have G : zS T A s.heap s [[zO11 mo m_all m_has (nI n) (nI y) (nI x) 3 i_number (zWord v) i_wrong i_farCrossing m_read i_z0 i_crossings i_inns m_posts m_shut m_here i_steps i_done i_at i_gone m_was m_came m_seenAt m_rowWorth m_farBy m_used i_everywhere i_again0 i_d0 i_never i_firstCame i_longRun i_moved i_crowd i_l0 i_fitMany i_fitLeast i_fitMost m_fitPost m_fitEnd m_keptPosts i_x0], [zAr T 0 m_all 3952 f_all]] _ _ := G
                refine lv_goto (tgt := 311) hx hb dX12_advance_183 (by decide) ?_
                have hT9 : zTokR (tkT (fun j => f_all (10 + j)) n) pp (nI y) (nI x) (3 : Int32) i_number (zWord v) := zTokR_of 3 (tk_L hB hlt hlx hL) (by rw [if_pos rfl, if_neg (by omega)]) (fun h9 _ => absurd h9 (by decide)) (fun _ => z_nI hwat (by omega)) (by decide)
                have hO9 := zTokR_old (tkT_ok _ _) hpn hn6 hT9
                exact z_back hQz_ (z_vret C hr hlocks G (Nat.le_of_ble_eq_true rfl) (Nat.le_of_ble_eq_true rfl) dX12_advance_311 ⟨(nI y), (nI x), 3, i_number, (zWord v), rfl, hO9.1, hO9.2.1, hO9.2.2.1, hO9.2.2.2.1, hO9.2.2.2.2.1, hO9.2.2.2.2.2, hT9⟩)
              · have c_33n : (zWord v).toInt = (99 : Int) := (fa_eq _ _).mp c_33
                refine lv_iconst (v := 4) hx hb dX12_advance_175 (by decide) ?_
                refine lv_goto (tgt := 180) hx hb dX12_advance_176 (by decide) ?_
                refine z_put C G clX12 0 rfl 5 (by decide) m_fl_RX12_80 rfl rfl rfl (Nat.le_of_ble_eq_true rfl) dX12_advance_180 (fun H locs G => ?_)
                have G : zS T A s.heap s [[zO11 mo m_all m_has (nI n) (nI y) (nI x) 4 i_number (zWord v) i_wrong i_farCrossing m_read i_z0 i_crossings i_inns m_posts m_shut m_here i_steps i_done i_at i_gone m_was m_came m_seenAt m_rowWorth m_farBy m_used i_everywhere i_again0 i_d0 i_never i_firstCame i_longRun i_moved i_crowd i_l0 i_fitMany i_fitLeast i_fitMost m_fitPost m_fitEnd m_keptPosts i_x0], [zAr T 0 m_all 3952 f_all]] _ _ := G
                refine lv_goto (tgt := 311) hx hb dX12_advance_183 (by decide) ?_
                have hT9 : zTokR (tkT (fun j => f_all (10 + j)) n) pp (nI y) (nI x) (4 : Int32) i_number (zWord v) := zTokR_of 4 (tk_L hB hlt hlx hL) (by rw [if_pos rfl, if_pos (by omega)]) (fun h9 _ => absurd h9 (by decide)) (fun h9 => absurd h9 (by decide)) (by decide)
                have hO9 := zTokR_old (tkT_ok _ _) hpn hn6 hT9
                exact z_back hQz_ (z_vret C hr hlocks G (Nat.le_of_ble_eq_true rfl) (Nat.le_of_ble_eq_true rfl) dX12_advance_311 ⟨(nI y), (nI x), 4, i_number, (zWord v), rfl, hO9.1, hO9.2.1, hO9.2.2.1, hO9.2.2.2.1, hO9.2.2.2.2.1, hO9.2.2.2.2.2, hT9⟩)
            · have c_30n : ¬ y_29.toInt ≤ (8 : Int) := fun q => c_30 ((fa_le _ _).mpr q)
              refine lv_bipush (v := 99) hx hb dX12_advance_153 (by decide) ?_
              refine lv_goto (tgt := 162) hx hb dX12_advance_155 (by decide) ?_
              refine z_put C G clX12 0 rfl 7 (by decide) m_fl_RX12_95 rfl rfl rfl (Nat.le_of_ble_eq_true rfl) dX12_advance_162 (fun H locs G => ?_)
              have G : zS T A s.heap s [[zO11 mo m_all m_has (nI n) (nI y) (nI x) i_token i_number 99 i_wrong i_farCrossing m_read i_z0 i_crossings i_inns m_posts m_shut m_here i_steps i_done i_at i_gone m_was m_came m_seenAt m_rowWorth m_farBy m_used i_everywhere i_again0 i_d0 i_never i_firstCame i_longRun i_moved i_crowd i_l0 i_fitMany i_fitLeast i_fitMost m_fitPost m_fitEnd m_keptPosts i_x0], [zAr T 0 m_all 3952 f_all]] _ _ := G
              have hwat : (99 : Int) = (zWordAt (fun j => f_all (10 + j)) x y : Int) := by rw [zWd_long (by omega)]; rfl
              refine lv_aload_n hx hb dX12_advance_165 rfl (lv_at hl 2 rfl) ?_
              refine lv_aload_n hx hb dX12_advance_166 rfl (lv_at hl 2 rfl) ?_
              refine z_get C G clX12 0 rfl 7 (by decide) m_fl_RX12_95 rfl dX12_advance_167 ?_
              refine lv_bipush (v := 99) hx hb dX12_advance_170 (by decide) ?_
              refine lv_icmp_ne (tgt := 179) hx hb dX12_advance_172 (by decide) (fun q => absurd (by decide) q) (fun _ => ?_)
              refine lv_iconst (v := 4) hx hb dX12_advance_175 (by decide) ?_
              refine lv_goto (tgt := 180) hx hb dX12_advance_176 (by decide) ?_
              refine z_put C G clX12 0 rfl 5 (by decide) m_fl_RX12_80 rfl rfl rfl (Nat.le_of_ble_eq_true rfl) dX12_advance_180 (fun H locs G => ?_)
              have G : zS T A s.heap s [[zO11 mo m_all m_has (nI n) (nI y) (nI x) 4 i_number 99 i_wrong i_farCrossing m_read i_z0 i_crossings i_inns m_posts m_shut m_here i_steps i_done i_at i_gone m_was m_came m_seenAt m_rowWorth m_farBy m_used i_everywhere i_again0 i_d0 i_never i_firstCame i_longRun i_moved i_crowd i_l0 i_fitMany i_fitLeast i_fitMost m_fitPost m_fitEnd m_keptPosts i_x0], [zAr T 0 m_all 3952 f_all]] _ _ := G
              refine lv_goto (tgt := 311) hx hb dX12_advance_183 (by decide) ?_
              have hT9 : zTokR (tkT (fun j => f_all (10 + j)) n) pp (nI y) (nI x) (4 : Int32) i_number (99 : Int32) := zTokR_of 4 (tk_L hB hlt hlx hL) (by rw [if_pos rfl, if_pos (by omega)]) (fun h9 _ => absurd h9 (by decide)) (fun h9 => absurd h9 (by decide)) (by decide)
              have hO9 := zTokR_old (tkT_ok _ _) hpn hn6 hT9
              exact z_back hQz_ (z_vret C hr hlocks G (Nat.le_of_ble_eq_true rfl) (Nat.le_of_ble_eq_true rfl) dX12_advance_311 ⟨(nI y), (nI x), 4, i_number, 99, rfl, hO9.1, hO9.2.1, hO9.2.2.1, hO9.2.2.2.1, hO9.2.2.2.2.1, hO9.2.2.2.2.2, hT9⟩)
        · have h_15 : ((zBt f_all n x).toInt < 97 ∨ 122 < (zBt f_all n x).toInt) := h_15
          refine lv_if_eq (tgt := 186) hx hb dX12_advance_72 (by decide) (fun _ => ?_) (fun q => absurd (by decide) q)
          refine lv_iload_n hx hb dX12_advance_186 rfl (lv_at hl 0 rfl) ?_
          refine z_Si (bc := []) (br := [[zO11 mo m_all m_has (nI n) (nI x) (nI x) i_token i_number i_word i_wrong i_farCrossing m_read i_z0 i_crossings i_inns m_posts m_shut m_here i_steps i_done i_at i_gone m_was m_came m_seenAt m_rowWorth m_farBy m_used i_everywhere i_again0 i_d0 i_never i_firstCame i_longRun i_moved i_crowd i_l0 i_fitMany i_fitLeast i_fitMost m_fitPost m_fitEnd m_keptPosts i_x0], [zAr T 0 m_all 3952 f_all]]) (As := [.int (zBt f_all n x)]) (rest := []) C G (c_m_isDigit l T (zBt f_all n x)) (kS_RX12_98 C.2.2.2.2 (Nat.le_of_ble_eq_true rfl) (Nat.le_of_ble_eq_true rfl)) [] [] rfl rfl rfl rfl hl.1 dX12_advance_187 (Nat.le_of_ble_eq_true rfl) (Nat.le_of_ble_eq_true rfl) (fun r_35 b1 H locs hw G => ?_)
          refine zAn2 hw ?_
          intro hbs9 hc_34
          clear hw
          subst hbs9
          have G : zS T A s.heap s [[zO11 mo m_all m_has (nI n) (nI x) (nI x) i_token i_number i_word i_wrong i_farCrossing m_read i_z0 i_crossings i_inns m_posts m_shut m_here i_steps i_done i_at i_gone m_was m_came m_seenAt m_rowWorth m_farBy m_used i_everywhere i_again0 i_d0 i_never i_firstCame i_longRun i_moved i_crowd i_l0 i_fitMany i_fitLeast i_fitMost m_fitPost m_fitEnd m_keptPosts i_x0], [zAr T 0 m_all 3952 f_all]] _ _ := G
          rcases hc_34 with ⟨rfl, h_36, h_37⟩ | ⟨rfl, h_38⟩
          · have h_36 : 48 ≤ (zBt f_all n x).toInt := h_36
            have h_37 : (zBt f_all n x).toInt ≤ 57 := h_37
            refine lv_if_eq (tgt := 286) hx hb dX12_advance_190 (by decide) (fun q => absurd q (by decide)) (fun _ => ?_)
            refine lv_aload_n hx hb dX12_advance_193 rfl (lv_at hl 1 rfl) ?_
            refine lv_iconst (v := 0) hx hb dX12_advance_194 (by decide) ?_
            refine z_put C G clX12 0 rfl 6 (by decide) m_fl_RX12_101 rfl rfl rfl (Nat.le_of_ble_eq_true rfl) dX12_advance_195 (fun H locs G => ?_)
            have G : zS T A s.heap s [[zO11 mo m_all m_has (nI n) (nI x) (nI x) i_token 0 i_word i_wrong i_farCrossing m_read i_z0 i_crossings i_inns m_posts m_shut m_here i_steps i_done i_at i_gone m_was m_came m_seenAt m_rowWorth m_farBy m_used i_everywhere i_again0 i_d0 i_never i_firstCame i_longRun i_moved i_crowd i_l0 i_fitMany i_fitLeast i_fitMost m_fitPost m_fitEnd m_keptPosts i_x0], [zAr T 0 m_all 3952 f_all]] _ _ := G
            refine z_lp2 (T := T) 198 (fun (z : Nat) (nu : Int32) => [[zO11 mo m_all m_has (nI n) (nI z) (nI x) i_token nu i_word i_wrong i_farCrossing m_read i_z0 i_crossings i_inns m_posts m_shut m_here i_steps i_done i_at i_gone m_was m_came m_seenAt m_rowWorth m_farBy m_used i_everywhere i_again0 i_d0 i_never i_firstCame i_longRun i_moved i_crowd i_l0 i_fitMany i_fitLeast i_fitMost m_fitPost m_fitEnd m_keptPosts i_x0], [zAr T 0 m_all 3952 f_all]]) (fun (z : Nat) (nu : Int32) => [(1, .int (zBt f_all n x)), (0, .ref mo)]) (fun (z : Nat) (nu : Int32) => (x ≤ z ∧ z ≤ n) ∧ (∀ j, x ≤ j → j < z → tkD (f_all (10 + j)) = true) ∧ nu.toInt = tkV (fun j => f_all (10 + j)) x (min z (x + 2))) (fun (z : Nat) (nu : Int32) => n - z) ?_ x 0 (show (x ≤ x ∧ x ≤ n) ∧ (∀ j, x ≤ j → j < x → tkD (f_all (10 + j)) = true) ∧ (0 : Int32).toInt = tkV (fun j => f_all (10 + j)) x (min x (x + 2)) from ⟨(by omega), (fun j h1 h2 => by omega), (tkV_0 (by omega)).symm⟩) G (lv_sub hl [0, 1] rfl)
            intro z nu hI9 ih_198 H locs ls G hl
            replace hI9 : (x ≤ z ∧ z ≤ n) ∧ (∀ j, x ≤ j → j < z → tkD (f_all (10 + j)) = true) ∧ nu.toInt = tkV (fun j => f_all (10 + j)) x (min z (x + 2)) := hI9
            refine zAn3 hI9 ?_
            intro hzq hallz hnu
            clear hI9
            replace G : zS T A s.heap s [[zO11 mo m_all m_has (nI n) (nI z) (nI x) i_token nu i_word i_wrong i_farCrossing m_read i_z0 i_crossings i_inns m_posts m_shut m_here i_steps i_done i_at i_gone m_was m_came m_seenAt m_rowWorth m_farBy m_used i_everywhere i_again0 i_d0 i_never i_firstCame i_longRun i_moved i_crowd i_l0 i_fitMany i_fitLeast i_fitMost m_fitPost m_fitEnd m_keptPosts i_x0], [zAr T 0 m_all 3952 f_all]] _ _ := G
            replace hl : lv_has ls 4 [(1, .int (zBt f_all n x)), (0, .ref mo)] := hl
            refine lv_aload_n hx hb dX12_advance_198 rfl (lv_at hl 1 rfl) ?_
            refine lv_aload_n hx hb dX12_advance_199 rfl (lv_at hl 1 rfl) ?_
            refine z_get C G clX12 0 rfl 3 (by decide) m_fl_RX12_70 rfl dX12_advance_200 ?_
            refine z_Vi (bc := [[zO11 mo m_all m_has (nI n) (nI z) (nI x) i_token nu i_word i_wrong i_farCrossing m_read i_z0 i_crossings i_inns m_posts m_shut m_here i_steps i_done i_at i_gone m_was m_came m_seenAt m_rowWorth m_farBy m_used i_everywhere i_again0 i_d0 i_never i_firstCame i_longRun i_moved i_crowd i_l0 i_fitMany i_fitLeast i_fitMost m_fitPost m_fitEnd m_keptPosts i_x0], [zAr T 0 m_all 3952 f_all]]) (br := []) (As := [.int (nI z)]) (rest := []) C G (c_fm_byteAt l T mo m_all m_has (nI n) (nI z) (nI x) i_token nu i_word i_wrong i_farCrossing m_read i_z0 i_crossings i_inns m_posts m_shut m_here i_steps i_done i_at i_gone m_was m_came m_seenAt m_rowWorth m_farBy m_used i_everywhere i_again0 i_d0 i_never i_firstCame i_longRun i_moved i_crowd i_l0 i_fitMany i_fitLeast i_fitMost m_fitPost m_fitEnd m_keptPosts i_x0 f_all (nI z) n z rfl rfl (by first | with_reducible assumption | with_reducible rfl | omega | assumption | rfl) (by first | with_reducible assumption | with_reducible rfl | omega | assumption | rfl)) (kV_RX12_73 C.2.2.2.2 (Nat.le_of_ble_eq_true rfl) (Nat.le_of_ble_eq_true rfl)) [0, 1] [0, 0] rfl rfl (ci := 11) (qc := (RX12, TX12, 43)) rfl rfl (List.mem_flatten.mpr ⟨_, List.mem_of_getElem? (i := 0) rfl, List.mem_cons_self⟩) rfl rfl hl.1 dX12_advance_203 (Nat.le_of_ble_eq_true rfl) (Nat.le_of_ble_eq_true rfl) (fun r_40 b1 H locs hw G => ?_)
            refine zAn2 hw ?_
            intro hbs9 h_39
            clear hw
            subst hbs9
            have G : zS T A s.heap s [[zO11 mo m_all m_has (nI n) (nI z) (nI x) i_token nu i_word i_wrong i_farCrossing m_read i_z0 i_crossings i_inns m_posts m_shut m_here i_steps i_done i_at i_gone m_was m_came m_seenAt m_rowWorth m_farBy m_used i_everywhere i_again0 i_d0 i_never i_firstCame i_longRun i_moved i_crowd i_l0 i_fitMany i_fitLeast i_fitMost m_fitPost m_fitEnd m_keptPosts i_x0], [zAr T 0 m_all 3952 f_all]] _ _ := G
            subst h_39
            refine z_Si (bc := []) (br := [[zO11 mo m_all m_has (nI n) (nI z) (nI x) i_token nu i_word i_wrong i_farCrossing m_read i_z0 i_crossings i_inns m_posts m_shut m_here i_steps i_done i_at i_gone m_was m_came m_seenAt m_rowWorth m_farBy m_used i_everywhere i_again0 i_d0 i_never i_firstCame i_longRun i_moved i_crowd i_l0 i_fitMany i_fitLeast i_fitMost m_fitPost m_fitEnd m_keptPosts i_x0], [zAr T 0 m_all 3952 f_all]]) (As := [.int (zBt f_all n z)]) (rest := []) C G (c_m_isDigit l T (zBt f_all n z)) (kS_RX12_98 C.2.2.2.2 (Nat.le_of_ble_eq_true rfl) (Nat.le_of_ble_eq_true rfl)) [] [] rfl rfl rfl rfl hl.1 dX12_advance_206 (Nat.le_of_ble_eq_true rfl) (Nat.le_of_ble_eq_true rfl) (fun r_42 b1 H locs hw G => ?_)
            refine zAn2 hw ?_
            intro hbs9 hc_41
            clear hw
            subst hbs9
            have G : zS T A s.heap s [[zO11 mo m_all m_has (nI n) (nI z) (nI x) i_token nu i_word i_wrong i_farCrossing m_read i_z0 i_crossings i_inns m_posts m_shut m_here i_steps i_done i_at i_gone m_was m_came m_seenAt m_rowWorth m_farBy m_used i_everywhere i_again0 i_d0 i_never i_firstCame i_longRun i_moved i_crowd i_l0 i_fitMany i_fitLeast i_fitMost m_fitPost m_fitEnd m_keptPosts i_x0], [zAr T 0 m_all 3952 f_all]] _ _ := G
            rcases hc_41 with ⟨rfl, h_43, h_44⟩ | ⟨rfl, h_45⟩
            · have h_43 : 48 ≤ (zBt f_all n z).toInt := h_43
              have h_44 : (zBt f_all n z).toInt ≤ 57 := h_44
              have hdz := zBt_D h_43 h_44
              have hnb := tkV_b2 hzq.1 hallz hnu
              refine lv_if_eq (tgt := 261) hx hb dX12_advance_209 (by decide) (fun q => absurd q (by decide)) (fun _ => ?_)
              refine lv_aload_n hx hb dX12_advance_212 rfl (lv_at hl 1 rfl) ?_
              refine z_get C G clX12 0 rfl 3 (by decide) m_fl_RX12_70 rfl dX12_advance_213 ?_
              refine lv_aload_n hx hb dX12_advance_216 rfl (lv_at hl 1 rfl) ?_
              refine z_get C G clX12 0 rfl 4 (by decide) m_fl_RX12_77 rfl dX12_advance_217 ?_
              refine lv_isub hx hb dX12_advance_220 ?_
              refine lv_topi (fun y_46 ey_46 => ?_)
              have ey_46i : y_46.toInt = (z : Int) - (x : Int) := by rw [ey_46]; exact (z_isubI (x := (nI z)) (y := (nI x)) (by rw [nI_toInt (n := z) (by omega), nI_toInt (n := x) (by omega)]; show -2147483648 ≤ (z : Int) - (x : Int); omega) (by rw [nI_toInt (n := z) (by omega), nI_toInt (n := x) (by omega)]; show (z : Int) - (x : Int) < 2147483648; omega)).trans (by rw [nI_toInt (n := z) (by omega), nI_toInt (n := x) (by omega)] <;> rfl)
              refine lv_iconst (v := 2) hx hb dX12_advance_221 (by decide) ?_
              refine lv_icmp_ge (tgt := 248) hx hb dX12_advance_222 (by decide) (fun c_47 => ?_) (fun c_47 => ?_)
              · have c_47n : (2 : Int) ≤ y_46.toInt := (fa_le _ _).mp c_47
                refine lv_aload_n hx hb dX12_advance_248 rfl (lv_at hl 1 rfl) ?_
                refine lv_dup hx hb dX12_advance_249 rfl ?_
                refine z_get C G clX12 0 rfl 3 (by decide) m_fl_RX12_70 rfl dX12_advance_250 ?_
                refine lv_iconst (v := 1) hx hb dX12_advance_253 (by decide) ?_
                refine lv_iadd hx hb dX12_advance_254 ?_
                refine lv_topi (fun y_48 ey_48 => ?_)
                obtain rfl : y_48 = nI (z + 1) := ey_48.trans (z_iaddn z 1 rfl rfl)
                refine z_put C G clX12 0 rfl 3 (by decide) m_fl_RX12_70 rfl rfl rfl (Nat.le_of_ble_eq_true rfl) dX12_advance_255 (fun H locs G => ?_)
                have G : zS T A s.heap s [[zO11 mo m_all m_has (nI n) (nI (z + 1)) (nI x) i_token nu i_word i_wrong i_farCrossing m_read i_z0 i_crossings i_inns m_posts m_shut m_here i_steps i_done i_at i_gone m_was m_came m_seenAt m_rowWorth m_farBy m_used i_everywhere i_again0 i_d0 i_never i_firstCame i_longRun i_moved i_crowd i_l0 i_fitMany i_fitLeast i_fitMost m_fitPost m_fitEnd m_keptPosts i_x0], [zAr T 0 m_all 3952 f_all]] _ _ := G
                refine lv_goto (tgt := 198) hx hb dX12_advance_258 (by decide) ?_
                exact ih_198 (z + 1) nu (show (x ≤ (z + 1) ∧ (z + 1) ≤ n) ∧ (∀ j, x ≤ j → j < (z + 1) → tkD (f_all (10 + j)) = true) ∧ nu.toInt = tkV (fun j => f_all (10 + j)) x (min (z + 1) (x + 2)) from ⟨(by omega), (z_allS (f := (fun j => f_all (10 + j))) hallz hdz.2), (by rw [hnu, show min z (x + 2) = min (z + 1) (x + 2) by omega])⟩) (show n - (z + 1) < n - z from by omega) _ _ ls G (lv_sub hl [0, 1] rfl)
              · have c_47n : ¬ (2 : Int) ≤ y_46.toInt := fun q => c_47 ((fa_le _ _).mpr q)
                refine lv_aload_n hx hb dX12_advance_225 rfl (lv_at hl 1 rfl) ?_
                refine lv_bipush (v := 10) hx hb dX12_advance_226 (by decide) ?_
                refine lv_aload_n hx hb dX12_advance_228 rfl (lv_at hl 1 rfl) ?_
                refine z_get C G clX12 0 rfl 6 (by decide) m_fl_RX12_101 rfl dX12_advance_229 ?_
                refine lv_imul hx hb dX12_advance_232 ?_
                refine lv_topi (fun y_49 ey_49 => ?_)
                have ey_49i : y_49.toInt = (10 : Int) * nu.toInt := by rw [ey_49]; exact z_imulI (x := (10 : Int32)) (y := nu) (by show -2147483648 ≤ (10 : Int) * nu.toInt; omega) (by show (10 : Int) * nu.toInt < 2147483648; omega)
                refine lv_aload_n hx hb dX12_advance_233 rfl (lv_at hl 1 rfl) ?_
                refine lv_aload_n hx hb dX12_advance_234 rfl (lv_at hl 1 rfl) ?_
                refine z_get C G clX12 0 rfl 3 (by decide) m_fl_RX12_70 rfl dX12_advance_235 ?_
                refine z_Vi (bc := [[zO11 mo m_all m_has (nI n) (nI z) (nI x) i_token nu i_word i_wrong i_farCrossing m_read i_z0 i_crossings i_inns m_posts m_shut m_here i_steps i_done i_at i_gone m_was m_came m_seenAt m_rowWorth m_farBy m_used i_everywhere i_again0 i_d0 i_never i_firstCame i_longRun i_moved i_crowd i_l0 i_fitMany i_fitLeast i_fitMost m_fitPost m_fitEnd m_keptPosts i_x0], [zAr T 0 m_all 3952 f_all]]) (br := []) (As := [.int (nI z)]) (rest := [.int y_49, .ref mo]) C G (c_fm_byteAt l T mo m_all m_has (nI n) (nI z) (nI x) i_token nu i_word i_wrong i_farCrossing m_read i_z0 i_crossings i_inns m_posts m_shut m_here i_steps i_done i_at i_gone m_was m_came m_seenAt m_rowWorth m_farBy m_used i_everywhere i_again0 i_d0 i_never i_firstCame i_longRun i_moved i_crowd i_l0 i_fitMany i_fitLeast i_fitMost m_fitPost m_fitEnd m_keptPosts i_x0 f_all (nI z) n z rfl rfl (by first | with_reducible assumption | with_reducible rfl | omega | assumption | rfl) (by first | with_reducible assumption | with_reducible rfl | omega | assumption | rfl)) (kV_RX12_73 C.2.2.2.2 (Nat.le_of_ble_eq_true rfl) (Nat.le_of_ble_eq_true rfl)) [0, 1] [0, 0] rfl rfl (ci := 11) (qc := (RX12, TX12, 43)) rfl rfl (List.mem_flatten.mpr ⟨_, List.mem_of_getElem? (i := 0) rfl, List.mem_cons_self⟩) rfl rfl hl.1 dX12_advance_238 (Nat.le_of_ble_eq_true rfl) (Nat.le_of_ble_eq_true rfl) (fun r_51 b1 H locs hw G => ?_)
                refine zAn2 hw ?_
                intro hbs9 h_50
                clear hw
                subst hbs9
                have G : zS T A s.heap s [[zO11 mo m_all m_has (nI n) (nI z) (nI x) i_token nu i_word i_wrong i_farCrossing m_read i_z0 i_crossings i_inns m_posts m_shut m_here i_steps i_done i_at i_gone m_was m_came m_seenAt m_rowWorth m_farBy m_used i_everywhere i_again0 i_d0 i_never i_firstCame i_longRun i_moved i_crowd i_l0 i_fitMany i_fitLeast i_fitMost m_fitPost m_fitEnd m_keptPosts i_x0], [zAr T 0 m_all 3952 f_all]] _ _ := G
                subst h_50
                refine lv_iadd hx hb dX12_advance_241 ?_
                refine lv_topi (fun y_52 ey_52 => ?_)
                have ey_52i : y_52.toInt = y_49.toInt + (zBt f_all n z).toInt := by rw [ey_52]; exact z_iaddI (x := y_49) (y := (zBt f_all n z)) (by show -2147483648 ≤ y_49.toInt + (zBt f_all n z).toInt; omega) (by show y_49.toInt + (zBt f_all n z).toInt < 2147483648; omega)
                refine lv_bipush (v := 48) hx hb dX12_advance_242 (by decide) ?_
                refine lv_isub hx hb dX12_advance_244 ?_
                refine lv_topi (fun y_53 ey_53 => ?_)
                have ey_53i : y_53.toInt = y_52.toInt - (48 : Int) := by rw [ey_53]; exact z_isubI (x := y_52) (y := (48 : Int32)) (by show -2147483648 ≤ y_52.toInt - (48 : Int); omega) (by show y_52.toInt - (48 : Int) < 2147483648; omega)
                refine z_put C G clX12 0 rfl 6 (by decide) m_fl_RX12_101 rfl rfl rfl (Nat.le_of_ble_eq_true rfl) dX12_advance_245 (fun H locs G => ?_)
                have G : zS T A s.heap s [[zO11 mo m_all m_has (nI n) (nI z) (nI x) i_token y_53 i_word i_wrong i_farCrossing m_read i_z0 i_crossings i_inns m_posts m_shut m_here i_steps i_done i_at i_gone m_was m_came m_seenAt m_rowWorth m_farBy m_used i_everywhere i_again0 i_d0 i_never i_firstCame i_longRun i_moved i_crowd i_l0 i_fitMany i_fitLeast i_fitMost m_fitPost m_fitEnd m_keptPosts i_x0], [zAr T 0 m_all 3952 f_all]] _ _ := G
                refine lv_aload_n hx hb dX12_advance_248 rfl (lv_at hl 1 rfl) ?_
                refine lv_dup hx hb dX12_advance_249 rfl ?_
                refine z_get C G clX12 0 rfl 3 (by decide) m_fl_RX12_70 rfl dX12_advance_250 ?_
                refine lv_iconst (v := 1) hx hb dX12_advance_253 (by decide) ?_
                refine lv_iadd hx hb dX12_advance_254 ?_
                refine lv_topi (fun y_54 ey_54 => ?_)
                obtain rfl : y_54 = nI (z + 1) := ey_54.trans (z_iaddn z 1 rfl rfl)
                refine z_put C G clX12 0 rfl 3 (by decide) m_fl_RX12_70 rfl rfl rfl (Nat.le_of_ble_eq_true rfl) dX12_advance_255 (fun H locs G => ?_)
                have G : zS T A s.heap s [[zO11 mo m_all m_has (nI n) (nI (z + 1)) (nI x) i_token y_53 i_word i_wrong i_farCrossing m_read i_z0 i_crossings i_inns m_posts m_shut m_here i_steps i_done i_at i_gone m_was m_came m_seenAt m_rowWorth m_farBy m_used i_everywhere i_again0 i_d0 i_never i_firstCame i_longRun i_moved i_crowd i_l0 i_fitMany i_fitLeast i_fitMost m_fitPost m_fitEnd m_keptPosts i_x0], [zAr T 0 m_all 3952 f_all]] _ _ := G
                refine lv_goto (tgt := 198) hx hb dX12_advance_258 (by decide) ?_
                exact ih_198 (z + 1) y_53 (show (x ≤ (z + 1) ∧ (z + 1) ≤ n) ∧ (∀ j, x ≤ j → j < (z + 1) → tkD (f_all (10 + j)) = true) ∧ y_53.toInt = tkV (fun j => f_all (10 + j)) x (min (z + 1) (x + 2)) from ⟨(by omega), (z_allS (f := (fun j => f_all (10 + j))) hallz hdz.2), (tkV_m hzq.1 (by omega) hnu (by rw [← zBt_e (f := f_all) hdz.1]; omega))⟩) (show n - (z + 1) < n - z from by omega) _ _ ls G (lv_sub hl [0, 1] rfl)
            · have h_45 : ((zBt f_all n z).toInt < 48 ∨ 57 < (zBt f_all n z).toInt) := h_45
              refine lv_if_eq (tgt := 261) hx hb dX12_advance_209 (by decide) (fun _ => ?_) (fun q => absurd (by decide) q)
              have hD : zRun tkD (fun j => f_all (10 + j)) n x z := ⟨hzq.1, Or.inl hzq.2, hallz, fun h9 => zBt_nD h9 (by omega)⟩
              have hnl := tkL_f (show (f_all (10 + x)).toInt < 97 ∨ 122 < (f_all (10 + x)).toInt by rw [← hbx]; omega)
              have hdx := tkD_iff.mpr (show 48 ≤ (f_all (10 + x)).toInt ∧ (f_all (10 + x)).toInt ≤ 57 by rw [← hbx]; omega)
              refine lv_aload_n hx hb dX12_advance_261 rfl (lv_at hl 1 rfl) ?_
              refine lv_aload_n hx hb dX12_advance_262 rfl (lv_at hl 1 rfl) ?_
              refine z_get C G clX12 0 rfl 3 (by decide) m_fl_RX12_70 rfl dX12_advance_263 ?_
              refine lv_aload_n hx hb dX12_advance_266 rfl (lv_at hl 1 rfl) ?_
              refine z_get C G clX12 0 rfl 4 (by decide) m_fl_RX12_77 rfl dX12_advance_267 ?_
              refine lv_isub hx hb dX12_advance_270 ?_
              refine lv_topi (fun y_55 ey_55 => ?_)
              have ey_55i : y_55.toInt = (z : Int) - (x : Int) := by rw [ey_55]; exact (z_isubI (x := (nI z)) (y := (nI x)) (by rw [nI_toInt (n := z) (by omega), nI_toInt (n := x) (by omega)]; show -2147483648 ≤ (z : Int) - (x : Int); omega) (by rw [nI_toInt (n := z) (by omega), nI_toInt (n := x) (by omega)]; show (z : Int) - (x : Int) < 2147483648; omega)).trans (by rw [nI_toInt (n := z) (by omega), nI_toInt (n := x) (by omega)] <;> rfl)
              refine lv_iconst (v := 2) hx hb dX12_advance_271 (by decide) ?_
              refine lv_icmp_le (tgt := 279) hx hb dX12_advance_272 (by decide) (fun c_56 => ?_) (fun c_56 => ?_)
              · have c_56n : y_55.toInt ≤ (2 : Int) := (fa_le _ _).mp c_56
                refine lv_iconst (v := 1) hx hb dX12_advance_279 (by decide) ?_
                refine z_put C G clX12 0 rfl 5 (by decide) m_fl_RX12_80 rfl rfl rfl (Nat.le_of_ble_eq_true rfl) dX12_advance_280 (fun H locs G => ?_)
                have G : zS T A s.heap s [[zO11 mo m_all m_has (nI n) (nI z) (nI x) 1 nu i_word i_wrong i_farCrossing m_read i_z0 i_crossings i_inns m_posts m_shut m_here i_steps i_done i_at i_gone m_was m_came m_seenAt m_rowWorth m_farBy m_used i_everywhere i_again0 i_d0 i_never i_firstCame i_longRun i_moved i_crowd i_l0 i_fitMany i_fitLeast i_fitMost m_fitPost m_fitEnd m_keptPosts i_x0], [zAr T 0 m_all 3952 f_all]] _ _ := G
                refine lv_goto (tgt := 311) hx hb dX12_advance_283 (by decide) ?_
                have hT9 : zTokR (tkT (fun j => f_all (10 + j)) n) pp (nI z) (nI x) (1 : Int32) nu i_word := (by have hd9 := tk_D hB hlt hnl hdx hD; rw [if_pos (show  z - x ≤ 2 by omega), if_pos (show  z - x ≤ 2 by omega)] at hd9; exact zTokR_of 1 hd9 (by decide) (fun _ _ => tk_of (by rw [hnu, show min z (x + 2) = z by omega])) (fun h9 => absurd h9 (by decide)) (by decide))
                have hO9 := zTokR_old (tkT_ok _ _) hpn hn6 hT9
                exact z_back hQz_ (z_vret C hr hlocks G (Nat.le_of_ble_eq_true rfl) (Nat.le_of_ble_eq_true rfl) dX12_advance_311 ⟨(nI z), (nI x), 1, nu, i_word, rfl, hO9.1, hO9.2.1, hO9.2.2.1, hO9.2.2.2.1, hO9.2.2.2.2.1, hO9.2.2.2.2.2, hT9⟩)
              · have c_56n : ¬ y_55.toInt ≤ (2 : Int) := fun q => c_56 ((fa_le _ _).mpr q)
                refine lv_iconst (v := 4) hx hb dX12_advance_275 (by decide) ?_
                refine lv_goto (tgt := 280) hx hb dX12_advance_276 (by decide) ?_
                refine z_put C G clX12 0 rfl 5 (by decide) m_fl_RX12_80 rfl rfl rfl (Nat.le_of_ble_eq_true rfl) dX12_advance_280 (fun H locs G => ?_)
                have G : zS T A s.heap s [[zO11 mo m_all m_has (nI n) (nI z) (nI x) 4 nu i_word i_wrong i_farCrossing m_read i_z0 i_crossings i_inns m_posts m_shut m_here i_steps i_done i_at i_gone m_was m_came m_seenAt m_rowWorth m_farBy m_used i_everywhere i_again0 i_d0 i_never i_firstCame i_longRun i_moved i_crowd i_l0 i_fitMany i_fitLeast i_fitMost m_fitPost m_fitEnd m_keptPosts i_x0], [zAr T 0 m_all 3952 f_all]] _ _ := G
                refine lv_goto (tgt := 311) hx hb dX12_advance_283 (by decide) ?_
                have hT9 : zTokR (tkT (fun j => f_all (10 + j)) n) pp (nI z) (nI x) (4 : Int32) nu i_word := (by have hd9 := tk_D hB hlt hnl hdx hD; rw [if_neg (show ¬ z - x ≤ 2 by omega), if_neg (show ¬ z - x ≤ 2 by omega)] at hd9; exact zTokR_of 4 hd9 (by decide) (fun h9 _ => absurd h9 (by decide)) (fun h9 => absurd h9 (by decide)) (by decide))
                have hO9 := zTokR_old (tkT_ok _ _) hpn hn6 hT9
                exact z_back hQz_ (z_vret C hr hlocks G (Nat.le_of_ble_eq_true rfl) (Nat.le_of_ble_eq_true rfl) dX12_advance_311 ⟨(nI z), (nI x), 4, nu, i_word, rfl, hO9.1, hO9.2.1, hO9.2.2.1, hO9.2.2.2.1, hO9.2.2.2.2.1, hO9.2.2.2.2.2, hT9⟩)
          · have h_38 : ((zBt f_all n x).toInt < 48 ∨ 57 < (zBt f_all n x).toInt) := h_38
            refine lv_if_eq (tgt := 286) hx hb dX12_advance_190 (by decide) (fun _ => ?_) (fun q => absurd (by decide) q)
            have hnl := tkL_f (show (f_all (10 + x)).toInt < 97 ∨ 122 < (f_all (10 + x)).toInt by rw [← hbx]; omega)
            have hnd := tkD_f (show (f_all (10 + x)).toInt < 48 ∨ 57 < (f_all (10 + x)).toInt by rw [← hbx]; omega)
            refine lv_aload_n hx hb dX12_advance_286 rfl (lv_at hl 1 rfl) ?_
            refine lv_dup hx hb dX12_advance_287 rfl ?_
            refine z_get C G clX12 0 rfl 3 (by decide) m_fl_RX12_70 rfl dX12_advance_288 ?_
            refine lv_iconst (v := 1) hx hb dX12_advance_291 (by decide) ?_
            refine lv_iadd hx hb dX12_advance_292 ?_
            refine lv_topi (fun y_57 ey_57 => ?_)
            obtain rfl : y_57 = nI (x + 1) := ey_57.trans (z_iaddn x 1 rfl rfl)
            refine z_put C G clX12 0 rfl 3 (by decide) m_fl_RX12_70 rfl rfl rfl (Nat.le_of_ble_eq_true rfl) dX12_advance_293 (fun H locs G => ?_)
            have G : zS T A s.heap s [[zO11 mo m_all m_has (nI n) (nI (x + 1)) (nI x) i_token i_number i_word i_wrong i_farCrossing m_read i_z0 i_crossings i_inns m_posts m_shut m_here i_steps i_done i_at i_gone m_was m_came m_seenAt m_rowWorth m_farBy m_used i_everywhere i_again0 i_d0 i_never i_firstCame i_longRun i_moved i_crowd i_l0 i_fitMany i_fitLeast i_fitMost m_fitPost m_fitEnd m_keptPosts i_x0], [zAr T 0 m_all 3952 f_all]] _ _ := G
            refine lv_aload_n hx hb dX12_advance_296 rfl (lv_at hl 1 rfl) ?_
            refine lv_iload_n hx hb dX12_advance_297 rfl (lv_at hl 0 rfl) ?_
            refine lv_bipush (v := 59) hx hb dX12_advance_298 (by decide) ?_
            refine lv_icmp_ne (tgt := 307) hx hb dX12_advance_300 (by decide) (fun c_58 => ?_) (fun c_58 => ?_)
            · have c_58n : ¬ (zBt f_all n x).toInt = (59 : Int) := fun q => c_58 ((fa_eq _ _).mpr q)
              refine lv_iconst (v := 4) hx hb dX12_advance_307 (by decide) ?_
              refine z_put C G clX12 0 rfl 5 (by decide) m_fl_RX12_80 rfl rfl rfl (Nat.le_of_ble_eq_true rfl) dX12_advance_308 (fun H locs G => ?_)
              have G : zS T A s.heap s [[zO11 mo m_all m_has (nI n) (nI (x + 1)) (nI x) 4 i_number i_word i_wrong i_farCrossing m_read i_z0 i_crossings i_inns m_posts m_shut m_here i_steps i_done i_at i_gone m_was m_came m_seenAt m_rowWorth m_farBy m_used i_everywhere i_again0 i_d0 i_never i_firstCame i_longRun i_moved i_crowd i_l0 i_fitMany i_fitLeast i_fitMost m_fitPost m_fitEnd m_keptPosts i_x0], [zAr T 0 m_all 3952 f_all]] _ _ := G
              have hT9 : zTokR (tkT (fun j => f_all (10 + j)) n) pp (nI (x + 1)) (nI x) (4 : Int32) i_number i_word := (by have hs9 := tk_S hB hlt hnl hnd; rw [if_neg (show ¬ (f_all (10 + x)).toInt = 59 by rw [← hbx]; omega)] at hs9; exact zTokR_of 4 hs9 (by decide) (fun h9 _ => absurd h9 (by decide)) (fun h9 => absurd h9 (by decide)) (by decide))
              have hO9 := zTokR_old (tkT_ok _ _) hpn hn6 hT9
              exact z_back hQz_ (z_vret C hr hlocks G (Nat.le_of_ble_eq_true rfl) (Nat.le_of_ble_eq_true rfl) dX12_advance_311 ⟨(nI (x + 1)), (nI x), 4, i_number, i_word, rfl, hO9.1, hO9.2.1, hO9.2.2.1, hO9.2.2.2.1, hO9.2.2.2.2.1, hO9.2.2.2.2.2, hT9⟩)
            · have c_58n : (zBt f_all n x).toInt = (59 : Int) := (fa_eq _ _).mp c_58
              refine lv_iconst (v := 2) hx hb dX12_advance_303 (by decide) ?_
              refine lv_goto (tgt := 308) hx hb dX12_advance_304 (by decide) ?_
              refine z_put C G clX12 0 rfl 5 (by decide) m_fl_RX12_80 rfl rfl rfl (Nat.le_of_ble_eq_true rfl) dX12_advance_308 (fun H locs G => ?_)
              have G : zS T A s.heap s [[zO11 mo m_all m_has (nI n) (nI (x + 1)) (nI x) 2 i_number i_word i_wrong i_farCrossing m_read i_z0 i_crossings i_inns m_posts m_shut m_here i_steps i_done i_at i_gone m_was m_came m_seenAt m_rowWorth m_farBy m_used i_everywhere i_again0 i_d0 i_never i_firstCame i_longRun i_moved i_crowd i_l0 i_fitMany i_fitLeast i_fitMost m_fitPost m_fitEnd m_keptPosts i_x0], [zAr T 0 m_all 3952 f_all]] _ _ := G
              have hT9 : zTokR (tkT (fun j => f_all (10 + j)) n) pp (nI (x + 1)) (nI x) (2 : Int32) i_number i_word := (by have hs9 := tk_S hB hlt hnl hnd; rw [if_pos (show  (f_all (10 + x)).toInt = 59 by rw [← hbx]; omega)] at hs9; exact zTokR_of 2 hs9 (by decide) (fun h9 _ => absurd h9 (by decide)) (fun h9 => absurd h9 (by decide)) (by decide))
              have hO9 := zTokR_old (tkT_ok _ _) hpn hn6 hT9
              exact z_back hQz_ (z_vret C hr hlocks G (Nat.le_of_ble_eq_true rfl) (Nat.le_of_ble_eq_true rfl) dX12_advance_311 ⟨(nI (x + 1)), (nI x), 2, i_number, i_word, rfl, hO9.1, hO9.2.1, hO9.2.2.1, hO9.2.2.2.1, hO9.2.2.2.2.1, hO9.2.2.2.2.2, hT9⟩)
      · have c_10n : ¬ (0 : Int) ≤ (zBt f_all n x).toInt := fun q => c_10 ((fa_le _ _).mpr q)
        refine lv_aload_n hx hb dX12_advance_60 rfl (lv_at hl 1 rfl) ?_
        refine lv_iconst (v := 0) hx hb dX12_advance_61 (by decide) ?_
        refine z_put C G clX12 0 rfl 5 (by decide) m_fl_RX12_80 rfl rfl rfl (Nat.le_of_ble_eq_true rfl) dX12_advance_62 (fun H locs G => ?_)
        have G : zS T A s.heap s [[zO11 mo m_all m_has (nI n) (nI x) (nI x) 0 i_number i_word i_wrong i_farCrossing m_read i_z0 i_crossings i_inns m_posts m_shut m_here i_steps i_done i_at i_gone m_was m_came m_seenAt m_rowWorth m_farBy m_used i_everywhere i_again0 i_d0 i_never i_firstCame i_longRun i_moved i_crowd i_l0 i_fitMany i_fitLeast i_fitMost m_fitPost m_fitEnd m_keptPosts i_x0], [zAr T 0 m_all 3952 f_all]] _ _ := G
        refine lv_goto (tgt := 311) hx hb dX12_advance_65 (by decide) ?_
        have hT9 : zTokR (tkT (fun j => f_all (10 + j)) n) pp (nI x) (nI x) (0 : Int32) i_number i_word := zTokR_of 0 (tk_0 hB (zBt_neg hby (by omega))) (by decide) (fun h9 _ => absurd h9 (by decide)) (fun h9 => absurd h9 (by decide)) (by decide)
        have hO9 := zTokR_old (tkT_ok _ _) hpn hn6 hT9
        exact z_back hQz_ (z_vret C hr hlocks G (Nat.le_of_ble_eq_true rfl) (Nat.le_of_ble_eq_true rfl) dX12_advance_311 ⟨(nI x), (nI x), 0, i_number, i_word, rfl, hO9.1, hO9.2.1, hO9.2.2.1, hO9.2.2.2.1, hO9.2.2.2.2.1, hO9.2.2.2.2.2, hT9⟩)
    · have c_7n : (zBt f_all n x).toInt = (32 : Int) := (fa_eq _ _).mp c_7
      have hz9 := zBt_B (show (zBt f_all n x).toInt = 10 ∨ (zBt f_all n x).toInt = 32 by omega)
      have hlt := hz9.1
      refine lv_aload_n hx hb dX12_advance_26 rfl (lv_at hl 0 rfl) ?_
      refine lv_dup hx hb dX12_advance_27 rfl ?_
      refine z_get C G clX12 0 rfl 3 (by decide) m_fl_RX12_70 rfl dX12_advance_28 ?_
      refine lv_iconst (v := 1) hx hb dX12_advance_31 (by decide) ?_
      refine lv_iadd hx hb dX12_advance_32 ?_
      refine lv_topi (fun y_59 ey_59 => ?_)
      obtain rfl : y_59 = nI (x + 1) := ey_59.trans (z_iaddn x 1 rfl rfl)
      refine z_put C G clX12 0 rfl 3 (by decide) m_fl_RX12_70 rfl rfl rfl (Nat.le_of_ble_eq_true rfl) dX12_advance_33 (fun H locs G => ?_)
      have G : zS T A s.heap s [[zO11 mo m_all m_has (nI n) (nI (x + 1)) i_where i_token i_number i_word i_wrong i_farCrossing m_read i_z0 i_crossings i_inns m_posts m_shut m_here i_steps i_done i_at i_gone m_was m_came m_seenAt m_rowWorth m_farBy m_used i_everywhere i_again0 i_d0 i_never i_firstCame i_longRun i_moved i_crowd i_l0 i_fitMany i_fitLeast i_fitMost m_fitPost m_fitEnd m_keptPosts i_x0], [zAr T 0 m_all 3952 f_all]] _ _ := G
      refine lv_goto (tgt := 0) hx hb dX12_advance_36 (by decide) ?_
      exact ih_0 (x + 1) (show (pp ≤ (x + 1) ∧ (x + 1) ≤ n) ∧ (∀ j, pp ≤ j → j < (x + 1) → tkB (f_all (10 + j)) = true) from ⟨(by omega), (z_allS (f := (fun j => f_all (10 + j))) hall hz9.2)⟩) (show n - (x + 1) < n - x from by omega) _ _ ls G (lv_sub hl [0] rfl)
/-! LINES of the reference -/
theorem pWord_r {k : pT} {lo hi : Nat} {a : pS} (h : (pWord k lo hi a).2.2.1.toInt = 0) : a.2.1.toInt = 0 ∧ pTk k a.1 = 3 ∧ (lo ≤ pWd k a.1 ∧ pWd k a.1 ≤ hi) ∧ pWord k lo hi a = (pWd k a.1, pAdv k a) := by
  by_cases c : ¬ a.2.1.toInt = 0 ∨ ¬ pTk k a.1 = 3 ∨ ¬ (lo ≤ pWd k a.1 ∧ pWd k a.1 ≤ hi)
  · rw [pWord_e c] at h
    by_cases c2 : a.2.1.toInt = 0
    · rw [pEnds_y c2] at h
      exact absurd (show (1 : Int32).toInt = 0 from h) (by decide)
    · rw [pEnds_n c2] at h
      exact absurd h c2
  · have c0 : a.2.1.toInt = 0 := Decidable.byContradiction (fun z => c (Or.inl z))
    have c1 : pTk k a.1 = 3 := Decidable.byContradiction (fun z => c (Or.inr (Or.inl z)))
    have c2 : lo ≤ pWd k a.1 ∧ pWd k a.1 ≤ hi := Decidable.byContradiction (fun z => c (Or.inr (Or.inr z)))
    exact ⟨c0, c1, c2, pWord_i c0 c1 c2⟩
theorem pWord_1 (k : pT) (lo hi : Nat) (a : pS) : (pWord k lo hi a).1 ≤ hi := by
  unfold pWord
  split
  · exact Nat.zero_le _
  · rename_i c
    exact (Decidable.byContradiction (fun z => c (Or.inr (Or.inr z))) : lo ≤ pWd k a.1 ∧ pWd k a.1 ≤ hi).2
theorem pRow_y {k : pT} {j i : Nat} {a : pS} {f : Nat → Int32} {v : Int32} (h1 : (f 0).toInt < 7) (h2 : min j 4 < 4) (hi : i = 23 + 4 * (f 0).toInt.toNat + min j 4) (hv : v = (pCr k (pAt k j a)).1) : upd f i v = pRow k j a f := by
  unfold pRow
  rw [if_pos ⟨h1, h2⟩, hi, hv]
theorem pRow_n {k : pT} {j : Nat} {a : pS} {f : Nat → Int32} (h : ¬ ((f 0).toInt < 7 ∧ min j 4 < 4)) : f = pRow k j a f := (if_neg h).symm
theorem pAt_y {k : pT} {j : Nat} {a : pS} (h : min j 4 = 4) : pAt k j a = pAlso 3 (nI (pWh k a.1)) a := if_pos h
theorem pAt_n {k : pT} {j : Nat} {a : pS} (h : ¬ min j 4 = 4) : pAt k j a = a := if_neg h
section PLL
variable {k : pT} {a d : pS} {w : Nat} {f : Nat → Int32}
theorem pLand_w (h : pWord k 1 4 a = (w, d)) (hb : ¬ d.2.1.toInt = 0) : pLand k a f = (pEndL k d, f) := by
  unfold pLand
  rw [h]
  show (pEndL k (pOther k w (nI (pWh k a.1)) d f).1, (pOther k w (nI (pWh k a.1)) d f).2) = _
  rw [pOther_b hb]
theorem pLand_c (h : pWord k 1 4 a = (w, d)) (hb : d.2.1.toInt = 0) (hw : w = 1) : pLand k a f = (pEndL k (pCross k (nI (pWh k a.1)) d f).1, (pCross k (nI (pWh k a.1)) d f).2) := by
  have e : pOther k w (nI (pWh k a.1)) d f = pCross k (nI (pWh k a.1)) d f := (if_neg (fun z => z hb)).trans (if_pos hw)
  unfold pLand
  rw [h]
  show (pEndL k (pOther k w (nI (pWh k a.1)) d f).1, (pOther k w (nI (pWh k a.1)) d f).2) = _
  rw [e]
theorem pLand_i (h : pWord k 1 4 a = (w, d)) (hb : d.2.1.toInt = 0) (hw : w = 4) : pLand k a f = (pEndL k (pInn k d f).1, (pInn k d f).2) := by
  have e : pOther k w (nI (pWh k a.1)) d f = pInn k d f := (if_neg (fun z => z hb)).trans ((if_neg (by omega)).trans (if_pos hw))
  unfold pLand
  rw [h]
  show (pEndL k (pOther k w (nI (pWh k a.1)) d f).1, (pOther k w (nI (pWh k a.1)) d f).2) = _
  rw [e]
theorem pLand_p (h : pWord k 1 4 a = (w, d)) (hb : d.2.1.toInt = 0) (hw : w = 2 ∨ w = 3) : pLand k a f = (pEndL k (pPW k w d f).1, (pPW k w d f).2) := by
  have e : pOther k w (nI (pWh k a.1)) d f = pPW k w d f := (if_neg (fun z => z hb)).trans ((if_neg (by omega)).trans (if_neg (by omega)))
  unfold pLand
  rw [h]
  show (pEndL k (pOther k w (nI (pWh k a.1)) d f).1, (pOther k w (nI (pWh k a.1)) d f).2) = _
  rw [e]
end PLL
set_option maxHeartbeats 4000000 in
set_option maxRecDepth 100000 in
/-- c_fm_ends -/
theorem c_fm_ends (l : Launch) (T : zTy) (mo : Nat) (m_all : Nat) (m_has : Nat) (i_size : Int32) (i_next : Int32) (i_where : Int32) (i_token : Int32) (i_number : Int32) (i_word : Int32) (i_wrong : Int32) (i_farCrossing : Int32) (m_read : Nat) (i_z0 : Int32) (i_crossings : Int32) (i_inns : Int32) (m_posts : Nat) (m_shut : Nat) (m_here : Nat) (i_steps : Int32) (i_done : Int32) (i_at : Int32) (i_gone : Int32) (m_was : Nat) (m_came : Nat) (m_seenAt : Nat) (m_rowWorth : Nat) (m_farBy : Nat) (m_used : Nat) (i_everywhere : Int32) (i_again0 : Int32) (i_d0 : Int32) (i_never : Int32) (i_firstCame : Int32) (i_longRun : Int32) (i_moved : Int32) (i_crowd : Int32) (i_l0 : Int32) (i_fitMany : Int32) (i_fitLeast : Int32) (i_fitMost : Int32) (m_fitPost : Nat) (m_fitEnd : Nat) (m_keptPosts : Nat) (i_x0 : Int32) (f_all : Nat → Int32) : zMv l T yX12_ends cX12_ends 1 1 0 0 [.ref mo] [[zO11 mo m_all m_has i_size i_next i_where i_token i_number i_word i_wrong i_farCrossing m_read i_z0 i_crossings i_inns m_posts m_shut m_here i_steps i_done i_at i_gone m_was m_came m_seenAt m_rowWorth m_farBy m_used i_everywhere i_again0 i_d0 i_never i_firstCame i_longRun i_moved i_crowd i_l0 i_fitMany i_fitLeast i_fitMost m_fitPost m_fitEnd m_keptPosts i_x0], [zAr T 0 m_all 3952 f_all]] (fun bs => ∃ (j_wrong : Int32) (g_all : Nat → Int32), bs = [[zO11 mo m_all m_has i_size i_next i_where i_token i_number i_word j_wrong i_farCrossing m_read i_z0 i_crossings i_inns m_posts m_shut m_here i_steps i_done i_at i_gone m_was m_came m_seenAt m_rowWorth m_farBy m_used i_everywhere i_again0 i_d0 i_never i_firstCame i_longRun i_moved i_crowd i_l0 i_fitMany i_fitLeast i_fitMost m_fitPost m_fitEnd m_keptPosts i_x0], [zAr T 0 m_all 3952 g_all]] ∧ ¬ j_wrong.toInt = 0 ∧ zPal f_all g_all ∧ j_wrong = (if i_wrong.toInt = 0 then 1 else i_wrong) ∧ g_all = (if i_wrong.toInt = 0 then upd (upd f_all 5 1) 6 i_where else f_all)) := by
  refine zMv_of (own := RX12) (by decide) rfl (Nat.le_of_ble_eq_true rfl) ?_
  intro p e s m args below meth c A ls C hr hlocks hnm hAe G hl
  refine zHide (fun Qz_ hQz_ => ?_)
  have hx := C.1
  have hb := C.2.1
  have hl : lv_has ls 1 [(0, .ref mo)] := hl
  refine lv_aload_n hx hb dX12_ends_0 rfl (lv_at hl 0 rfl) ?_
  refine z_get C G clX12 0 rfl 8 (by decide) m_fl_RX12_104 rfl dX12_ends_1 ?_
  refine lv_if_eq (tgt := 8) hx hb dX12_ends_4 (by decide) (fun c_1 => ?_) (fun c_1 => ?_)
  · have c_1n : i_wrong.toInt = (0 : Int) := (fa_eq _ _).mp c_1
    refine lv_aload_n hx hb dX12_ends_8 rfl (lv_at hl 0 rfl) ?_
    refine lv_iconst (v := 1) hx hb dX12_ends_9 (by decide) ?_
    refine z_put C G clX12 0 rfl 8 (by decide) m_fl_RX12_104 rfl rfl rfl (Nat.le_of_ble_eq_true rfl) dX12_ends_10 (fun H locs G => ?_)
    have G : zS T A s.heap s [[zO11 mo m_all m_has i_size i_next i_where i_token i_number i_word 1 i_farCrossing m_read i_z0 i_crossings i_inns m_posts m_shut m_here i_steps i_done i_at i_gone m_was m_came m_seenAt m_rowWorth m_farBy m_used i_everywhere i_again0 i_d0 i_never i_firstCame i_longRun i_moved i_crowd i_l0 i_fitMany i_fitLeast i_fitMost m_fitPost m_fitEnd m_keptPosts i_x0], [zAr T 0 m_all 3952 f_all]] _ _ := G
    refine lv_aload_n hx hb dX12_ends_13 rfl (lv_at hl 0 rfl) ?_
    refine z_get C G clX12 0 rfl 0 (by decide) m_fl_RX12_7 rfl dX12_ends_14 ?_
    refine lv_iconst (v := 5) hx hb dX12_ends_17 (by decide) ?_
    refine lv_iconst (v := 1) hx hb dX12_ends_18 (by decide) ?_
    refine z_ist C G 1 rfl (vp_in_nI (n := 5) (by decide) (by decide)) dX12_ends_19 (fun H locs G => ?_)
    have G : zS T A s.heap s [[zO11 mo m_all m_has i_size i_next i_where i_token i_number i_word 1 i_farCrossing m_read i_z0 i_crossings i_inns m_posts m_shut m_here i_steps i_done i_at i_gone m_was m_came m_seenAt m_rowWorth m_farBy m_used i_everywhere i_again0 i_d0 i_never i_firstCame i_longRun i_moved i_crowd i_l0 i_fitMany i_fitLeast i_fitMost m_fitPost m_fitEnd m_keptPosts i_x0], [zAr T 0 m_all 3952 (upd f_all 5 1)]] _ _ := G
    refine lv_aload_n hx hb dX12_ends_20 rfl (lv_at hl 0 rfl) ?_
    refine z_get C G clX12 0 rfl 0 (by decide) m_fl_RX12_7 rfl dX12_ends_21 ?_
    refine lv_bipush (v := 6) hx hb dX12_ends_24 (by decide) ?_
    refine lv_aload_n hx hb dX12_ends_26 rfl (lv_at hl 0 rfl) ?_
    refine z_get C G clX12 0 rfl 4 (by decide) m_fl_RX12_77 rfl dX12_ends_27 ?_
    refine z_ist C G 1 rfl (vp_in_nI (n := 6) (by decide) (by decide)) dX12_ends_30 (fun H locs G => ?_)
    have G : zS T A s.heap s [[zO11 mo m_all m_has i_size i_next i_where i_token i_number i_word 1 i_farCrossing m_read i_z0 i_crossings i_inns m_posts m_shut m_here i_steps i_done i_at i_gone m_was m_came m_seenAt m_rowWorth m_farBy m_used i_everywhere i_again0 i_d0 i_never i_firstCame i_longRun i_moved i_crowd i_l0 i_fitMany i_fitLeast i_fitMost m_fitPost m_fitEnd m_keptPosts i_x0], [zAr T 0 m_all 3952 (upd (upd f_all 5 1) 6 i_where)]] _ _ := G
    exact z_back hQz_ (z_vret C hr hlocks G (Nat.le_of_ble_eq_true rfl) (Nat.le_of_ble_eq_true rfl) dX12_ends_31 ⟨1, (upd (upd f_all 5 1) 6 i_where), rfl, (by decide), (zPal_u6 (zPal_u5 (zPal_rf _))), (by rw [if_pos (by omega)]), (by rw [if_pos (by omega)])⟩)
  · have c_1n : ¬ i_wrong.toInt = (0 : Int) := fun q => c_1 ((fa_eq _ _).mpr q)
    exact z_back hQz_ (z_vret C hr hlocks G (Nat.le_of_ble_eq_true rfl) (Nat.le_of_ble_eq_true rfl) dX12_ends_7 ⟨i_wrong, f_all, rfl, (by first | with_reducible assumption | omega | trivial | assumption), (zPal_rf _), (by rw [if_neg (by omega)]), (by rw [if_neg (by omega)])⟩)
set_option maxHeartbeats 4000000 in
set_option maxRecDepth 100000 in
/-- c_fm_also -/
theorem c_fm_also (l : Launch) (T : zTy) (mo : Nat) (m_all : Nat) (m_has : Nat) (i_size : Int32) (i_next : Int32) (i_where : Int32) (i_token : Int32) (i_number : Int32) (i_word : Int32) (i_wrong : Int32) (i_farCrossing : Int32) (m_read : Nat) (i_z0 : Int32) (i_crossings : Int32) (i_inns : Int32) (m_posts : Nat) (m_shut : Nat) (m_here : Nat) (i_steps : Int32) (i_done : Int32) (i_at : Int32) (i_gone : Int32) (m_was : Nat) (m_came : Nat) (m_seenAt : Nat) (m_rowWorth : Nat) (m_farBy : Nat) (m_used : Nat) (i_everywhere : Int32) (i_again0 : Int32) (i_d0 : Int32) (i_never : Int32) (i_firstCame : Int32) (i_longRun : Int32) (i_moved : Int32) (i_crowd : Int32) (i_l0 : Int32) (i_fitMany : Int32) (i_fitLeast : Int32) (i_fitMost : Int32) (m_fitPost : Nat) (m_fitEnd : Nat) (m_keptPosts : Nat) (i_x0 : Int32) (f_all : Nat → Int32) (kd : Int32) (at_ : Int32) : zMv l T yX12_also cX12_also 3 1 0 0 [.ref mo, .int kd, .int at_] [[zO11 mo m_all m_has i_size i_next i_where i_token i_number i_word i_wrong i_farCrossing m_read i_z0 i_crossings i_inns m_posts m_shut m_here i_steps i_done i_at i_gone m_was m_came m_seenAt m_rowWorth m_farBy m_used i_everywhere i_again0 i_d0 i_never i_firstCame i_longRun i_moved i_crowd i_l0 i_fitMany i_fitLeast i_fitMost m_fitPost m_fitEnd m_keptPosts i_x0], [zAr T 0 m_all 3952 f_all]] (fun bs => ∃ (g_all : Nat → Int32), bs = [[zO11 mo m_all m_has i_size i_next i_where i_token i_number i_word i_wrong i_farCrossing m_read i_z0 i_crossings i_inns m_posts m_shut m_here i_steps i_done i_at i_gone m_was m_came m_seenAt m_rowWorth m_farBy m_used i_everywhere i_again0 i_d0 i_never i_firstCame i_longRun i_moved i_crowd i_l0 i_fitMany i_fitLeast i_fitMost m_fitPost m_fitEnd m_keptPosts i_x0], [zAr T 0 m_all 3952 g_all]] ∧ zPal f_all g_all ∧ g_all = (if ¬ i_wrong.toInt = 0 ∨ (¬ (f_all 5).toInt = 0 ∧ ((f_all 6).toInt < at_.toInt ∨ ((f_all 6).toInt = at_.toInt ∧ (f_all 5).toInt ≤ kd.toInt))) then f_all else upd (upd f_all 5 kd) 6 at_)) := by
  refine zMv_of (own := RX12) (by decide) rfl (Nat.le_of_ble_eq_true rfl) ?_
  intro p e s m args below meth c A ls C hr hlocks hnm hAe G hl
  refine zHide (fun Qz_ hQz_ => ?_)
  have hx := C.1
  have hb := C.2.1
  have hl : lv_has ls 3 [(0, .ref mo), (1, .int kd), (2, .int at_)] := hl
  refine lv_aload_n hx hb dX12_also_0 rfl (lv_at hl 0 rfl) ?_
  refine z_get C G clX12 0 rfl 8 (by decide) m_fl_RX12_104 rfl dX12_also_1 ?_
  refine lv_if_ne (tgt := 48) hx hb dX12_also_4 (by decide) (fun c_1 => ?_) (fun c_1 => ?_)
  · have c_1n : ¬ i_wrong.toInt = (0 : Int) := fun q => c_1 ((fa_eq _ _).mpr q)
    exact z_back hQz_ (z_vret C hr hlocks G (Nat.le_of_ble_eq_true rfl) (Nat.le_of_ble_eq_true rfl) dX12_also_48 ⟨f_all, rfl, (zPal_rf _), (by rw [if_pos (by omega)])⟩)
  · have c_1n : i_wrong.toInt = (0 : Int) := (fa_eq _ _).mp c_1
    refine lv_aload_n hx hb dX12_also_7 rfl (lv_at hl 0 rfl) ?_
    refine z_get C G clX12 0 rfl 0 (by decide) m_fl_RX12_7 rfl dX12_also_8 ?_
    refine lv_iconst (v := 5) hx hb dX12_also_11 (by decide) ?_
    refine z_ild C G 1 rfl (vp_in_nI (n := 5) (by decide) (by decide)) dX12_also_12 ?_
    refine lv_topi (fun v_2 ev_2 => ?_)
    rw [show ((5 : Int32).toNatClampNeg) = 5 from rfl] at ev_2
    subst ev_2
    refine lv_if_eq (tgt := 49) hx hb dX12_also_13 (by decide) (fun c_3 => ?_) (fun c_3 => ?_)
    · have c_3n : (f_all 5).toInt = (0 : Int) := (fa_eq _ _).mp c_3
      refine lv_aload_n hx hb dX12_also_49 rfl (lv_at hl 0 rfl) ?_
      refine z_get C G clX12 0 rfl 0 (by decide) m_fl_RX12_7 rfl dX12_also_50 ?_
      refine lv_iconst (v := 5) hx hb dX12_also_53 (by decide) ?_
      refine lv_iload_n hx hb dX12_also_54 rfl (lv_at hl 1 rfl) ?_
      refine z_ist C G 1 rfl (vp_in_nI (n := 5) (by decide) (by decide)) dX12_also_55 (fun H locs G => ?_)
      have G : zS T A s.heap s [[zO11 mo m_all m_has i_size i_next i_where i_token i_number i_word i_wrong i_farCrossing m_read i_z0 i_crossings i_inns m_posts m_shut m_here i_steps i_done i_at i_gone m_was m_came m_seenAt m_rowWorth m_farBy m_used i_everywhere i_again0 i_d0 i_never i_firstCame i_longRun i_moved i_crowd i_l0 i_fitMany i_fitLeast i_fitMost m_fitPost m_fitEnd m_keptPosts i_x0], [zAr T 0 m_all 3952 (upd f_all 5 kd)]] _ _ := G
      refine lv_aload_n hx hb dX12_also_56 rfl (lv_at hl 0 rfl) ?_
      refine z_get C G clX12 0 rfl 0 (by decide) m_fl_RX12_7 rfl dX12_also_57 ?_
      refine lv_bipush (v := 6) hx hb dX12_also_60 (by decide) ?_
      refine lv_iload_n hx hb dX12_also_62 rfl (lv_at hl 2 rfl) ?_
      refine z_ist C G 1 rfl (vp_in_nI (n := 6) (by decide) (by decide)) dX12_also_63 (fun H locs G => ?_)
      have G : zS T A s.heap s [[zO11 mo m_all m_has i_size i_next i_where i_token i_number i_word i_wrong i_farCrossing m_read i_z0 i_crossings i_inns m_posts m_shut m_here i_steps i_done i_at i_gone m_was m_came m_seenAt m_rowWorth m_farBy m_used i_everywhere i_again0 i_d0 i_never i_firstCame i_longRun i_moved i_crowd i_l0 i_fitMany i_fitLeast i_fitMost m_fitPost m_fitEnd m_keptPosts i_x0], [zAr T 0 m_all 3952 (upd (upd f_all 5 kd) 6 at_)]] _ _ := G
      exact z_back hQz_ (z_vret C hr hlocks G (Nat.le_of_ble_eq_true rfl) (Nat.le_of_ble_eq_true rfl) dX12_also_64 ⟨(upd (upd f_all 5 kd) 6 at_), rfl, (zPal_u6 (zPal_u5 (zPal_rf _))), (by rw [if_neg (by omega)])⟩)
    · have c_3n : ¬ (f_all 5).toInt = (0 : Int) := fun q => c_3 ((fa_eq _ _).mpr q)
      refine lv_aload_n hx hb dX12_also_16 rfl (lv_at hl 0 rfl) ?_
      refine z_get C G clX12 0 rfl 0 (by decide) m_fl_RX12_7 rfl dX12_also_17 ?_
      refine lv_bipush (v := 6) hx hb dX12_also_20 (by decide) ?_
      refine z_ild C G 1 rfl (vp_in_nI (n := 6) (by decide) (by decide)) dX12_also_22 ?_
      refine lv_topi (fun v_4 ev_4 => ?_)
      rw [show ((6 : Int32).toNatClampNeg) = 6 from rfl] at ev_4
      subst ev_4
      refine lv_iload_n hx hb dX12_also_23 rfl (lv_at hl 2 rfl) ?_
      refine lv_icmp_lt (tgt := 48) hx hb dX12_also_24 (by decide) (fun c_5 => ?_) (fun c_5 => ?_)
      · have c_5n : (f_all 6).toInt < at_.toInt := (fa_lt _ _).mp c_5
        exact z_back hQz_ (z_vret C hr hlocks G (Nat.le_of_ble_eq_true rfl) (Nat.le_of_ble_eq_true rfl) dX12_also_48 ⟨f_all, rfl, (zPal_rf _), (by rw [if_pos (by omega)])⟩)
      · have c_5n : ¬ (f_all 6).toInt < at_.toInt := fun q => c_5 ((fa_lt _ _).mpr q)
        refine lv_aload_n hx hb dX12_also_27 rfl (lv_at hl 0 rfl) ?_
        refine z_get C G clX12 0 rfl 0 (by decide) m_fl_RX12_7 rfl dX12_also_28 ?_
        refine lv_bipush (v := 6) hx hb dX12_also_31 (by decide) ?_
        refine z_ild C G 1 rfl (vp_in_nI (n := 6) (by decide) (by decide)) dX12_also_33 ?_
        refine lv_topi (fun v_6 ev_6 => ?_)
        rw [show ((6 : Int32).toNatClampNeg) = 6 from rfl] at ev_6
        subst ev_6
        refine lv_iload_n hx hb dX12_also_34 rfl (lv_at hl 2 rfl) ?_
        refine lv_icmp_ne (tgt := 49) hx hb dX12_also_35 (by decide) (fun c_7 => ?_) (fun c_7 => ?_)
        · have c_7n : ¬ (f_all 6).toInt = at_.toInt := fun q => c_7 ((fa_eq _ _).mpr q)
          refine lv_aload_n hx hb dX12_also_49 rfl (lv_at hl 0 rfl) ?_
          refine z_get C G clX12 0 rfl 0 (by decide) m_fl_RX12_7 rfl dX12_also_50 ?_
          refine lv_iconst (v := 5) hx hb dX12_also_53 (by decide) ?_
          refine lv_iload_n hx hb dX12_also_54 rfl (lv_at hl 1 rfl) ?_
          refine z_ist C G 1 rfl (vp_in_nI (n := 5) (by decide) (by decide)) dX12_also_55 (fun H locs G => ?_)
          have G : zS T A s.heap s [[zO11 mo m_all m_has i_size i_next i_where i_token i_number i_word i_wrong i_farCrossing m_read i_z0 i_crossings i_inns m_posts m_shut m_here i_steps i_done i_at i_gone m_was m_came m_seenAt m_rowWorth m_farBy m_used i_everywhere i_again0 i_d0 i_never i_firstCame i_longRun i_moved i_crowd i_l0 i_fitMany i_fitLeast i_fitMost m_fitPost m_fitEnd m_keptPosts i_x0], [zAr T 0 m_all 3952 (upd f_all 5 kd)]] _ _ := G
          refine lv_aload_n hx hb dX12_also_56 rfl (lv_at hl 0 rfl) ?_
          refine z_get C G clX12 0 rfl 0 (by decide) m_fl_RX12_7 rfl dX12_also_57 ?_
          refine lv_bipush (v := 6) hx hb dX12_also_60 (by decide) ?_
          refine lv_iload_n hx hb dX12_also_62 rfl (lv_at hl 2 rfl) ?_
          refine z_ist C G 1 rfl (vp_in_nI (n := 6) (by decide) (by decide)) dX12_also_63 (fun H locs G => ?_)
          have G : zS T A s.heap s [[zO11 mo m_all m_has i_size i_next i_where i_token i_number i_word i_wrong i_farCrossing m_read i_z0 i_crossings i_inns m_posts m_shut m_here i_steps i_done i_at i_gone m_was m_came m_seenAt m_rowWorth m_farBy m_used i_everywhere i_again0 i_d0 i_never i_firstCame i_longRun i_moved i_crowd i_l0 i_fitMany i_fitLeast i_fitMost m_fitPost m_fitEnd m_keptPosts i_x0], [zAr T 0 m_all 3952 (upd (upd f_all 5 kd) 6 at_)]] _ _ := G
          exact z_back hQz_ (z_vret C hr hlocks G (Nat.le_of_ble_eq_true rfl) (Nat.le_of_ble_eq_true rfl) dX12_also_64 ⟨(upd (upd f_all 5 kd) 6 at_), rfl, (zPal_u6 (zPal_u5 (zPal_rf _))), (by rw [if_neg (by omega)])⟩)
        · have c_7n : (f_all 6).toInt = at_.toInt := (fa_eq _ _).mp c_7
          refine lv_aload_n hx hb dX12_also_38 rfl (lv_at hl 0 rfl) ?_
          refine z_get C G clX12 0 rfl 0 (by decide) m_fl_RX12_7 rfl dX12_also_39 ?_
          refine lv_iconst (v := 5) hx hb dX12_also_42 (by decide) ?_
          refine z_ild C G 1 rfl (vp_in_nI (n := 5) (by decide) (by decide)) dX12_also_43 ?_
          refine lv_topi (fun v_8 ev_8 => ?_)
          rw [show ((5 : Int32).toNatClampNeg) = 5 from rfl] at ev_8
          subst ev_8
          refine lv_iload_n hx hb dX12_also_44 rfl (lv_at hl 1 rfl) ?_
          refine lv_icmp_gt (tgt := 49) hx hb dX12_also_45 (by decide) (fun c_9 => ?_) (fun c_9 => ?_)
          · have c_9n : kd.toInt < (f_all 5).toInt := (fa_lt _ _).mp c_9
            refine lv_aload_n hx hb dX12_also_49 rfl (lv_at hl 0 rfl) ?_
            refine z_get C G clX12 0 rfl 0 (by decide) m_fl_RX12_7 rfl dX12_also_50 ?_
            refine lv_iconst (v := 5) hx hb dX12_also_53 (by decide) ?_
            refine lv_iload_n hx hb dX12_also_54 rfl (lv_at hl 1 rfl) ?_
            refine z_ist C G 1 rfl (vp_in_nI (n := 5) (by decide) (by decide)) dX12_also_55 (fun H locs G => ?_)
            have G : zS T A s.heap s [[zO11 mo m_all m_has i_size i_next i_where i_token i_number i_word i_wrong i_farCrossing m_read i_z0 i_crossings i_inns m_posts m_shut m_here i_steps i_done i_at i_gone m_was m_came m_seenAt m_rowWorth m_farBy m_used i_everywhere i_again0 i_d0 i_never i_firstCame i_longRun i_moved i_crowd i_l0 i_fitMany i_fitLeast i_fitMost m_fitPost m_fitEnd m_keptPosts i_x0], [zAr T 0 m_all 3952 (upd f_all 5 kd)]] _ _ := G
            refine lv_aload_n hx hb dX12_also_56 rfl (lv_at hl 0 rfl) ?_
            refine z_get C G clX12 0 rfl 0 (by decide) m_fl_RX12_7 rfl dX12_also_57 ?_
            refine lv_bipush (v := 6) hx hb dX12_also_60 (by decide) ?_
            refine lv_iload_n hx hb dX12_also_62 rfl (lv_at hl 2 rfl) ?_
            refine z_ist C G 1 rfl (vp_in_nI (n := 6) (by decide) (by decide)) dX12_also_63 (fun H locs G => ?_)
            have G : zS T A s.heap s [[zO11 mo m_all m_has i_size i_next i_where i_token i_number i_word i_wrong i_farCrossing m_read i_z0 i_crossings i_inns m_posts m_shut m_here i_steps i_done i_at i_gone m_was m_came m_seenAt m_rowWorth m_farBy m_used i_everywhere i_again0 i_d0 i_never i_firstCame i_longRun i_moved i_crowd i_l0 i_fitMany i_fitLeast i_fitMost m_fitPost m_fitEnd m_keptPosts i_x0], [zAr T 0 m_all 3952 (upd (upd f_all 5 kd) 6 at_)]] _ _ := G
            exact z_back hQz_ (z_vret C hr hlocks G (Nat.le_of_ble_eq_true rfl) (Nat.le_of_ble_eq_true rfl) dX12_also_64 ⟨(upd (upd f_all 5 kd) 6 at_), rfl, (zPal_u6 (zPal_u5 (zPal_rf _))), (by rw [if_neg (by omega)])⟩)
          · have c_9n : ¬ kd.toInt < (f_all 5).toInt := fun q => c_9 ((fa_lt _ _).mpr q)
            exact z_back hQz_ (z_vret C hr hlocks G (Nat.le_of_ble_eq_true rfl) (Nat.le_of_ble_eq_true rfl) dX12_also_48 ⟨f_all, rfl, (zPal_rf _), (by rw [if_pos (by omega)])⟩)
set_option maxHeartbeats 4000000 in
set_option maxRecDepth 100000 in
/-- c_fm_numbered -/
theorem c_fm_numbered (l : Launch) (T : zTy) (mo : Nat) (m_all : Nat) (m_has : Nat) (i_size : Int32) (i_next : Int32) (i_where : Int32) (i_token : Int32) (i_number : Int32) (i_word : Int32) (i_wrong : Int32) (i_farCrossing : Int32) (m_read : Nat) (i_z0 : Int32) (i_crossings : Int32) (i_inns : Int32) (m_posts : Nat) (m_shut : Nat) (m_here : Nat) (i_steps : Int32) (i_done : Int32) (i_at : Int32) (i_gone : Int32) (m_was : Nat) (m_came : Nat) (m_seenAt : Nat) (m_rowWorth : Nat) (m_farBy : Nat) (m_used : Nat) (i_everywhere : Int32) (i_again0 : Int32) (i_d0 : Int32) (i_never : Int32) (i_firstCame : Int32) (i_longRun : Int32) (i_moved : Int32) (i_crowd : Int32) (i_l0 : Int32) (i_fitMany : Int32) (i_fitLeast : Int32) (i_fitMost : Int32) (m_fitPost : Nat) (m_fitEnd : Nat) (m_keptPosts : Nat) (i_x0 : Int32) (f_all : Nat → Int32) (k : pT) (n : Nat) (a : pS) (lo_ : Int32) (hi_ : Int32) (hsz : i_size.toInt ≤ 600) (hn0 : 0 ≤ i_next.toInt) (hns : i_next.toInt ≤ i_size.toInt) (hlh : lo_.toInt ≤ hi_.toInt) (hA : zRr k n i_size i_next i_where i_token i_number i_word i_wrong i_farCrossing f_all a) : zMi l T yX12_numbered cX12_numbered 4 (some .int) 5 0 0 [.ref mo, .int lo_, .int hi_] [[zO11 mo m_all m_has i_size i_next i_where i_token i_number i_word i_wrong i_farCrossing m_read i_z0 i_crossings i_inns m_posts m_shut m_here i_steps i_done i_at i_gone m_was m_came m_seenAt m_rowWorth m_farBy m_used i_everywhere i_again0 i_d0 i_never i_firstCame i_longRun i_moved i_crowd i_l0 i_fitMany i_fitLeast i_fitMost m_fitPost m_fitEnd m_keptPosts i_x0], [zAr T 0 m_all 3952 f_all]] (fun (r : Int32) bs => ∃ (j_next : Int32) (j_where : Int32) (j_token : Int32) (j_number : Int32) (j_word : Int32) (j_wrong : Int32) (g_all : Nat → Int32), bs = [[zO11 mo m_all m_has i_size j_next j_where j_token j_number j_word j_wrong i_farCrossing m_read i_z0 i_crossings i_inns m_posts m_shut m_here i_steps i_done i_at i_gone m_was m_came m_seenAt m_rowWorth m_farBy m_used i_everywhere i_again0 i_d0 i_never i_firstCame i_longRun i_moved i_crowd i_l0 i_fitMany i_fitLeast i_fitMost m_fitPost m_fitEnd m_keptPosts i_x0], [zAr T 0 m_all 3952 g_all]] ∧ 0 ≤ j_next.toInt ∧ j_next.toInt ≤ i_size.toInt ∧ i_next.toInt ≤ j_next.toInt ∧ (¬ j_wrong.toInt = 0 ∨ i_next.toInt < j_next.toInt ∨ j_token.toInt = 0) ∧ zPal f_all g_all ∧ lo_.toInt ≤ r.toInt ∧ r.toInt ≤ hi_.toInt ∧ zRr k n i_size j_next j_where j_token j_number j_word j_wrong i_farCrossing g_all (pNum k lo_ hi_ a).2 ∧ r = (pNum k lo_ hi_ a).1) := by
  refine zMi_of (own := RX12) (by decide) rfl (Nat.le_of_ble_eq_true rfl) ?_
  intro p e s m args below meth c A ls C hr hlocks hnm hAe G hl
  refine zHide (fun Qz_ hQz_ => ?_)
  have hx := C.1
  have hb := C.2.1
  have hl : lv_has ls 4 [(0, .ref mo), (1, .int lo_), (2, .int hi_)] := hl
  have hok := zRr_ok hA
  refine zAn6 (id hA) ?_
  intro hA1 hA6 hA7 hA8 hA9 hA10
  replace hA7 : zHd _ := hA7
  have hka : zHd _ := hok a.1 hA1.2.2.2.2
  have hkb := hka.1
  have hkc := hka.2.1
  have hT4 := pTk_le hok hA1.2.2.2.2
  refine lv_aload_n hx hb dX12_numbered_0 rfl (lv_at hl 0 rfl) ?_
  refine z_get C G clX12 0 rfl 8 (by decide) m_fl_RX12_104 rfl dX12_numbered_1 ?_
  refine lv_if_ne (tgt := 15) hx hb dX12_numbered_4 (by decide) (fun c_1 => ?_) (fun c_1 => ?_)
  · have c_1n : ¬ i_wrong.toInt = (0 : Int) := fun q => c_1 ((fa_eq _ _).mpr q)
    refine lv_aload_n hx hb dX12_numbered_15 rfl (lv_at hl 0 rfl) ?_
    refine z_Vv (bc := [[zO11 mo m_all m_has i_size i_next i_where i_token i_number i_word i_wrong i_farCrossing m_read i_z0 i_crossings i_inns m_posts m_shut m_here i_steps i_done i_at i_gone m_was m_came m_seenAt m_rowWorth m_farBy m_used i_everywhere i_again0 i_d0 i_never i_firstCame i_longRun i_moved i_crowd i_l0 i_fitMany i_fitLeast i_fitMost m_fitPost m_fitEnd m_keptPosts i_x0], [zAr T 0 m_all 3952 f_all]]) (br := []) (As := []) (rest := []) C G (c_fm_ends l T mo m_all m_has i_size i_next i_where i_token i_number i_word i_wrong i_farCrossing m_read i_z0 i_crossings i_inns m_posts m_shut m_here i_steps i_done i_at i_gone m_was m_came m_seenAt m_rowWorth m_farBy m_used i_everywhere i_again0 i_d0 i_never i_firstCame i_longRun i_moved i_crowd i_l0 i_fitMany i_fitLeast i_fitMost m_fitPost m_fitEnd m_keptPosts i_x0 f_all) (kV_RX12_108 C.2.2.2.2 (Nat.le_of_ble_eq_true rfl) (Nat.le_of_ble_eq_true rfl)) [0, 1] [0, 0] rfl rfl (ci := 11) (qc := (RX12, TX12, 43)) rfl rfl (List.mem_flatten.mpr ⟨_, List.mem_of_getElem? (i := 0) rfl, List.mem_cons_self⟩) rfl rfl hl.1 dX12_numbered_16 (Nat.le_of_ble_eq_true rfl) (Nat.le_of_ble_eq_true rfl) (fun b1 H locs hw G => ?_)
    refine zEx2 hw ?_
    intro j_wrong_2 g_all_3
    refine zCu5 ?_
    intro hbs9 h_4 h_5 h_6 h_7
    clear hw
    subst hbs9
    have G : zS T A s.heap s [[zO11 mo m_all m_has i_size i_next i_where i_token i_number i_word j_wrong_2 i_farCrossing m_read i_z0 i_crossings i_inns m_posts m_shut m_here i_steps i_done i_at i_gone m_was m_came m_seenAt m_rowWorth m_farBy m_used i_everywhere i_again0 i_d0 i_never i_firstCame i_longRun i_moved i_crowd i_l0 i_fitMany i_fitLeast i_fitMost m_fitPost m_fitEnd m_keptPosts i_x0], [zAr T 0 m_all 3952 g_all_3]] _ _ := G
    refine lv_iload_n hx hb dX12_numbered_19 rfl (lv_at hl 1 rfl) ?_
    exact z_back hQz_ (z_iret C hr hlocks G (Nat.le_of_ble_eq_true rfl) (Nat.le_of_ble_eq_true rfl) dX12_numbered_20 ⟨i_next, i_where, i_token, i_number, i_word, j_wrong_2, g_all_3, rfl, (by first | with_reducible assumption | omega | trivial | assumption), (by first | with_reducible assumption | omega | trivial | assumption), (by first | with_reducible assumption | omega | trivial | assumption), (by first | with_reducible assumption | omega | trivial | assumption), h_5, (by first | with_reducible assumption | omega | trivial | assumption), (by first | with_reducible assumption | omega | trivial | assumption), (by rw [pNum_e (Or.inl (by rw [← hA6]; omega))]; exact zRr_ends hA h_6 h_7), (congrArg Prod.fst (pNum_e (Or.inl (by rw [← hA6]; omega)))).symm⟩)
  · have c_1n : i_wrong.toInt = (0 : Int) := (fa_eq _ _).mp c_1
    have hw : a.2.1.toInt = 0 := by rw [← hA6]; omega
    refine zAn5 (hA7 hw) ?_
    intro t1 t2 t3 t4 t5
    replace t4 : zHd _ := t4
    replace t5 : zHd _ := t5
    have t3i : i_token.toInt = (pTk k a.1 : Int) := by rw [t3]; exact nI_toInt (by omega)
    refine lv_aload_n hx hb dX12_numbered_7 rfl (lv_at hl 0 rfl) ?_
    refine z_get C G clX12 0 rfl 5 (by decide) m_fl_RX12_80 rfl dX12_numbered_8 ?_
    refine lv_iconst (v := 1) hx hb dX12_numbered_11 (by decide) ?_
    refine lv_icmp_eq (tgt := 21) hx hb dX12_numbered_12 (by decide) (fun c_9 => ?_) (fun c_9 => ?_)
    · have c_9n : i_token.toInt = (1 : Int) := (fa_eq _ _).mp c_9
      have htk : pTk k a.1 = 1 := by omega
      have hv := t4 htk
      refine lv_aload_n hx hb dX12_numbered_21 rfl (lv_at hl 0 rfl) ?_
      refine z_get C G clX12 0 rfl 6 (by decide) m_fl_RX12_101 rfl dX12_numbered_22 ?_
      refine lv_istore_n (lv' := [(3, .int i_number), (0, .ref mo), (1, .int lo_), (2, .int hi_)]) hx hb dX12_numbered_25 rfl hl (by decide) (zLvf_h rfl) (fun ls hl => ?_)
      refine lv_iload_n hx hb dX12_numbered_26 rfl (lv_at hl 0 rfl) ?_
      refine lv_iload_n hx hb dX12_numbered_27 rfl (lv_at hl 2 rfl) ?_
      refine lv_iload_n hx hb dX12_numbered_28 rfl (lv_at hl 3 rfl) ?_
      refine z_Si (bc := []) (br := [[zO11 mo m_all m_has i_size i_next i_where i_token i_number i_word i_wrong i_farCrossing m_read i_z0 i_crossings i_inns m_posts m_shut m_here i_steps i_done i_at i_gone m_was m_came m_seenAt m_rowWorth m_farBy m_used i_everywhere i_again0 i_d0 i_never i_firstCame i_longRun i_moved i_crowd i_l0 i_fitMany i_fitLeast i_fitMost m_fitPost m_fitEnd m_keptPosts i_x0], [zAr T 0 m_all 3952 f_all]]) (As := [.int i_number, .int lo_, .int hi_]) (rest := []) C G (c_m_isIn l T i_number lo_ hi_) (kS_RX12_111 C.2.2.2.2 (Nat.le_of_ble_eq_true rfl) (Nat.le_of_ble_eq_true rfl)) [] [] rfl rfl rfl rfl hl.1 dX12_numbered_29 (Nat.le_of_ble_eq_true rfl) (Nat.le_of_ble_eq_true rfl) (fun r_11 b1 H locs hw G => ?_)
      refine zAn2 hw ?_
      intro hbs9 hc_10
      clear hw
      subst hbs9
      have G : zS T A s.heap s [[zO11 mo m_all m_has i_size i_next i_where i_token i_number i_word i_wrong i_farCrossing m_read i_z0 i_crossings i_inns m_posts m_shut m_here i_steps i_done i_at i_gone m_was m_came m_seenAt m_rowWorth m_farBy m_used i_everywhere i_again0 i_d0 i_never i_firstCame i_longRun i_moved i_crowd i_l0 i_fitMany i_fitLeast i_fitMost m_fitPost m_fitEnd m_keptPosts i_x0], [zAr T 0 m_all 3952 f_all]] _ _ := G
      rcases hc_10 with ⟨rfl, h_12, h_13⟩ | ⟨rfl, h_14⟩
      · have h_12 : lo_.toInt ≤ i_number.toInt := h_12
        have h_13 : i_number.toInt ≤ hi_.toInt := h_13
        refine lv_if_ne (tgt := 44) hx hb dX12_numbered_32 (by decide) (fun _ => ?_) (fun q => absurd q (by decide))
        refine lv_aload_n hx hb dX12_numbered_44 rfl (lv_at hl 1 rfl) ?_
        refine z_Vv (bc := [[zO11 mo m_all m_has i_size i_next i_where i_token i_number i_word i_wrong i_farCrossing m_read i_z0 i_crossings i_inns m_posts m_shut m_here i_steps i_done i_at i_gone m_was m_came m_seenAt m_rowWorth m_farBy m_used i_everywhere i_again0 i_d0 i_never i_firstCame i_longRun i_moved i_crowd i_l0 i_fitMany i_fitLeast i_fitMost m_fitPost m_fitEnd m_keptPosts i_x0], [zAr T 0 m_all 3952 f_all]]) (br := []) (As := []) (rest := []) C G (c_fm_advance l T mo m_all m_has i_size i_next i_where i_token i_number i_word i_wrong i_farCrossing m_read i_z0 i_crossings i_inns m_posts m_shut m_here i_steps i_done i_at i_gone m_was m_came m_seenAt m_rowWorth m_farBy m_used i_everywhere i_again0 i_d0 i_never i_firstCame i_longRun i_moved i_crowd i_l0 i_fitMany i_fitLeast i_fitMost m_fitPost m_fitEnd m_keptPosts i_x0 f_all (pEn k a.1) n k hA1.2.2.2.1 t1 hka.1.2.2 hA1.2.2.1 hA1.1 hA1.2.1) (kV_RX12_119 C.2.2.2.2 (Nat.le_of_ble_eq_true rfl) (Nat.le_of_ble_eq_true rfl)) [0, 1] [0, 0] rfl rfl (ci := 11) (qc := (RX12, TX12, 43)) rfl rfl (List.mem_flatten.mpr ⟨_, List.mem_of_getElem? (i := 0) rfl, List.mem_cons_self⟩) rfl rfl hl.1 dX12_numbered_45 (Nat.le_of_ble_eq_true rfl) (Nat.le_of_ble_eq_true rfl) (fun b1 H locs hw G => ?_)
        refine zEx5 hw ?_
        intro j_next_15 j_where_16 j_token_17 j_number_18 j_word_19
        refine zCu8 ?_
        intro hbs9 h_20 h_21 h_22 h_23 h_24 h_25 h_26
        clear hw
        subst hbs9
        have G : zS T A s.heap s [[zO11 mo m_all m_has i_size j_next_15 j_where_16 j_token_17 j_number_18 j_word_19 i_wrong i_farCrossing m_read i_z0 i_crossings i_inns m_posts m_shut m_here i_steps i_done i_at i_gone m_was m_came m_seenAt m_rowWorth m_farBy m_used i_everywhere i_again0 i_d0 i_never i_firstCame i_longRun i_moved i_crowd i_l0 i_fitMany i_fitLeast i_fitMost m_fitPost m_fitEnd m_keptPosts i_x0], [zAr T 0 m_all 3952 f_all]] _ _ := G
        refine lv_iload_n hx hb dX12_numbered_48 rfl (lv_at hl 0 rfl) ?_
        refine lv_iload_n hx hb dX12_numbered_49 rfl (lv_at hl 2 rfl) ?_
        refine lv_iload_n hx hb dX12_numbered_50 rfl (lv_at hl 3 rfl) ?_
        refine z_Si (bc := []) (br := [[zO11 mo m_all m_has i_size j_next_15 j_where_16 j_token_17 j_number_18 j_word_19 i_wrong i_farCrossing m_read i_z0 i_crossings i_inns m_posts m_shut m_here i_steps i_done i_at i_gone m_was m_came m_seenAt m_rowWorth m_farBy m_used i_everywhere i_again0 i_d0 i_never i_firstCame i_longRun i_moved i_crowd i_l0 i_fitMany i_fitLeast i_fitMost m_fitPost m_fitEnd m_keptPosts i_x0], [zAr T 0 m_all 3952 f_all]]) (As := [.int i_number, .int lo_, .int hi_]) (rest := []) C G (c_m_isIn l T i_number lo_ hi_) (kS_RX12_111 C.2.2.2.2 (Nat.le_of_ble_eq_true rfl) (Nat.le_of_ble_eq_true rfl)) [] [] rfl rfl rfl rfl hl.1 dX12_numbered_51 (Nat.le_of_ble_eq_true rfl) (Nat.le_of_ble_eq_true rfl) (fun r_29 b1 H locs hw G => ?_)
        refine zAn2 hw ?_
        intro hbs9 hc_28
        clear hw
        subst hbs9
        have G : zS T A s.heap s [[zO11 mo m_all m_has i_size j_next_15 j_where_16 j_token_17 j_number_18 j_word_19 i_wrong i_farCrossing m_read i_z0 i_crossings i_inns m_posts m_shut m_here i_steps i_done i_at i_gone m_was m_came m_seenAt m_rowWorth m_farBy m_used i_everywhere i_again0 i_d0 i_never i_firstCame i_longRun i_moved i_crowd i_l0 i_fitMany i_fitLeast i_fitMost m_fitPost m_fitEnd m_keptPosts i_x0], [zAr T 0 m_all 3952 f_all]] _ _ := G
        rcases hc_28 with ⟨rfl, h_30, h_31⟩ | ⟨rfl, h_32⟩
        · have h_30 : lo_.toInt ≤ i_number.toInt := h_30
          have h_31 : i_number.toInt ≤ hi_.toInt := h_31
          refine lv_if_eq (tgt := 61) hx hb dX12_numbered_54 (by decide) (fun q => absurd q (by decide)) (fun _ => ?_)
          refine lv_iload_n hx hb dX12_numbered_57 rfl (lv_at hl 0 rfl) ?_
          refine lv_goto (tgt := 62) hx hb dX12_numbered_58 (by decide) ?_
          exact z_back hQz_ (z_iret C hr hlocks G (Nat.le_of_ble_eq_true rfl) (Nat.le_of_ble_eq_true rfl) dX12_numbered_62 ⟨j_next_15, j_where_16, j_token_17, j_number_18, j_word_19, i_wrong, f_all, rfl, (by first | with_reducible assumption | omega | trivial | assumption), (by first | with_reducible assumption | omega | trivial | assumption), (by first | with_reducible assumption | omega | trivial | assumption), (by first | with_reducible assumption | omega | trivial | assumption), (zPal_rf _), (by first | with_reducible assumption | omega | trivial | assumption), (by first | with_reducible assumption | omega | trivial | assumption), (by rw [pNum_i hw htk (by rw [← hv]; exact ⟨by omega, by omega⟩)]; exact zRr_adv hA h_26), (by first | (exfalso; omega) | exact (show i_number = _ from hv).trans (congrArg Prod.fst (pNum_i hw htk (by rw [← hv]; exact ⟨by omega, by omega⟩))).symm)⟩)
        · have h_32 : (i_number.toInt < lo_.toInt ∨ hi_.toInt < i_number.toInt) := h_32
          refine lv_if_eq (tgt := 61) hx hb dX12_numbered_54 (by decide) (fun _ => ?_) (fun q => absurd (by decide) q)
          refine lv_iload_n hx hb dX12_numbered_61 rfl (lv_at hl 2 rfl) ?_
          exact z_back hQz_ (z_iret C hr hlocks G (Nat.le_of_ble_eq_true rfl) (Nat.le_of_ble_eq_true rfl) dX12_numbered_62 ⟨j_next_15, j_where_16, j_token_17, j_number_18, j_word_19, i_wrong, f_all, rfl, (by first | with_reducible assumption | omega | trivial | assumption), (by first | with_reducible assumption | omega | trivial | assumption), (by first | with_reducible assumption | omega | trivial | assumption), (by first | with_reducible assumption | omega | trivial | assumption), (zPal_rf _), (by first | with_reducible assumption | omega | trivial | assumption), (by first | with_reducible assumption | omega | trivial | assumption), (by rw [pNum_i hw htk (by rw [← hv]; exact ⟨by omega, by omega⟩)]; exact zRr_adv hA h_26), (by first | (exfalso; omega) | exact (show i_number = _ from hv).trans (congrArg Prod.fst (pNum_i hw htk (by rw [← hv]; exact ⟨by omega, by omega⟩))).symm)⟩)
      · have h_14 : (i_number.toInt < lo_.toInt ∨ hi_.toInt < i_number.toInt) := h_14
        refine lv_if_ne (tgt := 44) hx hb dX12_numbered_32 (by decide) (fun q => absurd (by decide) q) (fun _ => ?_)
        refine lv_aload_n hx hb dX12_numbered_35 rfl (lv_at hl 1 rfl) ?_
        refine lv_iconst (v := 2) hx hb dX12_numbered_36 (by decide) ?_
        refine lv_aload_n hx hb dX12_numbered_37 rfl (lv_at hl 1 rfl) ?_
        refine z_get C G clX12 0 rfl 4 (by decide) m_fl_RX12_77 rfl dX12_numbered_38 ?_
        refine z_Vv (bc := [[zO11 mo m_all m_has i_size i_next i_where i_token i_number i_word i_wrong i_farCrossing m_read i_z0 i_crossings i_inns m_posts m_shut m_here i_steps i_done i_at i_gone m_was m_came m_seenAt m_rowWorth m_farBy m_used i_everywhere i_again0 i_d0 i_never i_firstCame i_longRun i_moved i_crowd i_l0 i_fitMany i_fitLeast i_fitMost m_fitPost m_fitEnd m_keptPosts i_x0], [zAr T 0 m_all 3952 f_all]]) (br := []) (As := [.int 2, .int i_where]) (rest := []) C G (c_fm_also l T mo m_all m_has i_size i_next i_where i_token i_number i_word i_wrong i_farCrossing m_read i_z0 i_crossings i_inns m_posts m_shut m_here i_steps i_done i_at i_gone m_was m_came m_seenAt m_rowWorth m_farBy m_used i_everywhere i_again0 i_d0 i_never i_firstCame i_longRun i_moved i_crowd i_l0 i_fitMany i_fitLeast i_fitMost m_fitPost m_fitEnd m_keptPosts i_x0 f_all 2 i_where) (kV_RX12_115 C.2.2.2.2 (Nat.le_of_ble_eq_true rfl) (Nat.le_of_ble_eq_true rfl)) [0, 1] [0, 0] rfl rfl (ci := 11) (qc := (RX12, TX12, 43)) rfl rfl (List.mem_flatten.mpr ⟨_, List.mem_of_getElem? (i := 0) rfl, List.mem_cons_self⟩) rfl rfl hl.1 dX12_numbered_41 (Nat.le_of_ble_eq_true rfl) (Nat.le_of_ble_eq_true rfl) (fun b1 H locs hw G => ?_)
        refine zEx1 hw ?_
        intro g_all_33
        refine zCu3 ?_
        intro hbs9 h_34 h_35
        clear hw
        subst hbs9
        have G : zS T A s.heap s [[zO11 mo m_all m_has i_size i_next i_where i_token i_number i_word i_wrong i_farCrossing m_read i_z0 i_crossings i_inns m_posts m_shut m_here i_steps i_done i_at i_gone m_was m_came m_seenAt m_rowWorth m_farBy m_used i_everywhere i_again0 i_d0 i_never i_firstCame i_longRun i_moved i_crowd i_l0 i_fitMany i_fitLeast i_fitMost m_fitPost m_fitEnd m_keptPosts i_x0], [zAr T 0 m_all 3952 g_all_33]] _ _ := G
        have h_35 : g_all_33 = (if ¬ i_wrong.toInt = 0 ∨ (¬ (f_all 5).toInt = 0 ∧ ((f_all 6).toInt < i_where.toInt ∨ ((f_all 6).toInt = i_where.toInt ∧ (f_all 5).toInt ≤ (2 : Int)))) then f_all else upd (upd f_all 5 2) 6 i_where) := h_35
        have hA2 := zRr_also (kd := 2) (w := i_where) hA h_35
        obtain ⟨hB1, -, -, -, -, -⟩ := id hA2
        refine lv_aload_n hx hb dX12_numbered_44 rfl (lv_at hl 1 rfl) ?_
        refine z_Vv (bc := [[zO11 mo m_all m_has i_size i_next i_where i_token i_number i_word i_wrong i_farCrossing m_read i_z0 i_crossings i_inns m_posts m_shut m_here i_steps i_done i_at i_gone m_was m_came m_seenAt m_rowWorth m_farBy m_used i_everywhere i_again0 i_d0 i_never i_firstCame i_longRun i_moved i_crowd i_l0 i_fitMany i_fitLeast i_fitMost m_fitPost m_fitEnd m_keptPosts i_x0], [zAr T 0 m_all 3952 g_all_33]]) (br := []) (As := []) (rest := []) C G (c_fm_advance l T mo m_all m_has i_size i_next i_where i_token i_number i_word i_wrong i_farCrossing m_read i_z0 i_crossings i_inns m_posts m_shut m_here i_steps i_done i_at i_gone m_was m_came m_seenAt m_rowWorth m_farBy m_used i_everywhere i_again0 i_d0 i_never i_firstCame i_longRun i_moved i_crowd i_l0 i_fitMany i_fitLeast i_fitMost m_fitPost m_fitEnd m_keptPosts i_x0 g_all_33 (pEn k a.1) n k hA1.2.2.2.1 t1 hka.1.2.2 hA1.2.2.1 hB1.1 hB1.2.1) (kV_RX12_119 C.2.2.2.2 (Nat.le_of_ble_eq_true rfl) (Nat.le_of_ble_eq_true rfl)) [0, 1] [0, 0] rfl rfl (ci := 11) (qc := (RX12, TX12, 43)) rfl rfl (List.mem_flatten.mpr ⟨_, List.mem_of_getElem? (i := 0) rfl, List.mem_cons_self⟩) rfl rfl hl.1 dX12_numbered_45 (Nat.le_of_ble_eq_true rfl) (Nat.le_of_ble_eq_true rfl) (fun b1 H locs hw G => ?_)
        refine zEx5 hw ?_
        intro j_next_37 j_where_38 j_token_39 j_number_40 j_word_41
        refine zCu8 ?_
        intro hbs9 h_42 h_43 h_44 h_45 h_46 h_47 h_48
        clear hw
        subst hbs9
        have G : zS T A s.heap s [[zO11 mo m_all m_has i_size j_next_37 j_where_38 j_token_39 j_number_40 j_word_41 i_wrong i_farCrossing m_read i_z0 i_crossings i_inns m_posts m_shut m_here i_steps i_done i_at i_gone m_was m_came m_seenAt m_rowWorth m_farBy m_used i_everywhere i_again0 i_d0 i_never i_firstCame i_longRun i_moved i_crowd i_l0 i_fitMany i_fitLeast i_fitMost m_fitPost m_fitEnd m_keptPosts i_x0], [zAr T 0 m_all 3952 g_all_33]] _ _ := G
        refine lv_iload_n hx hb dX12_numbered_48 rfl (lv_at hl 0 rfl) ?_
        refine lv_iload_n hx hb dX12_numbered_49 rfl (lv_at hl 2 rfl) ?_
        refine lv_iload_n hx hb dX12_numbered_50 rfl (lv_at hl 3 rfl) ?_
        refine z_Si (bc := []) (br := [[zO11 mo m_all m_has i_size j_next_37 j_where_38 j_token_39 j_number_40 j_word_41 i_wrong i_farCrossing m_read i_z0 i_crossings i_inns m_posts m_shut m_here i_steps i_done i_at i_gone m_was m_came m_seenAt m_rowWorth m_farBy m_used i_everywhere i_again0 i_d0 i_never i_firstCame i_longRun i_moved i_crowd i_l0 i_fitMany i_fitLeast i_fitMost m_fitPost m_fitEnd m_keptPosts i_x0], [zAr T 0 m_all 3952 g_all_33]]) (As := [.int i_number, .int lo_, .int hi_]) (rest := []) C G (c_m_isIn l T i_number lo_ hi_) (kS_RX12_111 C.2.2.2.2 (Nat.le_of_ble_eq_true rfl) (Nat.le_of_ble_eq_true rfl)) [] [] rfl rfl rfl rfl hl.1 dX12_numbered_51 (Nat.le_of_ble_eq_true rfl) (Nat.le_of_ble_eq_true rfl) (fun r_51 b1 H locs hw G => ?_)
        refine zAn2 hw ?_
        intro hbs9 hc_50
        clear hw
        subst hbs9
        have G : zS T A s.heap s [[zO11 mo m_all m_has i_size j_next_37 j_where_38 j_token_39 j_number_40 j_word_41 i_wrong i_farCrossing m_read i_z0 i_crossings i_inns m_posts m_shut m_here i_steps i_done i_at i_gone m_was m_came m_seenAt m_rowWorth m_farBy m_used i_everywhere i_again0 i_d0 i_never i_firstCame i_longRun i_moved i_crowd i_l0 i_fitMany i_fitLeast i_fitMost m_fitPost m_fitEnd m_keptPosts i_x0], [zAr T 0 m_all 3952 g_all_33]] _ _ := G
        rcases hc_50 with ⟨rfl, h_52, h_53⟩ | ⟨rfl, h_54⟩
        · have h_52 : lo_.toInt ≤ i_number.toInt := h_52
          have h_53 : i_number.toInt ≤ hi_.toInt := h_53
          refine lv_if_eq (tgt := 61) hx hb dX12_numbered_54 (by decide) (fun q => absurd q (by decide)) (fun _ => ?_)
          refine lv_iload_n hx hb dX12_numbered_57 rfl (lv_at hl 0 rfl) ?_
          refine lv_goto (tgt := 62) hx hb dX12_numbered_58 (by decide) ?_
          exact z_back hQz_ (z_iret C hr hlocks G (Nat.le_of_ble_eq_true rfl) (Nat.le_of_ble_eq_true rfl) dX12_numbered_62 ⟨j_next_37, j_where_38, j_token_39, j_number_40, j_word_41, i_wrong, g_all_33, rfl, (by first | with_reducible assumption | omega | trivial | assumption), (by first | with_reducible assumption | omega | trivial | assumption), (by first | with_reducible assumption | omega | trivial | assumption), (by first | with_reducible assumption | omega | trivial | assumption), h_34, (by first | with_reducible assumption | omega | trivial | assumption), (by first | with_reducible assumption | omega | trivial | assumption), (by rw [pNum_o hw htk (by rw [← hv]; exact fun q9 => by omega), ← t2]; exact zRr_adv hA2 (by rw [pAlso_fa.1]; exact h_48)), (by first | (exfalso; omega) | exact (congrArg Prod.fst (pNum_o hw htk (by rw [← hv]; exact fun q9 => by omega))).symm)⟩)
        · have h_54 : (i_number.toInt < lo_.toInt ∨ hi_.toInt < i_number.toInt) := h_54
          refine lv_if_eq (tgt := 61) hx hb dX12_numbered_54 (by decide) (fun _ => ?_) (fun q => absurd (by decide) q)
          refine lv_iload_n hx hb dX12_numbered_61 rfl (lv_at hl 2 rfl) ?_
          exact z_back hQz_ (z_iret C hr hlocks G (Nat.le_of_ble_eq_true rfl) (Nat.le_of_ble_eq_true rfl) dX12_numbered_62 ⟨j_next_37, j_where_38, j_token_39, j_number_40, j_word_41, i_wrong, g_all_33, rfl, (by first | with_reducible assumption | omega | trivial | assumption), (by first | with_reducible assumption | omega | trivial | assumption), (by first | with_reducible assumption | omega | trivial | assumption), (by first | with_reducible assumption | omega | trivial | assumption), h_34, (by first | with_reducible assumption | omega | trivial | assumption), (by first | with_reducible assumption | omega | trivial | assumption), (by rw [pNum_o hw htk (by rw [← hv]; exact fun q9 => by omega), ← t2]; exact zRr_adv hA2 (by rw [pAlso_fa.1]; exact h_48)), (by first | (exfalso; omega) | exact (congrArg Prod.fst (pNum_o hw htk (by rw [← hv]; exact fun q9 => by omega))).symm)⟩)
    · have c_9n : ¬ i_token.toInt = (1 : Int) := fun q => c_9 ((fa_eq _ _).mpr q)
      refine lv_aload_n hx hb dX12_numbered_15 rfl (lv_at hl 0 rfl) ?_
      refine z_Vv (bc := [[zO11 mo m_all m_has i_size i_next i_where i_token i_number i_word i_wrong i_farCrossing m_read i_z0 i_crossings i_inns m_posts m_shut m_here i_steps i_done i_at i_gone m_was m_came m_seenAt m_rowWorth m_farBy m_used i_everywhere i_again0 i_d0 i_never i_firstCame i_longRun i_moved i_crowd i_l0 i_fitMany i_fitLeast i_fitMost m_fitPost m_fitEnd m_keptPosts i_x0], [zAr T 0 m_all 3952 f_all]]) (br := []) (As := []) (rest := []) C G (c_fm_ends l T mo m_all m_has i_size i_next i_where i_token i_number i_word i_wrong i_farCrossing m_read i_z0 i_crossings i_inns m_posts m_shut m_here i_steps i_done i_at i_gone m_was m_came m_seenAt m_rowWorth m_farBy m_used i_everywhere i_again0 i_d0 i_never i_firstCame i_longRun i_moved i_crowd i_l0 i_fitMany i_fitLeast i_fitMost m_fitPost m_fitEnd m_keptPosts i_x0 f_all) (kV_RX12_108 C.2.2.2.2 (Nat.le_of_ble_eq_true rfl) (Nat.le_of_ble_eq_true rfl)) [0, 1] [0, 0] rfl rfl (ci := 11) (qc := (RX12, TX12, 43)) rfl rfl (List.mem_flatten.mpr ⟨_, List.mem_of_getElem? (i := 0) rfl, List.mem_cons_self⟩) rfl rfl hl.1 dX12_numbered_16 (Nat.le_of_ble_eq_true rfl) (Nat.le_of_ble_eq_true rfl) (fun b1 H locs hw G => ?_)
      refine zEx2 hw ?_
      intro j_wrong_55 g_all_56
      refine zCu5 ?_
      intro hbs9 h_57 h_58 h_59 h_60
      clear hw
      subst hbs9
      have G : zS T A s.heap s [[zO11 mo m_all m_has i_size i_next i_where i_token i_number i_word j_wrong_55 i_farCrossing m_read i_z0 i_crossings i_inns m_posts m_shut m_here i_steps i_done i_at i_gone m_was m_came m_seenAt m_rowWorth m_farBy m_used i_everywhere i_again0 i_d0 i_never i_firstCame i_longRun i_moved i_crowd i_l0 i_fitMany i_fitLeast i_fitMost m_fitPost m_fitEnd m_keptPosts i_x0], [zAr T 0 m_all 3952 g_all_56]] _ _ := G
      refine lv_iload_n hx hb dX12_numbered_19 rfl (lv_at hl 1 rfl) ?_
      exact z_back hQz_ (z_iret C hr hlocks G (Nat.le_of_ble_eq_true rfl) (Nat.le_of_ble_eq_true rfl) dX12_numbered_20 ⟨i_next, i_where, i_token, i_number, i_word, j_wrong_55, g_all_56, rfl, (by first | with_reducible assumption | omega | trivial | assumption), (by first | with_reducible assumption | omega | trivial | assumption), (by first | with_reducible assumption | omega | trivial | assumption), (by first | with_reducible assumption | omega | trivial | assumption), h_58, (by first | with_reducible assumption | omega | trivial | assumption), (by first | with_reducible assumption | omega | trivial | assumption), (by rw [pNum_e (Or.inr (by omega))]; exact zRr_ends hA h_59 h_60), (congrArg Prod.fst (pNum_e (Or.inr (by omega)))).symm⟩)
set_option maxHeartbeats 4000000 in
set_option maxRecDepth 100000 in
/-- c_fm_wordIn -/
theorem c_fm_wordIn (l : Launch) (T : zTy) (mo : Nat) (m_all : Nat) (m_has : Nat) (i_size : Int32) (i_next : Int32) (i_where : Int32) (i_token : Int32) (i_number : Int32) (i_word : Int32) (i_wrong : Int32) (i_farCrossing : Int32) (m_read : Nat) (i_z0 : Int32) (i_crossings : Int32) (i_inns : Int32) (m_posts : Nat) (m_shut : Nat) (m_here : Nat) (i_steps : Int32) (i_done : Int32) (i_at : Int32) (i_gone : Int32) (m_was : Nat) (m_came : Nat) (m_seenAt : Nat) (m_rowWorth : Nat) (m_farBy : Nat) (m_used : Nat) (i_everywhere : Int32) (i_again0 : Int32) (i_d0 : Int32) (i_never : Int32) (i_firstCame : Int32) (i_longRun : Int32) (i_moved : Int32) (i_crowd : Int32) (i_l0 : Int32) (i_fitMany : Int32) (i_fitLeast : Int32) (i_fitMost : Int32) (m_fitPost : Nat) (m_fitEnd : Nat) (m_keptPosts : Nat) (i_x0 : Int32) (f_all : Nat → Int32) (k : pT) (n : Nat) (a : pS) (lo9 : Nat) (hi9 : Nat) (fi_ : Int32) (la_ : Int32) (hsz : i_size.toInt ≤ 600) (hn0 : 0 ≤ i_next.toInt) (hns : i_next.toInt ≤ i_size.toInt) (hA : zRr k n i_size i_next i_where i_token i_number i_word i_wrong i_farCrossing f_all a) (hlo : fi_.toInt = (lo9 : Int)) (hhi : la_.toInt = (hi9 : Int)) : zMi l T yX12_wordIn cX12_wordIn 4 (some .int) 5 0 0 [.ref mo, .int fi_, .int la_] [[zO11 mo m_all m_has i_size i_next i_where i_token i_number i_word i_wrong i_farCrossing m_read i_z0 i_crossings i_inns m_posts m_shut m_here i_steps i_done i_at i_gone m_was m_came m_seenAt m_rowWorth m_farBy m_used i_everywhere i_again0 i_d0 i_never i_firstCame i_longRun i_moved i_crowd i_l0 i_fitMany i_fitLeast i_fitMost m_fitPost m_fitEnd m_keptPosts i_x0], [zAr T 0 m_all 3952 f_all]] (fun (r : Int32) bs => ∃ (j_next : Int32) (j_where : Int32) (j_token : Int32) (j_number : Int32) (j_word : Int32) (j_wrong : Int32) (g_all : Nat → Int32), bs = [[zO11 mo m_all m_has i_size j_next j_where j_token j_number j_word j_wrong i_farCrossing m_read i_z0 i_crossings i_inns m_posts m_shut m_here i_steps i_done i_at i_gone m_was m_came m_seenAt m_rowWorth m_farBy m_used i_everywhere i_again0 i_d0 i_never i_firstCame i_longRun i_moved i_crowd i_l0 i_fitMany i_fitLeast i_fitMost m_fitPost m_fitEnd m_keptPosts i_x0], [zAr T 0 m_all 3952 g_all]] ∧ 0 ≤ j_next.toInt ∧ j_next.toInt ≤ i_size.toInt ∧ i_next.toInt ≤ j_next.toInt ∧ (¬ j_wrong.toInt = 0 ∨ i_next.toInt < j_next.toInt ∨ j_token.toInt = 0) ∧ zPal f_all g_all ∧ (r.toInt = 0 ∨ fi_.toInt ≤ r.toInt ∧ r.toInt ≤ la_.toInt) ∧ zRr k n i_size j_next j_where j_token j_number j_word j_wrong i_farCrossing g_all (pWord k lo9 hi9 a).2 ∧ r = nI (pWord k lo9 hi9 a).1) := by
  refine zMi_of (own := RX12) (by decide) rfl (Nat.le_of_ble_eq_true rfl) ?_
  intro p e s m args below meth c A ls C hr hlocks hnm hAe G hl
  refine zHide (fun Qz_ hQz_ => ?_)
  have hx := C.1
  have hb := C.2.1
  have hl : lv_has ls 4 [(0, .ref mo), (1, .int fi_), (2, .int la_)] := hl
  have hok := zRr_ok hA
  refine zAn6 (id hA) ?_
  intro hA1 hA6 hA7 hA8 hA9 hA10
  replace hA7 : zHd _ := hA7
  have hka : zHd _ := hok a.1 hA1.2.2.2.2
  have hkb := hka.1
  have hkc := hka.2.1
  have hT4 := pTk_le hok hA1.2.2.2.2
  refine lv_aload_n hx hb dX12_wordIn_0 rfl (lv_at hl 0 rfl) ?_
  refine z_get C G clX12 0 rfl 8 (by decide) m_fl_RX12_104 rfl dX12_wordIn_1 ?_
  refine lv_if_ne (tgt := 27) hx hb dX12_wordIn_4 (by decide) (fun c_1 => ?_) (fun c_1 => ?_)
  · have c_1n : ¬ i_wrong.toInt = (0 : Int) := fun q => c_1 ((fa_eq _ _).mpr q)
    refine lv_aload_n hx hb dX12_wordIn_27 rfl (lv_at hl 0 rfl) ?_
    refine z_Vv (bc := [[zO11 mo m_all m_has i_size i_next i_where i_token i_number i_word i_wrong i_farCrossing m_read i_z0 i_crossings i_inns m_posts m_shut m_here i_steps i_done i_at i_gone m_was m_came m_seenAt m_rowWorth m_farBy m_used i_everywhere i_again0 i_d0 i_never i_firstCame i_longRun i_moved i_crowd i_l0 i_fitMany i_fitLeast i_fitMost m_fitPost m_fitEnd m_keptPosts i_x0], [zAr T 0 m_all 3952 f_all]]) (br := []) (As := []) (rest := []) C G (c_fm_ends l T mo m_all m_has i_size i_next i_where i_token i_number i_word i_wrong i_farCrossing m_read i_z0 i_crossings i_inns m_posts m_shut m_here i_steps i_done i_at i_gone m_was m_came m_seenAt m_rowWorth m_farBy m_used i_everywhere i_again0 i_d0 i_never i_firstCame i_longRun i_moved i_crowd i_l0 i_fitMany i_fitLeast i_fitMost m_fitPost m_fitEnd m_keptPosts i_x0 f_all) (kV_RX12_108 C.2.2.2.2 (Nat.le_of_ble_eq_true rfl) (Nat.le_of_ble_eq_true rfl)) [0, 1] [0, 0] rfl rfl (ci := 11) (qc := (RX12, TX12, 43)) rfl rfl (List.mem_flatten.mpr ⟨_, List.mem_of_getElem? (i := 0) rfl, List.mem_cons_self⟩) rfl rfl hl.1 dX12_wordIn_28 (Nat.le_of_ble_eq_true rfl) (Nat.le_of_ble_eq_true rfl) (fun b1 H locs hw G => ?_)
    refine zEx2 hw ?_
    intro j_wrong_2 g_all_3
    refine zCu5 ?_
    intro hbs9 h_4 h_5 h_6 h_7
    clear hw
    subst hbs9
    have G : zS T A s.heap s [[zO11 mo m_all m_has i_size i_next i_where i_token i_number i_word j_wrong_2 i_farCrossing m_read i_z0 i_crossings i_inns m_posts m_shut m_here i_steps i_done i_at i_gone m_was m_came m_seenAt m_rowWorth m_farBy m_used i_everywhere i_again0 i_d0 i_never i_firstCame i_longRun i_moved i_crowd i_l0 i_fitMany i_fitLeast i_fitMost m_fitPost m_fitEnd m_keptPosts i_x0], [zAr T 0 m_all 3952 g_all_3]] _ _ := G
    refine lv_iconst (v := 0) hx hb dX12_wordIn_31 (by decide) ?_
    exact z_back hQz_ (z_iret C hr hlocks G (Nat.le_of_ble_eq_true rfl) (Nat.le_of_ble_eq_true rfl) dX12_wordIn_32 ⟨i_next, i_where, i_token, i_number, i_word, j_wrong_2, g_all_3, rfl, (by first | with_reducible assumption | omega | trivial | assumption), (by first | with_reducible assumption | omega | trivial | assumption), (by first | with_reducible assumption | omega | trivial | assumption), (by first | with_reducible assumption | omega | trivial | assumption), h_5, (Or.inl (by decide)), (by rw [pWord_e (Or.inl (by rw [← hA6]; omega))]; exact zRr_ends hA h_6 h_7), (by rw [pWord_e (Or.inl (by rw [← hA6]; omega))]; rfl)⟩)
  · have c_1n : i_wrong.toInt = (0 : Int) := (fa_eq _ _).mp c_1
    have hw : a.2.1.toInt = 0 := by rw [← hA6]; omega
    refine zAn5 (hA7 hw) ?_
    intro t1 t2 t3 t4 t5
    replace t4 : zHd _ := t4
    replace t5 : zHd _ := t5
    have t3i : i_token.toInt = (pTk k a.1 : Int) := by rw [t3]; exact nI_toInt (by omega)
    refine lv_aload_n hx hb dX12_wordIn_7 rfl (lv_at hl 0 rfl) ?_
    refine z_get C G clX12 0 rfl 5 (by decide) m_fl_RX12_80 rfl dX12_wordIn_8 ?_
    refine lv_iconst (v := 3) hx hb dX12_wordIn_11 (by decide) ?_
    refine lv_icmp_ne (tgt := 27) hx hb dX12_wordIn_12 (by decide) (fun c_9 => ?_) (fun c_9 => ?_)
    · have c_9n : ¬ i_token.toInt = (3 : Int) := fun q => c_9 ((fa_eq _ _).mpr q)
      refine lv_aload_n hx hb dX12_wordIn_27 rfl (lv_at hl 0 rfl) ?_
      refine z_Vv (bc := [[zO11 mo m_all m_has i_size i_next i_where i_token i_number i_word i_wrong i_farCrossing m_read i_z0 i_crossings i_inns m_posts m_shut m_here i_steps i_done i_at i_gone m_was m_came m_seenAt m_rowWorth m_farBy m_used i_everywhere i_again0 i_d0 i_never i_firstCame i_longRun i_moved i_crowd i_l0 i_fitMany i_fitLeast i_fitMost m_fitPost m_fitEnd m_keptPosts i_x0], [zAr T 0 m_all 3952 f_all]]) (br := []) (As := []) (rest := []) C G (c_fm_ends l T mo m_all m_has i_size i_next i_where i_token i_number i_word i_wrong i_farCrossing m_read i_z0 i_crossings i_inns m_posts m_shut m_here i_steps i_done i_at i_gone m_was m_came m_seenAt m_rowWorth m_farBy m_used i_everywhere i_again0 i_d0 i_never i_firstCame i_longRun i_moved i_crowd i_l0 i_fitMany i_fitLeast i_fitMost m_fitPost m_fitEnd m_keptPosts i_x0 f_all) (kV_RX12_108 C.2.2.2.2 (Nat.le_of_ble_eq_true rfl) (Nat.le_of_ble_eq_true rfl)) [0, 1] [0, 0] rfl rfl (ci := 11) (qc := (RX12, TX12, 43)) rfl rfl (List.mem_flatten.mpr ⟨_, List.mem_of_getElem? (i := 0) rfl, List.mem_cons_self⟩) rfl rfl hl.1 dX12_wordIn_28 (Nat.le_of_ble_eq_true rfl) (Nat.le_of_ble_eq_true rfl) (fun b1 H locs hw G => ?_)
      refine zEx2 hw ?_
      intro j_wrong_10 g_all_11
      refine zCu5 ?_
      intro hbs9 h_12 h_13 h_14 h_15
      clear hw
      subst hbs9
      have G : zS T A s.heap s [[zO11 mo m_all m_has i_size i_next i_where i_token i_number i_word j_wrong_10 i_farCrossing m_read i_z0 i_crossings i_inns m_posts m_shut m_here i_steps i_done i_at i_gone m_was m_came m_seenAt m_rowWorth m_farBy m_used i_everywhere i_again0 i_d0 i_never i_firstCame i_longRun i_moved i_crowd i_l0 i_fitMany i_fitLeast i_fitMost m_fitPost m_fitEnd m_keptPosts i_x0], [zAr T 0 m_all 3952 g_all_11]] _ _ := G
      refine lv_iconst (v := 0) hx hb dX12_wordIn_31 (by decide) ?_
      exact z_back hQz_ (z_iret C hr hlocks G (Nat.le_of_ble_eq_true rfl) (Nat.le_of_ble_eq_true rfl) dX12_wordIn_32 ⟨i_next, i_where, i_token, i_number, i_word, j_wrong_10, g_all_11, rfl, (by first | with_reducible assumption | omega | trivial | assumption), (by first | with_reducible assumption | omega | trivial | assumption), (by first | with_reducible assumption | omega | trivial | assumption), (by first | with_reducible assumption | omega | trivial | assumption), h_13, (Or.inl (by decide)), (by rw [pWord_e (Or.inr (Or.inl (by omega)))]; exact zRr_ends hA h_14 h_15), (by rw [pWord_e (Or.inr (Or.inl (by omega)))]; rfl)⟩)
    · have c_9n : i_token.toInt = (3 : Int) := (fa_eq _ _).mp c_9
      have htk : pTk k a.1 = 3 := by omega
      have hv := t5 htk
      have hwd := hka.2.2.2.2.2 (pTk_3 htk)
      have hvi : i_word.toInt = (pWd k a.1 : Int) := by rw [hv]; exact nI_toInt (by omega)
      refine lv_aload_n hx hb dX12_wordIn_15 rfl (lv_at hl 0 rfl) ?_
      refine z_get C G clX12 0 rfl 7 (by decide) m_fl_RX12_95 rfl dX12_wordIn_16 ?_
      refine lv_iload_n hx hb dX12_wordIn_19 rfl (lv_at hl 1 rfl) ?_
      refine lv_iload_n hx hb dX12_wordIn_20 rfl (lv_at hl 2 rfl) ?_
      refine z_Si (bc := []) (br := [[zO11 mo m_all m_has i_size i_next i_where i_token i_number i_word i_wrong i_farCrossing m_read i_z0 i_crossings i_inns m_posts m_shut m_here i_steps i_done i_at i_gone m_was m_came m_seenAt m_rowWorth m_farBy m_used i_everywhere i_again0 i_d0 i_never i_firstCame i_longRun i_moved i_crowd i_l0 i_fitMany i_fitLeast i_fitMost m_fitPost m_fitEnd m_keptPosts i_x0], [zAr T 0 m_all 3952 f_all]]) (As := [.int i_word, .int fi_, .int la_]) (rest := []) C G (c_m_isIn l T i_word fi_ la_) (kS_RX12_111 C.2.2.2.2 (Nat.le_of_ble_eq_true rfl) (Nat.le_of_ble_eq_true rfl)) [] [] rfl rfl rfl rfl hl.1 dX12_wordIn_21 (Nat.le_of_ble_eq_true rfl) (Nat.le_of_ble_eq_true rfl) (fun r_18 b1 H locs hw G => ?_)
      refine zAn2 hw ?_
      intro hbs9 hc_17
      clear hw
      subst hbs9
      have G : zS T A s.heap s [[zO11 mo m_all m_has i_size i_next i_where i_token i_number i_word i_wrong i_farCrossing m_read i_z0 i_crossings i_inns m_posts m_shut m_here i_steps i_done i_at i_gone m_was m_came m_seenAt m_rowWorth m_farBy m_used i_everywhere i_again0 i_d0 i_never i_firstCame i_longRun i_moved i_crowd i_l0 i_fitMany i_fitLeast i_fitMost m_fitPost m_fitEnd m_keptPosts i_x0], [zAr T 0 m_all 3952 f_all]] _ _ := G
      rcases hc_17 with ⟨rfl, h_19, h_20⟩ | ⟨rfl, h_21⟩
      · have h_19 : fi_.toInt ≤ i_word.toInt := h_19
        have h_20 : i_word.toInt ≤ la_.toInt := h_20
        refine lv_if_ne (tgt := 33) hx hb dX12_wordIn_24 (by decide) (fun _ => ?_) (fun q => absurd q (by decide))
        refine lv_aload_n hx hb dX12_wordIn_33 rfl (lv_at hl 0 rfl) ?_
        refine z_get C G clX12 0 rfl 7 (by decide) m_fl_RX12_95 rfl dX12_wordIn_34 ?_
        refine lv_istore_n (lv' := [(3, .int i_word), (0, .ref mo), (1, .int fi_), (2, .int la_)]) hx hb dX12_wordIn_37 rfl hl (by decide) (zLvf_h rfl) (fun ls hl => ?_)
        refine lv_aload_n hx hb dX12_wordIn_38 rfl (lv_at hl 1 rfl) ?_
        refine z_Vv (bc := [[zO11 mo m_all m_has i_size i_next i_where i_token i_number i_word i_wrong i_farCrossing m_read i_z0 i_crossings i_inns m_posts m_shut m_here i_steps i_done i_at i_gone m_was m_came m_seenAt m_rowWorth m_farBy m_used i_everywhere i_again0 i_d0 i_never i_firstCame i_longRun i_moved i_crowd i_l0 i_fitMany i_fitLeast i_fitMost m_fitPost m_fitEnd m_keptPosts i_x0], [zAr T 0 m_all 3952 f_all]]) (br := []) (As := []) (rest := []) C G (c_fm_advance l T mo m_all m_has i_size i_next i_where i_token i_number i_word i_wrong i_farCrossing m_read i_z0 i_crossings i_inns m_posts m_shut m_here i_steps i_done i_at i_gone m_was m_came m_seenAt m_rowWorth m_farBy m_used i_everywhere i_again0 i_d0 i_never i_firstCame i_longRun i_moved i_crowd i_l0 i_fitMany i_fitLeast i_fitMost m_fitPost m_fitEnd m_keptPosts i_x0 f_all (pEn k a.1) n k hA1.2.2.2.1 t1 hka.1.2.2 hA1.2.2.1 hA1.1 hA1.2.1) (kV_RX12_119 C.2.2.2.2 (Nat.le_of_ble_eq_true rfl) (Nat.le_of_ble_eq_true rfl)) [0, 1] [0, 0] rfl rfl (ci := 11) (qc := (RX12, TX12, 43)) rfl rfl (List.mem_flatten.mpr ⟨_, List.mem_of_getElem? (i := 0) rfl, List.mem_cons_self⟩) rfl rfl hl.1 dX12_wordIn_39 (Nat.le_of_ble_eq_true rfl) (Nat.le_of_ble_eq_true rfl) (fun b1 H locs hw G => ?_)
        refine zEx5 hw ?_
        intro j_next_22 j_where_23 j_token_24 j_number_25 j_word_26
        refine zCu8 ?_
        intro hbs9 h_27 h_28 h_29 h_30 h_31 h_32 h_33
        clear hw
        subst hbs9
        have G : zS T A s.heap s [[zO11 mo m_all m_has i_size j_next_22 j_where_23 j_token_24 j_number_25 j_word_26 i_wrong i_farCrossing m_read i_z0 i_crossings i_inns m_posts m_shut m_here i_steps i_done i_at i_gone m_was m_came m_seenAt m_rowWorth m_farBy m_used i_everywhere i_again0 i_d0 i_never i_firstCame i_longRun i_moved i_crowd i_l0 i_fitMany i_fitLeast i_fitMost m_fitPost m_fitEnd m_keptPosts i_x0], [zAr T 0 m_all 3952 f_all]] _ _ := G
        refine lv_iload_n hx hb dX12_wordIn_42 rfl (lv_at hl 0 rfl) ?_
        exact z_back hQz_ (z_iret C hr hlocks G (Nat.le_of_ble_eq_true rfl) (Nat.le_of_ble_eq_true rfl) dX12_wordIn_43 ⟨j_next_22, j_where_23, j_token_24, j_number_25, j_word_26, i_wrong, f_all, rfl, (by first | with_reducible assumption | omega | trivial | assumption), (by first | with_reducible assumption | omega | trivial | assumption), (by first | with_reducible assumption | omega | trivial | assumption), (by first | with_reducible assumption | omega | trivial | assumption), (zPal_rf _), (by first | with_reducible assumption | omega | trivial | assumption), (by rw [pWord_i hw htk ⟨by omega, by omega⟩]; exact zRr_adv hA h_33), (by rw [pWord_i hw htk ⟨by omega, by omega⟩]; exact hv)⟩)
      · have h_21 : (i_word.toInt < fi_.toInt ∨ la_.toInt < i_word.toInt) := h_21
        refine lv_if_ne (tgt := 33) hx hb dX12_wordIn_24 (by decide) (fun q => absurd (by decide) q) (fun _ => ?_)
        refine lv_aload_n hx hb dX12_wordIn_27 rfl (lv_at hl 0 rfl) ?_
        refine z_Vv (bc := [[zO11 mo m_all m_has i_size i_next i_where i_token i_number i_word i_wrong i_farCrossing m_read i_z0 i_crossings i_inns m_posts m_shut m_here i_steps i_done i_at i_gone m_was m_came m_seenAt m_rowWorth m_farBy m_used i_everywhere i_again0 i_d0 i_never i_firstCame i_longRun i_moved i_crowd i_l0 i_fitMany i_fitLeast i_fitMost m_fitPost m_fitEnd m_keptPosts i_x0], [zAr T 0 m_all 3952 f_all]]) (br := []) (As := []) (rest := []) C G (c_fm_ends l T mo m_all m_has i_size i_next i_where i_token i_number i_word i_wrong i_farCrossing m_read i_z0 i_crossings i_inns m_posts m_shut m_here i_steps i_done i_at i_gone m_was m_came m_seenAt m_rowWorth m_farBy m_used i_everywhere i_again0 i_d0 i_never i_firstCame i_longRun i_moved i_crowd i_l0 i_fitMany i_fitLeast i_fitMost m_fitPost m_fitEnd m_keptPosts i_x0 f_all) (kV_RX12_108 C.2.2.2.2 (Nat.le_of_ble_eq_true rfl) (Nat.le_of_ble_eq_true rfl)) [0, 1] [0, 0] rfl rfl (ci := 11) (qc := (RX12, TX12, 43)) rfl rfl (List.mem_flatten.mpr ⟨_, List.mem_of_getElem? (i := 0) rfl, List.mem_cons_self⟩) rfl rfl hl.1 dX12_wordIn_28 (Nat.le_of_ble_eq_true rfl) (Nat.le_of_ble_eq_true rfl) (fun b1 H locs hw G => ?_)
        refine zEx2 hw ?_
        intro j_wrong_35 g_all_36
        refine zCu5 ?_
        intro hbs9 h_37 h_38 h_39 h_40
        clear hw
        subst hbs9
        have G : zS T A s.heap s [[zO11 mo m_all m_has i_size i_next i_where i_token i_number i_word j_wrong_35 i_farCrossing m_read i_z0 i_crossings i_inns m_posts m_shut m_here i_steps i_done i_at i_gone m_was m_came m_seenAt m_rowWorth m_farBy m_used i_everywhere i_again0 i_d0 i_never i_firstCame i_longRun i_moved i_crowd i_l0 i_fitMany i_fitLeast i_fitMost m_fitPost m_fitEnd m_keptPosts i_x0], [zAr T 0 m_all 3952 g_all_36]] _ _ := G
        refine lv_iconst (v := 0) hx hb dX12_wordIn_31 (by decide) ?_
        exact z_back hQz_ (z_iret C hr hlocks G (Nat.le_of_ble_eq_true rfl) (Nat.le_of_ble_eq_true rfl) dX12_wordIn_32 ⟨i_next, i_where, i_token, i_number, i_word, j_wrong_35, g_all_36, rfl, (by first | with_reducible assumption | omega | trivial | assumption), (by first | with_reducible assumption | omega | trivial | assumption), (by first | with_reducible assumption | omega | trivial | assumption), (by first | with_reducible assumption | omega | trivial | assumption), h_38, (Or.inl (by decide)), (by rw [pWord_e (Or.inr (Or.inr (by omega)))]; exact zRr_ends hA h_39 h_40), (by rw [pWord_e (Or.inr (Or.inr (by omega)))]; rfl)⟩)
set_option maxHeartbeats 4000000 in
set_option maxRecDepth 100000 in
/-- c_fm_endsLine -/
theorem c_fm_endsLine (l : Launch) (T : zTy) (mo : Nat) (m_all : Nat) (m_has : Nat) (i_size : Int32) (i_next : Int32) (i_where : Int32) (i_token : Int32) (i_number : Int32) (i_word : Int32) (i_wrong : Int32) (i_farCrossing : Int32) (m_read : Nat) (i_z0 : Int32) (i_crossings : Int32) (i_inns : Int32) (m_posts : Nat) (m_shut : Nat) (m_here : Nat) (i_steps : Int32) (i_done : Int32) (i_at : Int32) (i_gone : Int32) (m_was : Nat) (m_came : Nat) (m_seenAt : Nat) (m_rowWorth : Nat) (m_farBy : Nat) (m_used : Nat) (i_everywhere : Int32) (i_again0 : Int32) (i_d0 : Int32) (i_never : Int32) (i_firstCame : Int32) (i_longRun : Int32) (i_moved : Int32) (i_crowd : Int32) (i_l0 : Int32) (i_fitMany : Int32) (i_fitLeast : Int32) (i_fitMost : Int32) (m_fitPost : Nat) (m_fitEnd : Nat) (m_keptPosts : Nat) (i_x0 : Int32) (f_all : Nat → Int32) (k : pT) (n : Nat) (a : pS) (hsz : i_size.toInt ≤ 600) (hn0 : 0 ≤ i_next.toInt) (hns : i_next.toInt ≤ i_size.toInt) (hA : zRr k n i_size i_next i_where i_token i_number i_word i_wrong i_farCrossing f_all a) : zMv l T yX12_endsLine cX12_endsLine 1 5 0 0 [.ref mo] [[zO11 mo m_all m_has i_size i_next i_where i_token i_number i_word i_wrong i_farCrossing m_read i_z0 i_crossings i_inns m_posts m_shut m_here i_steps i_done i_at i_gone m_was m_came m_seenAt m_rowWorth m_farBy m_used i_everywhere i_again0 i_d0 i_never i_firstCame i_longRun i_moved i_crowd i_l0 i_fitMany i_fitLeast i_fitMost m_fitPost m_fitEnd m_keptPosts i_x0], [zAr T 0 m_all 3952 f_all]] (fun bs => ∃ (j_next : Int32) (j_where : Int32) (j_token : Int32) (j_number : Int32) (j_word : Int32) (j_wrong : Int32) (g_all : Nat → Int32), bs = [[zO11 mo m_all m_has i_size j_next j_where j_token j_number j_word j_wrong i_farCrossing m_read i_z0 i_crossings i_inns m_posts m_shut m_here i_steps i_done i_at i_gone m_was m_came m_seenAt m_rowWorth m_farBy m_used i_everywhere i_again0 i_d0 i_never i_firstCame i_longRun i_moved i_crowd i_l0 i_fitMany i_fitLeast i_fitMost m_fitPost m_fitEnd m_keptPosts i_x0], [zAr T 0 m_all 3952 g_all]] ∧ 0 ≤ j_next.toInt ∧ j_next.toInt ≤ i_size.toInt ∧ i_next.toInt ≤ j_next.toInt ∧ (¬ j_wrong.toInt = 0 ∨ i_next.toInt < j_next.toInt ∨ j_token.toInt = 0) ∧ zPal f_all g_all ∧ zRr k n i_size j_next j_where j_token j_number j_word j_wrong i_farCrossing g_all (pEndL k a)) := by
  refine zMv_of (own := RX12) (by decide) rfl (Nat.le_of_ble_eq_true rfl) ?_
  intro p e s m args below meth c A ls C hr hlocks hnm hAe G hl
  refine zHide (fun Qz_ hQz_ => ?_)
  have hx := C.1
  have hb := C.2.1
  have hl : lv_has ls 1 [(0, .ref mo)] := hl
  have hok := zRr_ok hA
  refine zAn6 (id hA) ?_
  intro hA1 hA6 hA7 hA8 hA9 hA10
  replace hA7 : zHd _ := hA7
  have hka : zHd _ := hok a.1 hA1.2.2.2.2
  have hkb := hka.1
  have hkc := hka.2.1
  have hT4 := pTk_le hok hA1.2.2.2.2
  refine lv_aload_n hx hb dX12_endsLine_0 rfl (lv_at hl 0 rfl) ?_
  refine z_get C G clX12 0 rfl 8 (by decide) m_fl_RX12_104 rfl dX12_endsLine_1 ?_
  refine lv_if_ne (tgt := 22) hx hb dX12_endsLine_4 (by decide) (fun c_1 => ?_) (fun c_1 => ?_)
  · have c_1n : ¬ i_wrong.toInt = (0 : Int) := fun q => c_1 ((fa_eq _ _).mpr q)
    refine lv_aload_n hx hb dX12_endsLine_22 rfl (lv_at hl 0 rfl) ?_
    refine z_Vv (bc := [[zO11 mo m_all m_has i_size i_next i_where i_token i_number i_word i_wrong i_farCrossing m_read i_z0 i_crossings i_inns m_posts m_shut m_here i_steps i_done i_at i_gone m_was m_came m_seenAt m_rowWorth m_farBy m_used i_everywhere i_again0 i_d0 i_never i_firstCame i_longRun i_moved i_crowd i_l0 i_fitMany i_fitLeast i_fitMost m_fitPost m_fitEnd m_keptPosts i_x0], [zAr T 0 m_all 3952 f_all]]) (br := []) (As := []) (rest := []) C G (c_fm_ends l T mo m_all m_has i_size i_next i_where i_token i_number i_word i_wrong i_farCrossing m_read i_z0 i_crossings i_inns m_posts m_shut m_here i_steps i_done i_at i_gone m_was m_came m_seenAt m_rowWorth m_farBy m_used i_everywhere i_again0 i_d0 i_never i_firstCame i_longRun i_moved i_crowd i_l0 i_fitMany i_fitLeast i_fitMost m_fitPost m_fitEnd m_keptPosts i_x0 f_all) (kV_RX12_108 C.2.2.2.2 (Nat.le_of_ble_eq_true rfl) (Nat.le_of_ble_eq_true rfl)) [0, 1] [0, 0] rfl rfl (ci := 11) (qc := (RX12, TX12, 43)) rfl rfl (List.mem_flatten.mpr ⟨_, List.mem_of_getElem? (i := 0) rfl, List.mem_cons_self⟩) rfl rfl hl.1 dX12_endsLine_23 (Nat.le_of_ble_eq_true rfl) (Nat.le_of_ble_eq_true rfl) (fun b1 H locs hw G => ?_)
    refine zEx2 hw ?_
    intro j_wrong_2 g_all_3
    refine zCu5 ?_
    intro hbs9 h_4 h_5 h_6 h_7
    clear hw
    subst hbs9
    have G : zS T A s.heap s [[zO11 mo m_all m_has i_size i_next i_where i_token i_number i_word j_wrong_2 i_farCrossing m_read i_z0 i_crossings i_inns m_posts m_shut m_here i_steps i_done i_at i_gone m_was m_came m_seenAt m_rowWorth m_farBy m_used i_everywhere i_again0 i_d0 i_never i_firstCame i_longRun i_moved i_crowd i_l0 i_fitMany i_fitLeast i_fitMost m_fitPost m_fitEnd m_keptPosts i_x0], [zAr T 0 m_all 3952 g_all_3]] _ _ := G
    exact z_back hQz_ (z_vret C hr hlocks G (Nat.le_of_ble_eq_true rfl) (Nat.le_of_ble_eq_true rfl) dX12_endsLine_26 ⟨i_next, i_where, i_token, i_number, i_word, j_wrong_2, g_all_3, rfl, (by first | with_reducible assumption | omega | trivial | assumption), (by first | with_reducible assumption | omega | trivial | assumption), (by first | with_reducible assumption | omega | trivial | assumption), (by first | with_reducible assumption | omega | trivial | assumption), h_5, (by rw [pEndL_e (fun z9 => by first | (exact absurd z9.1 (by rw [← hA6]; omega)) | omega)]; exact zRr_ends hA h_6 h_7)⟩)
  · have c_1n : i_wrong.toInt = (0 : Int) := (fa_eq _ _).mp c_1
    have hw : a.2.1.toInt = 0 := by rw [← hA6]; omega
    refine zAn5 (hA7 hw) ?_
    intro t1 t2 t3 t4 t5
    replace t4 : zHd _ := t4
    replace t5 : zHd _ := t5
    have t3i : i_token.toInt = (pTk k a.1 : Int) := by rw [t3]; exact nI_toInt (by omega)
    refine lv_aload_n hx hb dX12_endsLine_7 rfl (lv_at hl 0 rfl) ?_
    refine z_get C G clX12 0 rfl 5 (by decide) m_fl_RX12_80 rfl dX12_endsLine_8 ?_
    refine lv_iconst (v := 2) hx hb dX12_endsLine_11 (by decide) ?_
    refine lv_icmp_ne (tgt := 22) hx hb dX12_endsLine_12 (by decide) (fun c_9 => ?_) (fun c_9 => ?_)
    · have c_9n : ¬ i_token.toInt = (2 : Int) := fun q => c_9 ((fa_eq _ _).mpr q)
      refine lv_aload_n hx hb dX12_endsLine_22 rfl (lv_at hl 0 rfl) ?_
      refine z_Vv (bc := [[zO11 mo m_all m_has i_size i_next i_where i_token i_number i_word i_wrong i_farCrossing m_read i_z0 i_crossings i_inns m_posts m_shut m_here i_steps i_done i_at i_gone m_was m_came m_seenAt m_rowWorth m_farBy m_used i_everywhere i_again0 i_d0 i_never i_firstCame i_longRun i_moved i_crowd i_l0 i_fitMany i_fitLeast i_fitMost m_fitPost m_fitEnd m_keptPosts i_x0], [zAr T 0 m_all 3952 f_all]]) (br := []) (As := []) (rest := []) C G (c_fm_ends l T mo m_all m_has i_size i_next i_where i_token i_number i_word i_wrong i_farCrossing m_read i_z0 i_crossings i_inns m_posts m_shut m_here i_steps i_done i_at i_gone m_was m_came m_seenAt m_rowWorth m_farBy m_used i_everywhere i_again0 i_d0 i_never i_firstCame i_longRun i_moved i_crowd i_l0 i_fitMany i_fitLeast i_fitMost m_fitPost m_fitEnd m_keptPosts i_x0 f_all) (kV_RX12_108 C.2.2.2.2 (Nat.le_of_ble_eq_true rfl) (Nat.le_of_ble_eq_true rfl)) [0, 1] [0, 0] rfl rfl (ci := 11) (qc := (RX12, TX12, 43)) rfl rfl (List.mem_flatten.mpr ⟨_, List.mem_of_getElem? (i := 0) rfl, List.mem_cons_self⟩) rfl rfl hl.1 dX12_endsLine_23 (Nat.le_of_ble_eq_true rfl) (Nat.le_of_ble_eq_true rfl) (fun b1 H locs hw G => ?_)
      refine zEx2 hw ?_
      intro j_wrong_10 g_all_11
      refine zCu5 ?_
      intro hbs9 h_12 h_13 h_14 h_15
      clear hw
      subst hbs9
      have G : zS T A s.heap s [[zO11 mo m_all m_has i_size i_next i_where i_token i_number i_word j_wrong_10 i_farCrossing m_read i_z0 i_crossings i_inns m_posts m_shut m_here i_steps i_done i_at i_gone m_was m_came m_seenAt m_rowWorth m_farBy m_used i_everywhere i_again0 i_d0 i_never i_firstCame i_longRun i_moved i_crowd i_l0 i_fitMany i_fitLeast i_fitMost m_fitPost m_fitEnd m_keptPosts i_x0], [zAr T 0 m_all 3952 g_all_11]] _ _ := G
      exact z_back hQz_ (z_vret C hr hlocks G (Nat.le_of_ble_eq_true rfl) (Nat.le_of_ble_eq_true rfl) dX12_endsLine_26 ⟨i_next, i_where, i_token, i_number, i_word, j_wrong_10, g_all_11, rfl, (by first | with_reducible assumption | omega | trivial | assumption), (by first | with_reducible assumption | omega | trivial | assumption), (by first | with_reducible assumption | omega | trivial | assumption), (by first | with_reducible assumption | omega | trivial | assumption), h_13, (by rw [pEndL_e (fun z9 => by first | (exact absurd z9.1 (by rw [← hA6]; omega)) | omega)]; exact zRr_ends hA h_14 h_15)⟩)
    · have c_9n : i_token.toInt = (2 : Int) := (fa_eq _ _).mp c_9
      refine lv_aload_n hx hb dX12_endsLine_15 rfl (lv_at hl 0 rfl) ?_
      refine z_Vv (bc := [[zO11 mo m_all m_has i_size i_next i_where i_token i_number i_word i_wrong i_farCrossing m_read i_z0 i_crossings i_inns m_posts m_shut m_here i_steps i_done i_at i_gone m_was m_came m_seenAt m_rowWorth m_farBy m_used i_everywhere i_again0 i_d0 i_never i_firstCame i_longRun i_moved i_crowd i_l0 i_fitMany i_fitLeast i_fitMost m_fitPost m_fitEnd m_keptPosts i_x0], [zAr T 0 m_all 3952 f_all]]) (br := []) (As := []) (rest := []) C G (c_fm_advance l T mo m_all m_has i_size i_next i_where i_token i_number i_word i_wrong i_farCrossing m_read i_z0 i_crossings i_inns m_posts m_shut m_here i_steps i_done i_at i_gone m_was m_came m_seenAt m_rowWorth m_farBy m_used i_everywhere i_again0 i_d0 i_never i_firstCame i_longRun i_moved i_crowd i_l0 i_fitMany i_fitLeast i_fitMost m_fitPost m_fitEnd m_keptPosts i_x0 f_all (pEn k a.1) n k hA1.2.2.2.1 t1 hka.1.2.2 hA1.2.2.1 hA1.1 hA1.2.1) (kV_RX12_119 C.2.2.2.2 (Nat.le_of_ble_eq_true rfl) (Nat.le_of_ble_eq_true rfl)) [0, 1] [0, 0] rfl rfl (ci := 11) (qc := (RX12, TX12, 43)) rfl rfl (List.mem_flatten.mpr ⟨_, List.mem_of_getElem? (i := 0) rfl, List.mem_cons_self⟩) rfl rfl hl.1 dX12_endsLine_16 (Nat.le_of_ble_eq_true rfl) (Nat.le_of_ble_eq_true rfl) (fun b1 H locs hw G => ?_)
      refine zEx5 hw ?_
      intro j_next_17 j_where_18 j_token_19 j_number_20 j_word_21
      refine zCu8 ?_
      intro hbs9 h_22 h_23 h_24 h_25 h_26 h_27 h_28
      clear hw
      subst hbs9
      have G : zS T A s.heap s [[zO11 mo m_all m_has i_size j_next_17 j_where_18 j_token_19 j_number_20 j_word_21 i_wrong i_farCrossing m_read i_z0 i_crossings i_inns m_posts m_shut m_here i_steps i_done i_at i_gone m_was m_came m_seenAt m_rowWorth m_farBy m_used i_everywhere i_again0 i_d0 i_never i_firstCame i_longRun i_moved i_crowd i_l0 i_fitMany i_fitLeast i_fitMost m_fitPost m_fitEnd m_keptPosts i_x0], [zAr T 0 m_all 3952 f_all]] _ _ := G
      refine lv_goto (tgt := 26) hx hb dX12_endsLine_19 (by decide) ?_
      exact z_back hQz_ (z_vret C hr hlocks G (Nat.le_of_ble_eq_true rfl) (Nat.le_of_ble_eq_true rfl) dX12_endsLine_26 ⟨j_next_17, j_where_18, j_token_19, j_number_20, j_word_21, i_wrong, f_all, rfl, (by first | with_reducible assumption | omega | trivial | assumption), (by first | with_reducible assumption | omega | trivial | assumption), (by first | with_reducible assumption | omega | trivial | assumption), (by first | with_reducible assumption | omega | trivial | assumption), (zPal_rf _), (by rw [pEndL_a ⟨hw, by omega⟩]; exact zRr_adv hA h_28)⟩)
set_option maxHeartbeats 4000000 in
set_option maxRecDepth 100000 in
/-- c_fm_crossingTold -/
theorem c_fm_crossingTold (l : Launch) (T : zTy) (mo : Nat) (m_all : Nat) (m_has : Nat) (i_size : Int32) (i_next : Int32) (i_where : Int32) (i_token : Int32) (i_number : Int32) (i_word : Int32) (i_wrong : Int32) (i_farCrossing : Int32) (m_read : Nat) (i_z0 : Int32) (i_crossings : Int32) (i_inns : Int32) (m_posts : Nat) (m_shut : Nat) (m_here : Nat) (i_steps : Int32) (i_done : Int32) (i_at : Int32) (i_gone : Int32) (m_was : Nat) (m_came : Nat) (m_seenAt : Nat) (m_rowWorth : Nat) (m_farBy : Nat) (m_used : Nat) (i_everywhere : Int32) (i_again0 : Int32) (i_d0 : Int32) (i_never : Int32) (i_firstCame : Int32) (i_longRun : Int32) (i_moved : Int32) (i_crowd : Int32) (i_l0 : Int32) (i_fitMany : Int32) (i_fitLeast : Int32) (i_fitMost : Int32) (m_fitPost : Nat) (m_fitEnd : Nat) (m_keptPosts : Nat) (i_x0 : Int32) (f_all : Nat → Int32) (k : pT) (n : Nat) (a : pS) (hsz : i_size.toInt ≤ 600) (hn0 : 0 ≤ i_next.toInt) (hns : i_next.toInt ≤ i_size.toInt) (hA : zRr k n i_size i_next i_where i_token i_number i_word i_wrong i_farCrossing f_all a) : zMi l T yX12_crossingTold cX12_crossingTold 2 (some .int) 6 0 0 [.ref mo] [[zO11 mo m_all m_has i_size i_next i_where i_token i_number i_word i_wrong i_farCrossing m_read i_z0 i_crossings i_inns m_posts m_shut m_here i_steps i_done i_at i_gone m_was m_came m_seenAt m_rowWorth m_farBy m_used i_everywhere i_again0 i_d0 i_never i_firstCame i_longRun i_moved i_crowd i_l0 i_fitMany i_fitLeast i_fitMost m_fitPost m_fitEnd m_keptPosts i_x0], [zAr T 0 m_all 3952 f_all]] (fun (r : Int32) bs => ∃ (j_next : Int32) (j_where : Int32) (j_token : Int32) (j_number : Int32) (j_word : Int32) (j_wrong : Int32) (j_farCrossing : Int32) (g_all : Nat → Int32), bs = [[zO11 mo m_all m_has i_size j_next j_where j_token j_number j_word j_wrong j_farCrossing m_read i_z0 i_crossings i_inns m_posts m_shut m_here i_steps i_done i_at i_gone m_was m_came m_seenAt m_rowWorth m_farBy m_used i_everywhere i_again0 i_d0 i_never i_firstCame i_longRun i_moved i_crowd i_l0 i_fitMany i_fitLeast i_fitMost m_fitPost m_fitEnd m_keptPosts i_x0], [zAr T 0 m_all 3952 g_all]] ∧ 0 ≤ j_next.toInt ∧ j_next.toInt ≤ i_size.toInt ∧ i_next.toInt ≤ j_next.toInt ∧ (¬ j_wrong.toInt = 0 ∨ i_next.toInt < j_next.toInt ∨ j_token.toInt = 0) ∧ zPal f_all g_all ∧ 0 ≤ r.toInt ∧ r.toInt ≤ 6 ∧ zRr k n i_size j_next j_where j_token j_number j_word j_wrong j_farCrossing g_all (pCr k a).2 ∧ r = (pCr k a).1) := by
  refine zMi_of (own := RX12) (by decide) rfl (Nat.le_of_ble_eq_true rfl) ?_
  intro p e s m args below meth c A ls C hr hlocks hnm hAe G hl
  refine zHide (fun Qz_ hQz_ => ?_)
  have hx := C.1
  have hb := C.2.1
  have hl : lv_has ls 2 [(0, .ref mo)] := hl
  refine lv_aload_n hx hb dX12_crossingTold_0 rfl (lv_at hl 0 rfl) ?_
  refine lv_iconst (v := 0) hx hb dX12_crossingTold_1 (by decide) ?_
  refine lv_bipush (v := 6) hx hb dX12_crossingTold_2 (by decide) ?_
  refine z_Vi (bc := [[zO11 mo m_all m_has i_size i_next i_where i_token i_number i_word i_wrong i_farCrossing m_read i_z0 i_crossings i_inns m_posts m_shut m_here i_steps i_done i_at i_gone m_was m_came m_seenAt m_rowWorth m_farBy m_used i_everywhere i_again0 i_d0 i_never i_firstCame i_longRun i_moved i_crowd i_l0 i_fitMany i_fitLeast i_fitMost m_fitPost m_fitEnd m_keptPosts i_x0], [zAr T 0 m_all 3952 f_all]]) (br := []) (As := [.int 0, .int 6]) (rest := []) C G (c_fm_numbered l T mo m_all m_has i_size i_next i_where i_token i_number i_word i_wrong i_farCrossing m_read i_z0 i_crossings i_inns m_posts m_shut m_here i_steps i_done i_at i_gone m_was m_came m_seenAt m_rowWorth m_farBy m_used i_everywhere i_again0 i_d0 i_never i_firstCame i_longRun i_moved i_crowd i_l0 i_fitMany i_fitLeast i_fitMost m_fitPost m_fitEnd m_keptPosts i_x0 f_all k n a 0 6 (by first | with_reducible assumption | with_reducible rfl | omega | assumption | rfl) (by first | with_reducible assumption | with_reducible rfl | omega | assumption | rfl) (by first | with_reducible assumption | with_reducible rfl | omega | assumption | rfl) (by decide) hA) (kV_RX12_122 C.2.2.2.2 (Nat.le_of_ble_eq_true rfl) (Nat.le_of_ble_eq_true rfl)) [0, 1] [0, 0] rfl rfl (ci := 11) (qc := (RX12, TX12, 43)) rfl rfl (List.mem_flatten.mpr ⟨_, List.mem_of_getElem? (i := 0) rfl, List.mem_cons_self⟩) rfl rfl hl.1 dX12_crossingTold_4 (Nat.le_of_ble_eq_true rfl) (Nat.le_of_ble_eq_true rfl) (fun r_17 b1 H locs hw G => ?_)
  refine zEx7 hw ?_
  intro j_next_1 j_where_2 j_token_3 j_number_4 j_word_5 j_wrong_6 g_all_7
  refine zCu10 ?_
  intro hbs9 h_8 h_9 h_10 h_11 h_12 h_13 h_14 h_15 h_16
  clear hw
  subst hbs9
  have G : zS T A s.heap s [[zO11 mo m_all m_has i_size j_next_1 j_where_2 j_token_3 j_number_4 j_word_5 j_wrong_6 i_farCrossing m_read i_z0 i_crossings i_inns m_posts m_shut m_here i_steps i_done i_at i_gone m_was m_came m_seenAt m_rowWorth m_farBy m_used i_everywhere i_again0 i_d0 i_never i_firstCame i_longRun i_moved i_crowd i_l0 i_fitMany i_fitLeast i_fitMost m_fitPost m_fitEnd m_keptPosts i_x0], [zAr T 0 m_all 3952 g_all_7]] _ _ := G
  have h_13 : (0 : Int) ≤ r_17.toInt := h_13
  have h_14 : r_17.toInt ≤ (6 : Int) := h_14
  refine lv_istore_n (lv' := [(1, .int r_17), (0, .ref mo)]) hx hb dX12_crossingTold_7 rfl hl (by decide) (zLvf_h rfl) (fun ls hl => ?_)
  refine lv_aload_n hx hb dX12_crossingTold_8 rfl (lv_at hl 1 rfl) ?_
  refine lv_iload_n hx hb dX12_crossingTold_9 rfl (lv_at hl 0 rfl) ?_
  refine lv_aload_n hx hb dX12_crossingTold_10 rfl (lv_at hl 1 rfl) ?_
  refine z_get C G clX12 0 rfl 9 (by decide) m_fl_RX12_126 rfl dX12_crossingTold_11 ?_
  refine lv_icmp_le (tgt := 21) hx hb dX12_crossingTold_14 (by decide) (fun c_18 => ?_) (fun c_18 => ?_)
  · have c_18n : r_17.toInt ≤ i_farCrossing.toInt := (fa_le _ _).mp c_18
    refine lv_aload_n hx hb dX12_crossingTold_21 rfl (lv_at hl 1 rfl) ?_
    refine z_get C G clX12 0 rfl 9 (by decide) m_fl_RX12_126 rfl dX12_crossingTold_22 ?_
    refine z_put C G clX12 0 rfl 9 (by decide) m_fl_RX12_126 rfl rfl rfl (Nat.le_of_ble_eq_true rfl) dX12_crossingTold_25 (fun H locs G => ?_)
    have G : zS T A s.heap s [[zO11 mo m_all m_has i_size j_next_1 j_where_2 j_token_3 j_number_4 j_word_5 j_wrong_6 i_farCrossing m_read i_z0 i_crossings i_inns m_posts m_shut m_here i_steps i_done i_at i_gone m_was m_came m_seenAt m_rowWorth m_farBy m_used i_everywhere i_again0 i_d0 i_never i_firstCame i_longRun i_moved i_crowd i_l0 i_fitMany i_fitLeast i_fitMost m_fitPost m_fitEnd m_keptPosts i_x0], [zAr T 0 m_all 3952 g_all_7]] _ _ := G
    refine lv_iload_n hx hb dX12_crossingTold_28 rfl (lv_at hl 0 rfl) ?_
    exact z_back hQz_ (z_iret C hr hlocks G (Nat.le_of_ble_eq_true rfl) (Nat.le_of_ble_eq_true rfl) dX12_crossingTold_29 ⟨j_next_1, j_where_2, j_token_3, j_number_4, j_word_5, j_wrong_6, i_farCrossing, g_all_7, rfl, (by first | with_reducible assumption | omega | trivial | assumption), (by first | with_reducible assumption | omega | trivial | assumption), (by first | with_reducible assumption | omega | trivial | assumption), (by first | with_reducible assumption | omega | trivial | assumption), h_12, (by first | with_reducible assumption | omega | trivial | assumption), (by first | with_reducible assumption | omega | trivial | assumption), (zRr_far (c := (pNum k 0 6 a).1) h_15 (by rw [← h_16]; exact (if_neg (by omega)).symm)), h_16⟩)
  · have c_18n : ¬ r_17.toInt ≤ i_farCrossing.toInt := fun q => c_18 ((fa_le _ _).mpr q)
    refine lv_iload_n hx hb dX12_crossingTold_17 rfl (lv_at hl 0 rfl) ?_
    refine lv_goto (tgt := 25) hx hb dX12_crossingTold_18 (by decide) ?_
    refine z_put C G clX12 0 rfl 9 (by decide) m_fl_RX12_126 rfl rfl rfl (Nat.le_of_ble_eq_true rfl) dX12_crossingTold_25 (fun H locs G => ?_)
    have G : zS T A s.heap s [[zO11 mo m_all m_has i_size j_next_1 j_where_2 j_token_3 j_number_4 j_word_5 j_wrong_6 r_17 m_read i_z0 i_crossings i_inns m_posts m_shut m_here i_steps i_done i_at i_gone m_was m_came m_seenAt m_rowWorth m_farBy m_used i_everywhere i_again0 i_d0 i_never i_firstCame i_longRun i_moved i_crowd i_l0 i_fitMany i_fitLeast i_fitMost m_fitPost m_fitEnd m_keptPosts i_x0], [zAr T 0 m_all 3952 g_all_7]] _ _ := G
    refine lv_iload_n hx hb dX12_crossingTold_28 rfl (lv_at hl 0 rfl) ?_
    exact z_back hQz_ (z_iret C hr hlocks G (Nat.le_of_ble_eq_true rfl) (Nat.le_of_ble_eq_true rfl) dX12_crossingTold_29 ⟨j_next_1, j_where_2, j_token_3, j_number_4, j_word_5, j_wrong_6, r_17, g_all_7, rfl, (by first | with_reducible assumption | omega | trivial | assumption), (by first | with_reducible assumption | omega | trivial | assumption), (by first | with_reducible assumption | omega | trivial | assumption), (by first | with_reducible assumption | omega | trivial | assumption), h_12, (by first | with_reducible assumption | omega | trivial | assumption), (by first | with_reducible assumption | omega | trivial | assumption), (zRr_far (c := (pNum k 0 6 a).1) h_15 (by rw [← h_16]; exact (if_pos (by omega)).symm)), h_16⟩)
set_option maxHeartbeats 4000000 in
set_option maxRecDepth 100000 in
/-- c_fm_crossTold -/
theorem c_fm_crossTold (l : Launch) (T : zTy) (mo : Nat) (m_all : Nat) (m_has : Nat) (i_size : Int32) (i_next : Int32) (i_where : Int32) (i_token : Int32) (i_number : Int32) (i_word : Int32) (i_wrong : Int32) (i_farCrossing : Int32) (m_read : Nat) (i_z0 : Int32) (i_crossings : Int32) (i_inns : Int32) (m_posts : Nat) (m_shut : Nat) (m_here : Nat) (i_steps : Int32) (i_done : Int32) (i_at : Int32) (i_gone : Int32) (m_was : Nat) (m_came : Nat) (m_seenAt : Nat) (m_rowWorth : Nat) (m_farBy : Nat) (m_used : Nat) (i_everywhere : Int32) (i_again0 : Int32) (i_d0 : Int32) (i_never : Int32) (i_firstCame : Int32) (i_longRun : Int32) (i_moved : Int32) (i_crowd : Int32) (i_l0 : Int32) (i_fitMany : Int32) (i_fitLeast : Int32) (i_fitMost : Int32) (m_fitPost : Nat) (m_fitEnd : Nat) (m_keptPosts : Nat) (i_x0 : Int32) (f_all : Nat → Int32) (f_read : Nat → Int32) (k : pT) (n : Nat) (a : pS) (at_ : Int32) (hsz : i_size.toInt ≤ 600) (hn0 : 0 ≤ i_next.toInt) (hns : i_next.toInt ≤ i_size.toInt) (hR : zLF f_read) (hA : zRr k n i_size i_next i_where i_token i_number i_word i_wrong i_farCrossing f_all a) : zMv l T yX12_crossTold cX12_crossTold 4 7 0 0 [.ref mo, .int at_] [[zO11 mo m_all m_has i_size i_next i_where i_token i_number i_word i_wrong i_farCrossing m_read i_z0 i_crossings i_inns m_posts m_shut m_here i_steps i_done i_at i_gone m_was m_came m_seenAt m_rowWorth m_farBy m_used i_everywhere i_again0 i_d0 i_never i_firstCame i_longRun i_moved i_crowd i_l0 i_fitMany i_fitLeast i_fitMost m_fitPost m_fitEnd m_keptPosts i_x0], [zAr T 0 m_all 3952 f_all], [zAr T 0 m_read 121 f_read]] (fun bs => ∃ (j_next : Int32) (j_where : Int32) (j_token : Int32) (j_number : Int32) (j_word : Int32) (j_wrong : Int32) (j_farCrossing : Int32) (g_all : Nat → Int32) (g_read : Nat → Int32), bs = [[zO11 mo m_all m_has i_size j_next j_where j_token j_number j_word j_wrong j_farCrossing m_read i_z0 i_crossings i_inns m_posts m_shut m_here i_steps i_done i_at i_gone m_was m_came m_seenAt m_rowWorth m_farBy m_used i_everywhere i_again0 i_d0 i_never i_firstCame i_longRun i_moved i_crowd i_l0 i_fitMany i_fitLeast i_fitMost m_fitPost m_fitEnd m_keptPosts i_x0], [zAr T 0 m_all 3952 g_all], [zAr T 0 m_read 121 g_read]] ∧ 0 ≤ j_next.toInt ∧ j_next.toInt ≤ i_size.toInt ∧ i_next.toInt ≤ j_next.toInt ∧ zPal f_all g_all ∧ zLF g_read ∧ zRr k n i_size j_next j_where j_token j_number j_word j_wrong j_farCrossing g_all (pCross k at_ a f_read).1 ∧ g_read = (pCross k at_ a f_read).2) := by
  refine zMv_of (own := RX12) (by decide) rfl (Nat.le_of_ble_eq_true rfl) ?_
  intro p e s m args below meth c A ls C hr hlocks hnm hAe G hl
  refine zHide (fun Qz_ hQz_ => ?_)
  have hx := C.1
  have hb := C.2.1
  have hl : lv_has ls 4 [(0, .ref mo), (1, .int at_)] := hl
  have hok := zRr_ok hA
  refine zAn6 (id hA) ?_
  intro hA1 hA6 hA7 hA8 hA9 hA10
  replace hA7 : zHd _ := hA7
  have hka : zHd _ := hok a.1 hA1.2.2.2.2
  have hkb := hka.1
  have hkc := hka.2.1
  have hT4 := pTk_le hok hA1.2.2.2.2
  have hR0 : 0 ≤ (f_read 0).toInt ∧ (f_read 0).toInt ≤ 7 := hR.1
  refine zMt2 (T := T) 17 (fun (gb : Nat → Int32) (b : pS) => [[zO11 mo m_all m_has i_size i_next i_where i_token i_number i_word i_wrong i_farCrossing m_read i_z0 i_crossings i_inns m_posts m_shut m_here i_steps i_done i_at i_gone m_was m_came m_seenAt m_rowWorth m_farBy m_used i_everywhere i_again0 i_d0 i_never i_firstCame i_longRun i_moved i_crowd i_l0 i_fitMany i_fitLeast i_fitMost m_fitPost m_fitEnd m_keptPosts i_x0], [zAr T 0 m_all 3952 gb], [zAr T 0 m_read 121 f_read]]) (fun (gb : Nat → Int32) (b : pS) => [(0, .ref mo), (1, .int at_)]) (fun (gb : Nat → Int32) (b : pS) => b = pDB 7 at_ f_read a ∧ zRr k n i_size i_next i_where i_token i_number i_word i_wrong i_farCrossing gb b ∧ zPal f_all gb) G hl ?_ (fun jn_17 => ?_)
  · intro gb b hI9 H locs ls G hl
    replace hI9 : b = pDB 7 at_ f_read a ∧ zRr k n i_size i_next i_where i_token i_number i_word i_wrong i_farCrossing gb b ∧ zPal f_all gb := hI9
    refine zAn3 hI9 ?_
    intro hbq hAb hpgb
    clear hI9
    replace G : zS T A s.heap s [[zO11 mo m_all m_has i_size i_next i_where i_token i_number i_word i_wrong i_farCrossing m_read i_z0 i_crossings i_inns m_posts m_shut m_here i_steps i_done i_at i_gone m_was m_came m_seenAt m_rowWorth m_farBy m_used i_everywhere i_again0 i_d0 i_never i_firstCame i_longRun i_moved i_crowd i_l0 i_fitMany i_fitLeast i_fitMost m_fitPost m_fitEnd m_keptPosts i_x0], [zAr T 0 m_all 3952 gb], [zAr T 0 m_read 121 f_read]] _ _ := G
    replace hl : lv_has ls 4 [(0, .ref mo), (1, .int at_)] := hl
    refine lv_iconst (v := 0) hx hb dX12_crossTold_17 (by decide) ?_
    refine lv_istore_n (lv' := [(2, .int 0), (0, .ref mo), (1, .int at_)]) hx hb dX12_crossTold_18 rfl hl (by decide) (zLvf_h rfl) (fun ls hl => ?_)
    refine z_lp12 (T := T) 19 (fun (xn : Int32) (xw : Int32) (xt : Int32) (xu : Int32) (xo : Int32) (xr : Int32) (xf : Int32) (ga : Nat → Int32) (gr : Nat → Int32) (nn : Nat) (A9 : pS) (j : Nat) => [[zO11 mo m_all m_has i_size xn xw xt xu xo xr xf m_read i_z0 i_crossings i_inns m_posts m_shut m_here i_steps i_done i_at i_gone m_was m_came m_seenAt m_rowWorth m_farBy m_used i_everywhere i_again0 i_d0 i_never i_firstCame i_longRun i_moved i_crowd i_l0 i_fitMany i_fitLeast i_fitMost m_fitPost m_fitEnd m_keptPosts i_x0], [zAr T 0 m_all 3952 ga], [zAr T 0 m_read 121 gr]]) (fun (xn : Int32) (xw : Int32) (xt : Int32) (xu : Int32) (xo : Int32) (xr : Int32) (xf : Int32) (ga : Nat → Int32) (gr : Nat → Int32) (nn : Nat) (A9 : pS) (j : Nat) => [(2, .int (nI nn)), (0, .ref mo), (1, .int at_)]) (fun (xn : Int32) (xw : Int32) (xt : Int32) (xu : Int32) (xo : Int32) (xr : Int32) (xf : Int32) (ga : Nat → Int32) (gr : Nat → Int32) (nn : Nat) (A9 : pS) (j : Nat) => nn ≤ 4 ∧ zLF gr ∧ i_next.toInt ≤ xn.toInt ∧ xn.toInt ≤ i_size.toInt ∧ zPal f_all ga ∧ zRr k n i_size xn xw xt xu xo xr xf ga A9 ∧ nn = min j 4 ∧ j ≤ A9.1 ∧ pRoads k (601 - j) (min j 4) A9 gr = pRoads k 601 0 b f_read ∧ gr 0 = f_read 0) (fun (xn : Int32) (xw : Int32) (xt : Int32) (xu : Int32) (xo : Int32) (xr : Int32) (xf : Int32) (ga : Nat → Int32) (gr : Nat → Int32) (nn : Nat) (A9 : pS) (j : Nat) => zMu xr xt xn i_size) ?_ i_next i_where i_token i_number i_word i_wrong i_farCrossing gb f_read 0 b 0 (show 0 ≤ 4 ∧ zLF f_read ∧ i_next.toInt ≤ i_next.toInt ∧ i_next.toInt ≤ i_size.toInt ∧ zPal f_all gb ∧ zRr k n i_size i_next i_where i_token i_number i_word i_wrong i_farCrossing gb b ∧ 0 = min 0 4 ∧ 0 ≤ b.1 ∧ pRoads k (601 - 0) (min 0 4) b f_read = pRoads k 601 0 b f_read ∧ f_read 0 = f_read 0 from ⟨by omega, hR, by omega, by omega, hpgb, hAb, by omega, (Nat.zero_le _), rfl, rfl⟩) G (lv_sub hl [0, 1, 2] rfl)
    intro xn xw xt xu xo xr xf ga gr nn A9 j hI9 ih_19 H locs ls G hl
    replace hI9 : nn ≤ 4 ∧ zLF gr ∧ i_next.toInt ≤ xn.toInt ∧ xn.toInt ≤ i_size.toInt ∧ zPal f_all ga ∧ zRr k n i_size xn xw xt xu xo xr xf ga A9 ∧ nn = min j 4 ∧ j ≤ A9.1 ∧ pRoads k (601 - j) (min j 4) A9 gr = pRoads k 601 0 b f_read ∧ gr 0 = f_read 0 := hI9
    refine zAn10 hI9 ?_
    intro hn hL hx1 hx2 hpal hRA hnn hpj hEq hf0
    clear hI9
    replace G : zS T A s.heap s [[zO11 mo m_all m_has i_size xn xw xt xu xo xr xf m_read i_z0 i_crossings i_inns m_posts m_shut m_here i_steps i_done i_at i_gone m_was m_came m_seenAt m_rowWorth m_farBy m_used i_everywhere i_again0 i_d0 i_never i_firstCame i_longRun i_moved i_crowd i_l0 i_fitMany i_fitLeast i_fitMost m_fitPost m_fitEnd m_keptPosts i_x0], [zAr T 0 m_all 3952 ga], [zAr T 0 m_read 121 gr]] _ _ := G
    replace hl : lv_has ls 4 [(2, .int (nI nn)), (0, .ref mo), (1, .int at_)] := hl
    refine lv_aload_n hx hb dX12_crossTold_19 rfl (lv_at hl 1 rfl) ?_
    have hL0 : 0 ≤ (gr 0).toInt ∧ (gr 0).toInt ≤ 7 := hL.1
    have hokA := zRr_ok hRA
    refine zAn6 (id hRA) ?_
    intro hA1A hA6A hA7A hA8A hA9A hA10A
    replace hA7A : zHd _ := hA7A
    have hkaA : zHd _ := hokA A9.1 hA1A.2.2.2.2
    have hkbA := hkaA.1
    have hkcA := hkaA.2.1
    have hT4A := pTk_le hokA hA1A.2.2.2.2
    have hnn6 := hA1A.2.2.1
    have hpn9 := hA1A.2.2.2.2
    refine z_get C G clX12 0 rfl 8 (by decide) m_fl_RX12_104 rfl dX12_crossTold_20 ?_
    refine lv_if_ne (tgt := 104) hx hb dX12_crossTold_23 (by decide) (fun c_1 => ?_) (fun c_1 => ?_)
    · have c_1n : ¬ xr.toInt = (0 : Int) := fun q => c_1 ((fa_eq _ _).mpr q)
      have hpc := pCross_e (w := at_) hbq (hEq.symm.trans (pRoads_x (fun z9 => by first | (exact absurd z9.1 (by rw [← hA6A]; omega)) | omega)))
      have hf0i : (gr 0).toInt = (f_read 0).toInt := by rw [hf0]
      refine lv_aload_n hx hb dX12_crossTold_104 rfl (lv_at hl 1 rfl) ?_
      refine z_get C G clX12 0 rfl 10 (by decide) m_fl_RX12_17 rfl dX12_crossTold_105 ?_
      refine lv_iconst (v := 0) hx hb dX12_crossTold_108 (by decide) ?_
      refine z_ild C G 2 rfl (vp_in_nI (n := 0) (by decide) (by decide)) dX12_crossTold_109 ?_
      refine lv_topi (fun v_2 ev_2 => ?_)
      rw [show ((0 : Int32).toNatClampNeg) = 0 from rfl] at ev_2
      subst ev_2
      refine lv_bipush (v := 7) hx hb dX12_crossTold_110 (by decide) ?_
      refine lv_icmp_lt (tgt := 116) hx hb dX12_crossTold_112 (by decide) (fun c_3 => ?_) (fun c_3 => ?_)
      · have c_3n : (gr 0).toInt < (7 : Int) := (fa_lt _ _).mp c_3
        refine lv_aload_n hx hb dX12_crossTold_116 rfl (lv_at hl 1 rfl) ?_
        refine z_get C G clX12 0 rfl 10 (by decide) m_fl_RX12_17 rfl dX12_crossTold_117 ?_
        refine lv_iconst (v := 2) hx hb dX12_crossTold_120 (by decide) ?_
        refine lv_aload_n hx hb dX12_crossTold_121 rfl (lv_at hl 1 rfl) ?_
        refine z_get C G clX12 0 rfl 10 (by decide) m_fl_RX12_17 rfl dX12_crossTold_122 ?_
        refine lv_iconst (v := 0) hx hb dX12_crossTold_125 (by decide) ?_
        refine z_ild C G 2 rfl (vp_in_nI (n := 0) (by decide) (by decide)) dX12_crossTold_126 ?_
        refine lv_topi (fun v_4 ev_4 => ?_)
        rw [show ((0 : Int32).toNatClampNeg) = 0 from rfl] at ev_4
        subst ev_4
        refine lv_iadd hx hb dX12_crossTold_127 ?_
        refine lv_topi (fun y_5 ey_5 => ?_)
        have ey_5i : y_5.toInt = (2 : Int) + (gr 0).toInt := by rw [ey_5]; exact z_iaddI (x := (2 : Int32)) (y := (gr 0)) (by show -2147483648 ≤ (2 : Int) + (gr 0).toInt; omega) (by show (2 : Int) + (gr 0).toInt < 2147483648; omega)
        refine lv_iload_n hx hb dX12_crossTold_128 rfl (lv_at hl 0 rfl) ?_
        refine z_ist C G 2 rfl (vp_in_iff.mpr ⟨by omega, by omega⟩) dX12_crossTold_129 (fun H locs G => ?_)
        have G : zS T A s.heap s [[zO11 mo m_all m_has i_size xn xw xt xu xo xr xf m_read i_z0 i_crossings i_inns m_posts m_shut m_here i_steps i_done i_at i_gone m_was m_came m_seenAt m_rowWorth m_farBy m_used i_everywhere i_again0 i_d0 i_never i_firstCame i_longRun i_moved i_crowd i_l0 i_fitMany i_fitLeast i_fitMost m_fitPost m_fitEnd m_keptPosts i_x0], [zAr T 0 m_all 3952 ga], [zAr T 0 m_read 121 (upd gr y_5.toNatClampNeg (nI nn))]] _ _ := G
        refine lv_aload_n hx hb dX12_crossTold_130 rfl (lv_at hl 1 rfl) ?_
        refine z_get C G clX12 0 rfl 10 (by decide) m_fl_RX12_17 rfl dX12_crossTold_131 ?_
        refine lv_iconst (v := 0) hx hb dX12_crossTold_134 (by decide) ?_
        refine lv_dup2_11 hx hb dX12_crossTold_135 rfl rfl ?_
        refine z_ild C G 2 rfl (vp_in_nI (n := 0) (by decide) (by decide)) dX12_crossTold_136 ?_
        refine lv_topi (fun v_6 ev_6 => ?_)
        rw [show ((0 : Int32).toNatClampNeg) = 0 from rfl] at ev_6
        subst ev_6
        have hcl_y_5 := z_clI (x := y_5) (by omega)
        rw [show (upd gr y_5.toNatClampNeg (nI nn)) 0 = gr 0 from by unfold upd; rw [if_neg (by omega)]]
        refine lv_iconst (v := 1) hx hb dX12_crossTold_137 (by decide) ?_
        refine lv_iadd hx hb dX12_crossTold_138 ?_
        refine lv_topi (fun y_7 ey_7 => ?_)
        have ey_7i : y_7.toInt = (gr 0).toInt + (1 : Int) := by rw [ey_7]; exact z_iaddI (x := (gr 0)) (y := (1 : Int32)) (by show -2147483648 ≤ (gr 0).toInt + (1 : Int); omega) (by show (gr 0).toInt + (1 : Int) < 2147483648; omega)
        refine z_ist C G 2 rfl (vp_in_nI (n := 0) (by decide) (by decide)) dX12_crossTold_139 (fun H locs G => ?_)
        have G : zS T A s.heap s [[zO11 mo m_all m_has i_size xn xw xt xu xo xr xf m_read i_z0 i_crossings i_inns m_posts m_shut m_here i_steps i_done i_at i_gone m_was m_came m_seenAt m_rowWorth m_farBy m_used i_everywhere i_again0 i_d0 i_never i_firstCame i_longRun i_moved i_crowd i_l0 i_fitMany i_fitLeast i_fitMost m_fitPost m_fitEnd m_keptPosts i_x0], [zAr T 0 m_all 3952 ga], [zAr T 0 m_read 121 (upd (upd gr y_5.toNatClampNeg (nI nn)) 0 y_7)]] _ _ := G
        exact z_back hQz_ (z_vret C hr hlocks G (Nat.le_of_ble_eq_true rfl) (Nat.le_of_ble_eq_true rfl) dX12_crossTold_140 ⟨xn, xw, xt, xu, xo, xr, xf, ga, (upd (upd gr y_5.toNatClampNeg (nI nn)) 0 y_7), rfl, (by first | with_reducible assumption | omega | trivial | assumption), (by first | with_reducible assumption | omega | trivial | assumption), (by first | with_reducible assumption | omega | trivial | assumption), hpal, (zLF_upd (k := 0) (v := y_7) (zLF_upd (k := y_5.toNatClampNeg) (v := (nI nn)) (by first | with_reducible assumption | assumption) (by have q9 := z_clI (x := y_5) (by omega); have t9 := nI_toInt (n := nn) (by omega); omega) (by have q9 := z_clI (x := y_5) (by omega); have t9 := nI_toInt (n := nn) (by omega); omega) (by have q9 := z_clI (x := y_5) (by omega); have t9 := nI_toInt (n := nn) (by omega); omega) (by have q9 := z_clI (x := y_5) (by omega); have t9 := nI_toInt (n := nn) (by omega); omega) (by have q9 := z_clI (x := y_5) (by omega); have t9 := nI_toInt (n := nn) (by omega); omega)) (by omega) (by omega) (by omega) (by omega) (by omega)), (by rw [hpc]; exact hRA), (by rw [hpc]; show _ = (if 7 ≤ (f_read 0).toInt then gr else upd (upd gr (2 + (gr 0).toInt.toNat) (nI (min j 4))) 0 (gr 0 + 1)); rw [if_neg (by omega), ← hnn, ey_7]; exact congrArg (fun q9 => upd (upd gr q9 (nI nn)) 0 (gr 0 + 1)) (by have q9 := z_clI (x := y_5) (by omega); omega))⟩)
      · have c_3n : ¬ (gr 0).toInt < (7 : Int) := fun q => c_3 ((fa_lt _ _).mpr q)
        exact z_back hQz_ (z_vret C hr hlocks G (Nat.le_of_ble_eq_true rfl) (Nat.le_of_ble_eq_true rfl) dX12_crossTold_115 ⟨xn, xw, xt, xu, xo, xr, xf, ga, gr, rfl, (by first | with_reducible assumption | omega | trivial | assumption), (by first | with_reducible assumption | omega | trivial | assumption), (by first | with_reducible assumption | omega | trivial | assumption), hpal, (by first | with_reducible assumption | omega | trivial | assumption), (by rw [hpc]; exact hRA), (by rw [hpc]; exact (if_pos (by omega)).symm)⟩)
    · have c_1n : xr.toInt = (0 : Int) := (fa_eq _ _).mp c_1
      have hwA : A9.2.1.toInt = 0 := by rw [← hA6A]; omega
      refine zAn5 (hA7A hwA) ?_
      intro t1A t2A t3A t4A t5A
      replace t4A : zHd _ := t4A
      replace t5A : zHd _ := t5A
      have t3iA : xt.toInt = (pTk k A9.1 : Int) := by rw [t3A]; exact nI_toInt (by omega)
      refine lv_aload_n hx hb dX12_crossTold_26 rfl (lv_at hl 1 rfl) ?_
      refine z_get C G clX12 0 rfl 5 (by decide) m_fl_RX12_80 rfl dX12_crossTold_27 ?_
      refine lv_iconst (v := 1) hx hb dX12_crossTold_30 (by decide) ?_
      refine lv_icmp_ne (tgt := 104) hx hb dX12_crossTold_31 (by decide) (fun c_8 => ?_) (fun c_8 => ?_)
      · have c_8n : ¬ xt.toInt = (1 : Int) := fun q => c_8 ((fa_eq _ _).mpr q)
        have hpc := pCross_e (w := at_) hbq (hEq.symm.trans (pRoads_x (fun z9 => by first | (exact absurd z9.1 (by rw [← hA6A]; omega)) | omega)))
        have hf0i : (gr 0).toInt = (f_read 0).toInt := by rw [hf0]
        refine lv_aload_n hx hb dX12_crossTold_104 rfl (lv_at hl 1 rfl) ?_
        refine z_get C G clX12 0 rfl 10 (by decide) m_fl_RX12_17 rfl dX12_crossTold_105 ?_
        refine lv_iconst (v := 0) hx hb dX12_crossTold_108 (by decide) ?_
        refine z_ild C G 2 rfl (vp_in_nI (n := 0) (by decide) (by decide)) dX12_crossTold_109 ?_
        refine lv_topi (fun v_9 ev_9 => ?_)
        rw [show ((0 : Int32).toNatClampNeg) = 0 from rfl] at ev_9
        subst ev_9
        refine lv_bipush (v := 7) hx hb dX12_crossTold_110 (by decide) ?_
        refine lv_icmp_lt (tgt := 116) hx hb dX12_crossTold_112 (by decide) (fun c_10 => ?_) (fun c_10 => ?_)
        · have c_10n : (gr 0).toInt < (7 : Int) := (fa_lt _ _).mp c_10
          refine lv_aload_n hx hb dX12_crossTold_116 rfl (lv_at hl 1 rfl) ?_
          refine z_get C G clX12 0 rfl 10 (by decide) m_fl_RX12_17 rfl dX12_crossTold_117 ?_
          refine lv_iconst (v := 2) hx hb dX12_crossTold_120 (by decide) ?_
          refine lv_aload_n hx hb dX12_crossTold_121 rfl (lv_at hl 1 rfl) ?_
          refine z_get C G clX12 0 rfl 10 (by decide) m_fl_RX12_17 rfl dX12_crossTold_122 ?_
          refine lv_iconst (v := 0) hx hb dX12_crossTold_125 (by decide) ?_
          refine z_ild C G 2 rfl (vp_in_nI (n := 0) (by decide) (by decide)) dX12_crossTold_126 ?_
          refine lv_topi (fun v_11 ev_11 => ?_)
          rw [show ((0 : Int32).toNatClampNeg) = 0 from rfl] at ev_11
          subst ev_11
          refine lv_iadd hx hb dX12_crossTold_127 ?_
          refine lv_topi (fun y_12 ey_12 => ?_)
          have ey_12i : y_12.toInt = (2 : Int) + (gr 0).toInt := by rw [ey_12]; exact z_iaddI (x := (2 : Int32)) (y := (gr 0)) (by show -2147483648 ≤ (2 : Int) + (gr 0).toInt; omega) (by show (2 : Int) + (gr 0).toInt < 2147483648; omega)
          refine lv_iload_n hx hb dX12_crossTold_128 rfl (lv_at hl 0 rfl) ?_
          refine z_ist C G 2 rfl (vp_in_iff.mpr ⟨by omega, by omega⟩) dX12_crossTold_129 (fun H locs G => ?_)
          have G : zS T A s.heap s [[zO11 mo m_all m_has i_size xn xw xt xu xo xr xf m_read i_z0 i_crossings i_inns m_posts m_shut m_here i_steps i_done i_at i_gone m_was m_came m_seenAt m_rowWorth m_farBy m_used i_everywhere i_again0 i_d0 i_never i_firstCame i_longRun i_moved i_crowd i_l0 i_fitMany i_fitLeast i_fitMost m_fitPost m_fitEnd m_keptPosts i_x0], [zAr T 0 m_all 3952 ga], [zAr T 0 m_read 121 (upd gr y_12.toNatClampNeg (nI nn))]] _ _ := G
          refine lv_aload_n hx hb dX12_crossTold_130 rfl (lv_at hl 1 rfl) ?_
          refine z_get C G clX12 0 rfl 10 (by decide) m_fl_RX12_17 rfl dX12_crossTold_131 ?_
          refine lv_iconst (v := 0) hx hb dX12_crossTold_134 (by decide) ?_
          refine lv_dup2_11 hx hb dX12_crossTold_135 rfl rfl ?_
          refine z_ild C G 2 rfl (vp_in_nI (n := 0) (by decide) (by decide)) dX12_crossTold_136 ?_
          refine lv_topi (fun v_13 ev_13 => ?_)
          rw [show ((0 : Int32).toNatClampNeg) = 0 from rfl] at ev_13
          subst ev_13
          have hcl_y_12 := z_clI (x := y_12) (by omega)
          rw [show (upd gr y_12.toNatClampNeg (nI nn)) 0 = gr 0 from by unfold upd; rw [if_neg (by omega)]]
          refine lv_iconst (v := 1) hx hb dX12_crossTold_137 (by decide) ?_
          refine lv_iadd hx hb dX12_crossTold_138 ?_
          refine lv_topi (fun y_14 ey_14 => ?_)
          have ey_14i : y_14.toInt = (gr 0).toInt + (1 : Int) := by rw [ey_14]; exact z_iaddI (x := (gr 0)) (y := (1 : Int32)) (by show -2147483648 ≤ (gr 0).toInt + (1 : Int); omega) (by show (gr 0).toInt + (1 : Int) < 2147483648; omega)
          refine z_ist C G 2 rfl (vp_in_nI (n := 0) (by decide) (by decide)) dX12_crossTold_139 (fun H locs G => ?_)
          have G : zS T A s.heap s [[zO11 mo m_all m_has i_size xn xw xt xu xo xr xf m_read i_z0 i_crossings i_inns m_posts m_shut m_here i_steps i_done i_at i_gone m_was m_came m_seenAt m_rowWorth m_farBy m_used i_everywhere i_again0 i_d0 i_never i_firstCame i_longRun i_moved i_crowd i_l0 i_fitMany i_fitLeast i_fitMost m_fitPost m_fitEnd m_keptPosts i_x0], [zAr T 0 m_all 3952 ga], [zAr T 0 m_read 121 (upd (upd gr y_12.toNatClampNeg (nI nn)) 0 y_14)]] _ _ := G
          exact z_back hQz_ (z_vret C hr hlocks G (Nat.le_of_ble_eq_true rfl) (Nat.le_of_ble_eq_true rfl) dX12_crossTold_140 ⟨xn, xw, xt, xu, xo, xr, xf, ga, (upd (upd gr y_12.toNatClampNeg (nI nn)) 0 y_14), rfl, (by first | with_reducible assumption | omega | trivial | assumption), (by first | with_reducible assumption | omega | trivial | assumption), (by first | with_reducible assumption | omega | trivial | assumption), hpal, (zLF_upd (k := 0) (v := y_14) (zLF_upd (k := y_12.toNatClampNeg) (v := (nI nn)) (by first | with_reducible assumption | assumption) (by have q9 := z_clI (x := y_12) (by omega); have t9 := nI_toInt (n := nn) (by omega); omega) (by have q9 := z_clI (x := y_12) (by omega); have t9 := nI_toInt (n := nn) (by omega); omega) (by have q9 := z_clI (x := y_12) (by omega); have t9 := nI_toInt (n := nn) (by omega); omega) (by have q9 := z_clI (x := y_12) (by omega); have t9 := nI_toInt (n := nn) (by omega); omega) (by have q9 := z_clI (x := y_12) (by omega); have t9 := nI_toInt (n := nn) (by omega); omega)) (by omega) (by omega) (by omega) (by omega) (by omega)), (by rw [hpc]; exact hRA), (by rw [hpc]; show _ = (if 7 ≤ (f_read 0).toInt then gr else upd (upd gr (2 + (gr 0).toInt.toNat) (nI (min j 4))) 0 (gr 0 + 1)); rw [if_neg (by omega), ← hnn, ey_14]; exact congrArg (fun q9 => upd (upd gr q9 (nI nn)) 0 (gr 0 + 1)) (by have q9 := z_clI (x := y_12) (by omega); omega))⟩)
        · have c_10n : ¬ (gr 0).toInt < (7 : Int) := fun q => c_10 ((fa_lt _ _).mpr q)
          exact z_back hQz_ (z_vret C hr hlocks G (Nat.le_of_ble_eq_true rfl) (Nat.le_of_ble_eq_true rfl) dX12_crossTold_115 ⟨xn, xw, xt, xu, xo, xr, xf, ga, gr, rfl, (by first | with_reducible assumption | omega | trivial | assumption), (by first | with_reducible assumption | omega | trivial | assumption), (by first | with_reducible assumption | omega | trivial | assumption), hpal, (by first | with_reducible assumption | omega | trivial | assumption), (by rw [hpc]; exact hRA), (by rw [hpc]; exact (if_pos (by omega)).symm)⟩)
      · have c_8n : xt.toInt = (1 : Int) := (fa_eq _ _).mp c_8
        have htA : pTk k A9.1 = 1 := by omega
        have hst := pStep (f := gr) (g := f_read) hokA hpn9 hwA htA hpj hf0
        refine zMt1 (T := T) 48 (fun (gc : Nat → Int32) => [[zO11 mo m_all m_has i_size xn xw xt xu xo xr xf m_read i_z0 i_crossings i_inns m_posts m_shut m_here i_steps i_done i_at i_gone m_was m_came m_seenAt m_rowWorth m_farBy m_used i_everywhere i_again0 i_d0 i_never i_firstCame i_longRun i_moved i_crowd i_l0 i_fitMany i_fitLeast i_fitMost m_fitPost m_fitEnd m_keptPosts i_x0], [zAr T 0 m_all 3952 gc], [zAr T 0 m_read 121 gr]]) (fun (gc : Nat → Int32) => [(2, .int (nI nn)), (0, .ref mo), (1, .int at_)]) (fun (gc : Nat → Int32) => zRr k n i_size xn xw xt xu xo xr xf gc (pAt k j A9) ∧ zPal f_all gc) G hl ?_ (fun jn_48 => ?_)
        · intro gc hI9 H locs ls G hl
          replace hI9 : zRr k n i_size xn xw xt xu xo xr xf gc (pAt k j A9) ∧ zPal f_all gc := hI9
          refine zAn2 hI9 ?_
          intro hX hpgc
          clear hI9
          replace G : zS T A s.heap s [[zO11 mo m_all m_has i_size xn xw xt xu xo xr xf m_read i_z0 i_crossings i_inns m_posts m_shut m_here i_steps i_done i_at i_gone m_was m_came m_seenAt m_rowWorth m_farBy m_used i_everywhere i_again0 i_d0 i_never i_firstCame i_longRun i_moved i_crowd i_l0 i_fitMany i_fitLeast i_fitMost m_fitPost m_fitEnd m_keptPosts i_x0], [zAr T 0 m_all 3952 gc], [zAr T 0 m_read 121 gr]] _ _ := G
          replace hl : lv_has ls 4 [(2, .int (nI nn)), (0, .ref mo), (1, .int at_)] := hl
          refine lv_aload_n hx hb dX12_crossTold_48 rfl (lv_at hl 1 rfl) ?_
          refine z_Vi (bc := [[zO11 mo m_all m_has i_size xn xw xt xu xo xr xf m_read i_z0 i_crossings i_inns m_posts m_shut m_here i_steps i_done i_at i_gone m_was m_came m_seenAt m_rowWorth m_farBy m_used i_everywhere i_again0 i_d0 i_never i_firstCame i_longRun i_moved i_crowd i_l0 i_fitMany i_fitLeast i_fitMost m_fitPost m_fitEnd m_keptPosts i_x0], [zAr T 0 m_all 3952 gc]]) (br := [[zAr T 0 m_read 121 gr]]) (As := []) (rest := []) C G (c_fm_crossingTold l T mo m_all m_has i_size xn xw xt xu xo xr xf m_read i_z0 i_crossings i_inns m_posts m_shut m_here i_steps i_done i_at i_gone m_was m_came m_seenAt m_rowWorth m_farBy m_used i_everywhere i_again0 i_d0 i_never i_firstCame i_longRun i_moved i_crowd i_l0 i_fitMany i_fitLeast i_fitMost m_fitPost m_fitEnd m_keptPosts i_x0 gc k n (pAt k j A9) (by first | with_reducible assumption | with_reducible rfl | omega | assumption | rfl) (by first | with_reducible assumption | with_reducible rfl | omega | assumption | rfl) (by first | with_reducible assumption | with_reducible rfl | omega | assumption | rfl) hX) (kV_RX12_129 C.2.2.2.2 (Nat.le_of_ble_eq_true rfl) (Nat.le_of_ble_eq_true rfl)) [0, 1] [0, 0] rfl rfl (ci := 11) (qc := (RX12, TX12, 43)) rfl rfl (List.mem_flatten.mpr ⟨_, List.mem_of_getElem? (i := 0) rfl, List.mem_cons_self⟩) rfl rfl hl.1 dX12_crossTold_49 (Nat.le_of_ble_eq_true rfl) (Nat.le_of_ble_eq_true rfl) (fun r_32 b1 H locs hw G => ?_)
          refine zEx8 hw ?_
          intro j_next_15 j_where_16 j_token_17 j_number_18 j_word_19 j_wrong_20 j_farCrossing_21 g_all_22
          refine zCu10 ?_
          intro hbs9 h_23 h_24 h_25 h_26 h_27 h_28 h_29 h_30 h_31
          clear hw
          subst hbs9
          have G : zS T A s.heap s [[zAr T 0 m_read 121 gr], [zO11 mo m_all m_has i_size j_next_15 j_where_16 j_token_17 j_number_18 j_word_19 j_wrong_20 j_farCrossing_21 m_read i_z0 i_crossings i_inns m_posts m_shut m_here i_steps i_done i_at i_gone m_was m_came m_seenAt m_rowWorth m_farBy m_used i_everywhere i_again0 i_d0 i_never i_firstCame i_longRun i_moved i_crowd i_l0 i_fitMany i_fitLeast i_fitMost m_fitPost m_fitEnd m_keptPosts i_x0], [zAr T 0 m_all 3952 g_all_22]] _ _ := G
          refine lv_istore_n (lv' := [(3, .int r_32), (2, .int (nI nn)), (0, .ref mo), (1, .int at_)]) hx hb dX12_crossTold_52 rfl hl (by decide) (zLvf_h rfl) (fun ls hl => ?_)
          refine zMt1 (T := T) 88 (fun (gx : Nat → Int32) => [[zAr T 0 m_read 121 gx], [zO11 mo m_all m_has i_size j_next_15 j_where_16 j_token_17 j_number_18 j_word_19 j_wrong_20 j_farCrossing_21 m_read i_z0 i_crossings i_inns m_posts m_shut m_here i_steps i_done i_at i_gone m_was m_came m_seenAt m_rowWorth m_farBy m_used i_everywhere i_again0 i_d0 i_never i_firstCame i_longRun i_moved i_crowd i_l0 i_fitMany i_fitLeast i_fitMost m_fitPost m_fitEnd m_keptPosts i_x0], [zAr T 0 m_all 3952 g_all_22]]) (fun (gx : Nat → Int32) => [(3, .int r_32), (2, .int (nI nn)), (0, .ref mo), (1, .int at_)]) (fun (gx : Nat → Int32) => gx = pRow k j A9 gr ∧ zLF gx) G hl ?_ (fun jn_88 => ?_)
          · intro gx hI9 H locs ls G hl
            replace hI9 : gx = pRow k j A9 gr ∧ zLF gx := hI9
            refine zAn2 hI9 ?_
            intro hrow hLx
            clear hI9
            replace G : zS T A s.heap s [[zAr T 0 m_read 121 gx], [zO11 mo m_all m_has i_size j_next_15 j_where_16 j_token_17 j_number_18 j_word_19 j_wrong_20 j_farCrossing_21 m_read i_z0 i_crossings i_inns m_posts m_shut m_here i_steps i_done i_at i_gone m_was m_came m_seenAt m_rowWorth m_farBy m_used i_everywhere i_again0 i_d0 i_never i_firstCame i_longRun i_moved i_crowd i_l0 i_fitMany i_fitLeast i_fitMost m_fitPost m_fitEnd m_keptPosts i_x0], [zAr T 0 m_all 3952 g_all_22]] _ _ := G
            replace hl : lv_has ls 4 [(3, .int r_32), (2, .int (nI nn)), (0, .ref mo), (1, .int at_)] := hl
            refine lv_iload_n hx hb dX12_crossTold_88 rfl (lv_at hl 1 rfl) ?_
            refine lv_iconst (v := 4) hx hb dX12_crossTold_89 (by decide) ?_
            refine lv_icmp_ge (tgt := 99) hx hb dX12_crossTold_90 (by decide) (fun c_33 => ?_) (fun c_33 => ?_)
            · have c_33n : 4 ≤ nn := (nI_leI (a := 4) (b := nn) (by omega) (by omega)).mp c_33
              refine lv_iconst (v := 4) hx hb dX12_crossTold_99 (by decide) ?_
              refine lv_istore_n (lv' := [(2, .int 4), (3, .int r_32), (0, .ref mo), (1, .int at_)]) hx hb dX12_crossTold_100 rfl hl (by decide) (zLvf_h rfl) (fun ls hl => ?_)
              refine lv_goto (tgt := 19) hx hb dX12_crossTold_101 (by decide) ?_
              have G := G.sub (bs' := [[zO11 mo m_all m_has i_size j_next_15 j_where_16 j_token_17 j_number_18 j_word_19 j_wrong_20 j_farCrossing_21 m_read i_z0 i_crossings i_inns m_posts m_shut m_here i_steps i_done i_at i_gone m_was m_came m_seenAt m_rowWorth m_farBy m_used i_everywhere i_again0 i_d0 i_never i_firstCame i_longRun i_moved i_crowd i_l0 i_fitMany i_fitLeast i_fitMost m_fitPost m_fitEnd m_keptPosts i_x0], [zAr T 0 m_all 3952 g_all_22], [zAr T 0 m_read 121 gx]]) [1, 2, 0] rfl
              exact ih_19 j_next_15 j_where_16 j_token_17 j_number_18 j_word_19 j_wrong_20 j_farCrossing_21 g_all_22 gx 4 ((pCr k (pAt k j A9)).2) (j + 1) (show 4 ≤ 4 ∧ zLF gx ∧ i_next.toInt ≤ j_next_15.toInt ∧ j_next_15.toInt ≤ i_size.toInt ∧ zPal f_all g_all_22 ∧ zRr k n i_size j_next_15 j_where_16 j_token_17 j_number_18 j_word_19 j_wrong_20 j_farCrossing_21 g_all_22 ((pCr k (pAt k j A9)).2) ∧ 4 = min (j + 1) 4 ∧ (j + 1) ≤ ((pCr k (pAt k j A9)).2).1 ∧ pRoads k (601 - (j + 1)) (min (j + 1) 4) ((pCr k (pAt k j A9)).2) gx = pRoads k 601 0 b f_read ∧ gx 0 = f_read 0 from ⟨by omega, (by first | with_reducible assumption | assumption), by omega, by omega, (hpgc.tr h_27), h_30, by omega, hst.2.1, (by rw [hrow]; exact pRoads_n (by omega) hwA htA hEq), (by rw [hrow]; exact hst.2.2)⟩) (show zMu j_wrong_20 j_token_17 j_next_15 i_size < zMu xr xt xn i_size from zMu_lt (by omega) (by omega) (by omega) (by omega)) _ _ ls G (lv_sub hl [0, 2, 3] rfl)
            · have c_33n : ¬ 4 ≤ nn := fun q => c_33 ((nI_leI (a := 4) (b := nn) (by omega) (by omega)).mpr q)
              refine lv_iload_n hx hb dX12_crossTold_93 rfl (lv_at hl 1 rfl) ?_
              refine lv_iconst (v := 1) hx hb dX12_crossTold_94 (by decide) ?_
              refine lv_iadd hx hb dX12_crossTold_95 ?_
              refine lv_topi (fun y_34 ey_34 => ?_)
              obtain rfl : y_34 = nI (nn + 1) := ey_34.trans (z_iaddn nn 1 rfl rfl)
              refine lv_goto (tgt := 100) hx hb dX12_crossTold_96 (by decide) ?_
              refine lv_istore_n (lv' := [(2, .int (nI (nn + 1))), (3, .int r_32), (0, .ref mo), (1, .int at_)]) hx hb dX12_crossTold_100 rfl hl (by decide) (zLvf_h rfl) (fun ls hl => ?_)
              refine lv_goto (tgt := 19) hx hb dX12_crossTold_101 (by decide) ?_
              have G := G.sub (bs' := [[zO11 mo m_all m_has i_size j_next_15 j_where_16 j_token_17 j_number_18 j_word_19 j_wrong_20 j_farCrossing_21 m_read i_z0 i_crossings i_inns m_posts m_shut m_here i_steps i_done i_at i_gone m_was m_came m_seenAt m_rowWorth m_farBy m_used i_everywhere i_again0 i_d0 i_never i_firstCame i_longRun i_moved i_crowd i_l0 i_fitMany i_fitLeast i_fitMost m_fitPost m_fitEnd m_keptPosts i_x0], [zAr T 0 m_all 3952 g_all_22], [zAr T 0 m_read 121 gx]]) [1, 2, 0] rfl
              exact ih_19 j_next_15 j_where_16 j_token_17 j_number_18 j_word_19 j_wrong_20 j_farCrossing_21 g_all_22 gx (nn + 1) ((pCr k (pAt k j A9)).2) (j + 1) (show (nn + 1) ≤ 4 ∧ zLF gx ∧ i_next.toInt ≤ j_next_15.toInt ∧ j_next_15.toInt ≤ i_size.toInt ∧ zPal f_all g_all_22 ∧ zRr k n i_size j_next_15 j_where_16 j_token_17 j_number_18 j_word_19 j_wrong_20 j_farCrossing_21 g_all_22 ((pCr k (pAt k j A9)).2) ∧ (nn + 1) = min (j + 1) 4 ∧ (j + 1) ≤ ((pCr k (pAt k j A9)).2).1 ∧ pRoads k (601 - (j + 1)) (min (j + 1) 4) ((pCr k (pAt k j A9)).2) gx = pRoads k 601 0 b f_read ∧ gx 0 = f_read 0 from ⟨by omega, (by first | with_reducible assumption | assumption), by omega, by omega, (hpgc.tr h_27), h_30, by omega, hst.2.1, (by rw [hrow]; exact pRoads_n (by omega) hwA htA hEq), (by rw [hrow]; exact hst.2.2)⟩) (show zMu j_wrong_20 j_token_17 j_next_15 i_size < zMu xr xt xn i_size from zMu_lt (by omega) (by omega) (by omega) (by omega)) _ _ ls G (lv_sub hl [0, 2, 3] rfl)
          refine lv_aload_n hx hb dX12_crossTold_53 rfl (lv_at hl 2 rfl) ?_
          refine z_get C G clX12 1 rfl 10 (by decide) m_fl_RX12_17 rfl dX12_crossTold_54 ?_
          refine lv_iconst (v := 0) hx hb dX12_crossTold_57 (by decide) ?_
          refine z_ild C G 0 rfl (vp_in_nI (n := 0) (by decide) (by decide)) dX12_crossTold_58 ?_
          refine lv_topi (fun v_35 ev_35 => ?_)
          rw [show ((0 : Int32).toNatClampNeg) = 0 from rfl] at ev_35
          subst ev_35
          refine lv_bipush (v := 7) hx hb dX12_crossTold_59 (by decide) ?_
          refine lv_icmp_ge (tgt := 88) hx hb dX12_crossTold_61 (by decide) (fun c_36 => ?_) (fun c_36 => ?_)
          · have c_36n : (7 : Int) ≤ (gr 0).toInt := (fa_le _ _).mp c_36
            have hrow : gr = pRow k j A9 gr := pRow_n (by omega)
            exact jn_88 gr (show gr = pRow k j A9 gr ∧ zLF gr from ⟨hrow, (by first | with_reducible assumption | assumption)⟩) _ _ ls G (lv_sub hl [0, 1, 2, 3] rfl)
          · have c_36n : ¬ (7 : Int) ≤ (gr 0).toInt := fun q => c_36 ((fa_le _ _).mpr q)
            refine lv_iload_n hx hb dX12_crossTold_64 rfl (lv_at hl 1 rfl) ?_
            refine lv_iconst (v := 4) hx hb dX12_crossTold_65 (by decide) ?_
            refine lv_icmp_ge (tgt := 88) hx hb dX12_crossTold_66 (by decide) (fun c_37 => ?_) (fun c_37 => ?_)
            · have c_37n : 4 ≤ nn := (nI_leI (a := 4) (b := nn) (by omega) (by omega)).mp c_37
              have hrow : gr = pRow k j A9 gr := pRow_n (by omega)
              exact jn_88 gr (show gr = pRow k j A9 gr ∧ zLF gr from ⟨hrow, (by first | with_reducible assumption | assumption)⟩) _ _ ls G (lv_sub hl [0, 1, 2, 3] rfl)
            · have c_37n : ¬ 4 ≤ nn := fun q => c_37 ((nI_leI (a := 4) (b := nn) (by omega) (by omega)).mpr q)
              refine lv_aload_n hx hb dX12_crossTold_69 rfl (lv_at hl 2 rfl) ?_
              refine z_get C G clX12 1 rfl 10 (by decide) m_fl_RX12_17 rfl dX12_crossTold_70 ?_
              refine lv_bipush (v := 23) hx hb dX12_crossTold_73 (by decide) ?_
              refine lv_iconst (v := 4) hx hb dX12_crossTold_75 (by decide) ?_
              refine lv_aload_n hx hb dX12_crossTold_76 rfl (lv_at hl 2 rfl) ?_
              refine z_get C G clX12 1 rfl 10 (by decide) m_fl_RX12_17 rfl dX12_crossTold_77 ?_
              refine lv_iconst (v := 0) hx hb dX12_crossTold_80 (by decide) ?_
              refine z_ild C G 0 rfl (vp_in_nI (n := 0) (by decide) (by decide)) dX12_crossTold_81 ?_
              refine lv_topi (fun v_38 ev_38 => ?_)
              rw [show ((0 : Int32).toNatClampNeg) = 0 from rfl] at ev_38
              subst ev_38
              refine lv_imul hx hb dX12_crossTold_82 ?_
              refine lv_topi (fun y_39 ey_39 => ?_)
              have ey_39i : y_39.toInt = (4 : Int) * (gr 0).toInt := by rw [ey_39]; exact z_imulI (x := (4 : Int32)) (y := (gr 0)) (by show -2147483648 ≤ (4 : Int) * (gr 0).toInt; omega) (by show (4 : Int) * (gr 0).toInt < 2147483648; omega)
              refine lv_iadd hx hb dX12_crossTold_83 ?_
              refine lv_topi (fun y_40 ey_40 => ?_)
              have ey_40i : y_40.toInt = (23 : Int) + y_39.toInt := by rw [ey_40]; exact z_iaddI (x := (23 : Int32)) (y := y_39) (by show -2147483648 ≤ (23 : Int) + y_39.toInt; omega) (by show (23 : Int) + y_39.toInt < 2147483648; omega)
              refine lv_iload_n hx hb dX12_crossTold_84 rfl (lv_at hl 1 rfl) ?_
              refine lv_iadd hx hb dX12_crossTold_85 ?_
              refine lv_topi (fun y_41 ey_41 => ?_)
              have ey_41i : y_41.toInt = y_40.toInt + (nn : Int) := by rw [ey_41]; exact (z_iaddI (x := y_40) (y := (nI nn)) (by rw [nI_toInt (n := nn) (by omega)]; show -2147483648 ≤ y_40.toInt + (nn : Int); omega) (by rw [nI_toInt (n := nn) (by omega)]; show y_40.toInt + (nn : Int) < 2147483648; omega)).trans (by rw [nI_toInt (n := nn) (by omega)] <;> rfl)
              refine lv_iload_n hx hb dX12_crossTold_86 rfl (lv_at hl 0 rfl) ?_
              refine z_ist C G 0 rfl (vp_in_iff.mpr ⟨by omega, by omega⟩) dX12_crossTold_87 (fun H locs G => ?_)
              have G : zS T A s.heap s [[zAr T 0 m_read 121 (upd gr y_41.toNatClampNeg r_32)], [zO11 mo m_all m_has i_size j_next_15 j_where_16 j_token_17 j_number_18 j_word_19 j_wrong_20 j_farCrossing_21 m_read i_z0 i_crossings i_inns m_posts m_shut m_here i_steps i_done i_at i_gone m_was m_came m_seenAt m_rowWorth m_farBy m_used i_everywhere i_again0 i_d0 i_never i_firstCame i_longRun i_moved i_crowd i_l0 i_fitMany i_fitLeast i_fitMost m_fitPost m_fitEnd m_keptPosts i_x0], [zAr T 0 m_all 3952 g_all_22]] _ _ := G
              have hcl9 := z_clI (x := y_41) (by omega)
              have hrow : upd gr y_41.toNatClampNeg r_32 = pRow k j A9 gr := pRow_y (by omega) (by omega) (by omega) h_31
              exact jn_88 (upd gr y_41.toNatClampNeg r_32) (show (upd gr y_41.toNatClampNeg r_32) = pRow k j A9 gr ∧ zLF (upd gr y_41.toNatClampNeg r_32) from ⟨hrow, (zLF_upd (k := y_41.toNatClampNeg) (v := r_32) (by first | with_reducible assumption | assumption) (by have q9 := z_clI (x := y_41) (by omega); omega) (by have q9 := z_clI (x := y_41) (by omega); omega) (by have q9 := z_clI (x := y_41) (by omega); omega) (by have q9 := z_clI (x := y_41) (by omega); omega) (by have q9 := z_clI (x := y_41) (by omega); omega))⟩) _ _ ls G (lv_sub hl [0, 1, 2, 3] rfl)
        refine lv_iload_n hx hb dX12_crossTold_34 rfl (lv_at hl 0 rfl) ?_
        refine lv_iconst (v := 4) hx hb dX12_crossTold_35 (by decide) ?_
        refine lv_icmp_ne (tgt := 48) hx hb dX12_crossTold_36 (by decide) (fun c_42 => ?_) (fun c_42 => ?_)
        · have c_42n : ¬ nn = 4 := fun q => c_42 ((nI_eq (a := nn) (b := 4) (by omega) (by omega)).mpr q)
          have hX : zRr k n i_size xn xw xt xu xo xr xf ga (pAt k j A9) := by rw [pAt_n (by omega)]; exact hRA
          exact jn_48 ga (show zRr k n i_size xn xw xt xu xo xr xf ga (pAt k j A9) ∧ zPal f_all ga from ⟨hX, hpal⟩) _ _ ls G (lv_sub hl [0, 1, 2] rfl)
        · have c_42n : nn = 4 := (nI_eq (a := nn) (b := 4) (by omega) (by omega)).mp c_42
          refine lv_aload_n hx hb dX12_crossTold_39 rfl (lv_at hl 1 rfl) ?_
          refine lv_iconst (v := 3) hx hb dX12_crossTold_40 (by decide) ?_
          refine lv_aload_n hx hb dX12_crossTold_41 rfl (lv_at hl 1 rfl) ?_
          refine z_get C G clX12 0 rfl 4 (by decide) m_fl_RX12_77 rfl dX12_crossTold_42 ?_
          refine z_Vv (bc := [[zO11 mo m_all m_has i_size xn xw xt xu xo xr xf m_read i_z0 i_crossings i_inns m_posts m_shut m_here i_steps i_done i_at i_gone m_was m_came m_seenAt m_rowWorth m_farBy m_used i_everywhere i_again0 i_d0 i_never i_firstCame i_longRun i_moved i_crowd i_l0 i_fitMany i_fitLeast i_fitMost m_fitPost m_fitEnd m_keptPosts i_x0], [zAr T 0 m_all 3952 ga]]) (br := [[zAr T 0 m_read 121 gr]]) (As := [.int 3, .int xw]) (rest := []) C G (c_fm_also l T mo m_all m_has i_size xn xw xt xu xo xr xf m_read i_z0 i_crossings i_inns m_posts m_shut m_here i_steps i_done i_at i_gone m_was m_came m_seenAt m_rowWorth m_farBy m_used i_everywhere i_again0 i_d0 i_never i_firstCame i_longRun i_moved i_crowd i_l0 i_fitMany i_fitLeast i_fitMost m_fitPost m_fitEnd m_keptPosts i_x0 ga 3 xw) (kV_RX12_115 C.2.2.2.2 (Nat.le_of_ble_eq_true rfl) (Nat.le_of_ble_eq_true rfl)) [0, 1] [0, 0] rfl rfl (ci := 11) (qc := (RX12, TX12, 43)) rfl rfl (List.mem_flatten.mpr ⟨_, List.mem_of_getElem? (i := 0) rfl, List.mem_cons_self⟩) rfl rfl hl.1 dX12_crossTold_45 (Nat.le_of_ble_eq_true rfl) (Nat.le_of_ble_eq_true rfl) (fun b1 H locs hw G => ?_)
          refine zEx1 hw ?_
          intro g_all_43
          refine zCu3 ?_
          intro hbs9 h_44 h_45
          clear hw
          subst hbs9
          have G : zS T A s.heap s [[zAr T 0 m_read 121 gr], [zO11 mo m_all m_has i_size xn xw xt xu xo xr xf m_read i_z0 i_crossings i_inns m_posts m_shut m_here i_steps i_done i_at i_gone m_was m_came m_seenAt m_rowWorth m_farBy m_used i_everywhere i_again0 i_d0 i_never i_firstCame i_longRun i_moved i_crowd i_l0 i_fitMany i_fitLeast i_fitMost m_fitPost m_fitEnd m_keptPosts i_x0], [zAr T 0 m_all 3952 g_all_43]] _ _ := G
          have h_45 : g_all_43 = (if ¬ xr.toInt = 0 ∨ (¬ (ga 5).toInt = 0 ∧ ((ga 6).toInt < xw.toInt ∨ ((ga 6).toInt = xw.toInt ∧ (ga 5).toInt ≤ (3 : Int)))) then ga else upd (upd ga 5 3) 6 xw) := h_45
          have hX : zRr k n i_size xn xw xt xu xo xr xf g_all_43 (pAt k j A9) := by rw [pAt_y (by omega), ← t2A]; exact zRr_also (kd := 3) (w := xw) hRA h_45
          have G := G.sub (bs' := [[zO11 mo m_all m_has i_size xn xw xt xu xo xr xf m_read i_z0 i_crossings i_inns m_posts m_shut m_here i_steps i_done i_at i_gone m_was m_came m_seenAt m_rowWorth m_farBy m_used i_everywhere i_again0 i_d0 i_never i_firstCame i_longRun i_moved i_crowd i_l0 i_fitMany i_fitLeast i_fitMost m_fitPost m_fitEnd m_keptPosts i_x0], [zAr T 0 m_all 3952 g_all_43], [zAr T 0 m_read 121 gr]]) [1, 2, 0] rfl
          exact jn_48 g_all_43 (show zRr k n i_size xn xw xt xu xo xr xf g_all_43 (pAt k j A9) ∧ zPal f_all g_all_43 from ⟨hX, (hpal.tr h_44)⟩) _ _ ls G (lv_sub hl [0, 1, 2] rfl)
  refine lv_aload_n hx hb dX12_crossTold_0 rfl (lv_at hl 0 rfl) ?_
  refine z_get C G clX12 0 rfl 10 (by decide) m_fl_RX12_17 rfl dX12_crossTold_1 ?_
  refine lv_iconst (v := 0) hx hb dX12_crossTold_4 (by decide) ?_
  refine z_ild C G 2 rfl (vp_in_nI (n := 0) (by decide) (by decide)) dX12_crossTold_5 ?_
  refine lv_topi (fun v_47 ev_47 => ?_)
  rw [show ((0 : Int32).toNatClampNeg) = 0 from rfl] at ev_47
  subst ev_47
  refine lv_bipush (v := 7) hx hb dX12_crossTold_6 (by decide) ?_
  refine lv_icmp_lt (tgt := 17) hx hb dX12_crossTold_8 (by decide) (fun c_48 => ?_) (fun c_48 => ?_)
  · have c_48n : (f_read 0).toInt < (7 : Int) := (fa_lt _ _).mp c_48
    obtain ⟨b, hbq⟩ : ∃ b, b = pDB 7 at_ f_read a := ⟨_, rfl⟩
    have hAb : zRr k n i_size i_next i_where i_token i_number i_word i_wrong i_farCrossing f_all b := by rw [hbq]; unfold pDB; rw [if_neg (by omega)]; exact hA
    exact jn_17 f_all b (show b = pDB 7 at_ f_read a ∧ zRr k n i_size i_next i_where i_token i_number i_word i_wrong i_farCrossing f_all b ∧ zPal f_all f_all from ⟨hbq, hAb, (zPal_rf _)⟩) _ _ ls G (lv_sub hl [0, 1] rfl)
  · have c_48n : ¬ (f_read 0).toInt < (7 : Int) := fun q => c_48 ((fa_lt _ _).mpr q)
    refine lv_aload_n hx hb dX12_crossTold_11 rfl (lv_at hl 0 rfl) ?_
    refine lv_iconst (v := 3) hx hb dX12_crossTold_12 (by decide) ?_
    refine lv_iload_n hx hb dX12_crossTold_13 rfl (lv_at hl 1 rfl) ?_
    refine z_Vv (bc := [[zO11 mo m_all m_has i_size i_next i_where i_token i_number i_word i_wrong i_farCrossing m_read i_z0 i_crossings i_inns m_posts m_shut m_here i_steps i_done i_at i_gone m_was m_came m_seenAt m_rowWorth m_farBy m_used i_everywhere i_again0 i_d0 i_never i_firstCame i_longRun i_moved i_crowd i_l0 i_fitMany i_fitLeast i_fitMost m_fitPost m_fitEnd m_keptPosts i_x0], [zAr T 0 m_all 3952 f_all]]) (br := [[zAr T 0 m_read 121 f_read]]) (As := [.int 3, .int at_]) (rest := []) C G (c_fm_also l T mo m_all m_has i_size i_next i_where i_token i_number i_word i_wrong i_farCrossing m_read i_z0 i_crossings i_inns m_posts m_shut m_here i_steps i_done i_at i_gone m_was m_came m_seenAt m_rowWorth m_farBy m_used i_everywhere i_again0 i_d0 i_never i_firstCame i_longRun i_moved i_crowd i_l0 i_fitMany i_fitLeast i_fitMost m_fitPost m_fitEnd m_keptPosts i_x0 f_all 3 at_) (kV_RX12_115 C.2.2.2.2 (Nat.le_of_ble_eq_true rfl) (Nat.le_of_ble_eq_true rfl)) [0, 1] [0, 0] rfl rfl (ci := 11) (qc := (RX12, TX12, 43)) rfl rfl (List.mem_flatten.mpr ⟨_, List.mem_of_getElem? (i := 0) rfl, List.mem_cons_self⟩) rfl rfl hl.1 dX12_crossTold_14 (Nat.le_of_ble_eq_true rfl) (Nat.le_of_ble_eq_true rfl) (fun b1 H locs hw G => ?_)
    refine zEx1 hw ?_
    intro g_all_49
    refine zCu3 ?_
    intro hbs9 h_50 h_51
    clear hw
    subst hbs9
    have G : zS T A s.heap s [[zAr T 0 m_read 121 f_read], [zO11 mo m_all m_has i_size i_next i_where i_token i_number i_word i_wrong i_farCrossing m_read i_z0 i_crossings i_inns m_posts m_shut m_here i_steps i_done i_at i_gone m_was m_came m_seenAt m_rowWorth m_farBy m_used i_everywhere i_again0 i_d0 i_never i_firstCame i_longRun i_moved i_crowd i_l0 i_fitMany i_fitLeast i_fitMost m_fitPost m_fitEnd m_keptPosts i_x0], [zAr T 0 m_all 3952 g_all_49]] _ _ := G
    have h_51 : g_all_49 = (if ¬ i_wrong.toInt = 0 ∨ (¬ (f_all 5).toInt = 0 ∧ ((f_all 6).toInt < at_.toInt ∨ ((f_all 6).toInt = at_.toInt ∧ (f_all 5).toInt ≤ (3 : Int)))) then f_all else upd (upd f_all 5 3) 6 at_) := h_51
    obtain ⟨b, hbq⟩ : ∃ b, b = pDB 7 at_ f_read a := ⟨_, rfl⟩
    have hAb : zRr k n i_size i_next i_where i_token i_number i_word i_wrong i_farCrossing g_all_49 b := by rw [hbq]; unfold pDB; rw [if_pos (by omega)]; exact zRr_also (kd := 3) (w := at_) hA h_51
    have G := G.sub (bs' := [[zO11 mo m_all m_has i_size i_next i_where i_token i_number i_word i_wrong i_farCrossing m_read i_z0 i_crossings i_inns m_posts m_shut m_here i_steps i_done i_at i_gone m_was m_came m_seenAt m_rowWorth m_farBy m_used i_everywhere i_again0 i_d0 i_never i_firstCame i_longRun i_moved i_crowd i_l0 i_fitMany i_fitLeast i_fitMost m_fitPost m_fitEnd m_keptPosts i_x0], [zAr T 0 m_all 3952 g_all_49], [zAr T 0 m_read 121 f_read]]) [1, 2, 0] rfl
    exact jn_17 g_all_49 b (show b = pDB 7 at_ f_read a ∧ zRr k n i_size i_next i_where i_token i_number i_word i_wrong i_farCrossing g_all_49 b ∧ zPal f_all g_all_49 from ⟨hbq, hAb, h_50⟩) _ _ ls G (lv_sub hl [0, 1] rfl)
set_option maxHeartbeats 4000000 in
set_option maxRecDepth 100000 in
/-- c_fm_landLine -/
theorem c_fm_landLine (l : Launch) (T : zTy) (mo : Nat) (m_all : Nat) (m_has : Nat) (i_size : Int32) (i_next : Int32) (i_where : Int32) (i_token : Int32) (i_number : Int32) (i_word : Int32) (i_wrong : Int32) (i_farCrossing : Int32) (m_read : Nat) (i_z0 : Int32) (i_crossings : Int32) (i_inns : Int32) (m_posts : Nat) (m_shut : Nat) (m_here : Nat) (i_steps : Int32) (i_done : Int32) (i_at : Int32) (i_gone : Int32) (m_was : Nat) (m_came : Nat) (m_seenAt : Nat) (m_rowWorth : Nat) (m_farBy : Nat) (m_used : Nat) (i_everywhere : Int32) (i_again0 : Int32) (i_d0 : Int32) (i_never : Int32) (i_firstCame : Int32) (i_longRun : Int32) (i_moved : Int32) (i_crowd : Int32) (i_l0 : Int32) (i_fitMany : Int32) (i_fitLeast : Int32) (i_fitMost : Int32) (m_fitPost : Nat) (m_fitEnd : Nat) (m_keptPosts : Nat) (i_x0 : Int32) (f_all : Nat → Int32) (f_read : Nat → Int32) (k : pT) (n : Nat) (a : pS) (hsz : i_size.toInt ≤ 600) (hn0 : 0 ≤ i_next.toInt) (hns : i_next.toInt ≤ i_size.toInt) (hR : zLF f_read) (hA : zRr k n i_size i_next i_where i_token i_number i_word i_wrong i_farCrossing f_all a) (hw : a.2.1.toInt = 0) : zMv l T yX12_landLine cX12_landLine 4 8 0 0 [.ref mo] [[zO11 mo m_all m_has i_size i_next i_where i_token i_number i_word i_wrong i_farCrossing m_read i_z0 i_crossings i_inns m_posts m_shut m_here i_steps i_done i_at i_gone m_was m_came m_seenAt m_rowWorth m_farBy m_used i_everywhere i_again0 i_d0 i_never i_firstCame i_longRun i_moved i_crowd i_l0 i_fitMany i_fitLeast i_fitMost m_fitPost m_fitEnd m_keptPosts i_x0], [zAr T 0 m_all 3952 f_all], [zAr T 0 m_read 121 f_read]] (fun bs => ∃ (j_next : Int32) (j_where : Int32) (j_token : Int32) (j_number : Int32) (j_word : Int32) (j_wrong : Int32) (j_farCrossing : Int32) (g_all : Nat → Int32) (g_read : Nat → Int32), bs = [[zO11 mo m_all m_has i_size j_next j_where j_token j_number j_word j_wrong j_farCrossing m_read i_z0 i_crossings i_inns m_posts m_shut m_here i_steps i_done i_at i_gone m_was m_came m_seenAt m_rowWorth m_farBy m_used i_everywhere i_again0 i_d0 i_never i_firstCame i_longRun i_moved i_crowd i_l0 i_fitMany i_fitLeast i_fitMost m_fitPost m_fitEnd m_keptPosts i_x0], [zAr T 0 m_all 3952 g_all], [zAr T 0 m_read 121 g_read]] ∧ 0 ≤ j_next.toInt ∧ j_next.toInt ≤ i_size.toInt ∧ i_next.toInt ≤ j_next.toInt ∧ (¬ j_wrong.toInt = 0 ∨ i_next.toInt < j_next.toInt ∨ j_token.toInt = 0) ∧ zPal f_all g_all ∧ zLF g_read ∧ zRr k n i_size j_next j_where j_token j_number j_word j_wrong j_farCrossing g_all (pLand k a f_read).1 ∧ g_read = (pLand k a f_read).2) := by
  refine zMv_of (own := RX12) (by decide) rfl (Nat.le_of_ble_eq_true rfl) ?_
  intro p e s m args below meth c A ls C hr hlocks hnm hAe G hl
  refine zHide (fun Qz_ hQz_ => ?_)
  have hx := C.1
  have hb := C.2.1
  have hl : lv_has ls 4 [(0, .ref mo)] := hl
  have hok := zRr_ok hA
  refine zAn6 (id hA) ?_
  intro hA1 hA6 hA7 hA8 hA9 hA10
  replace hA7 : zHd _ := hA7
  have hka : zHd _ := hok a.1 hA1.2.2.2.2
  have hkb := hka.1
  have hkc := hka.2.1
  have hT4 := pTk_le hok hA1.2.2.2.2
  refine zAn5 (hA7 hw) ?_
  intro t1 t2 t3 t4 t5
  replace t4 : zHd _ := t4
  replace t5 : zHd _ := t5
  have t3i : i_token.toInt = (pTk k a.1 : Int) := by rw [t3]; exact nI_toInt (by omega)
  refine lv_aload_n hx hb dX12_landLine_0 rfl (lv_at hl 0 rfl) ?_
  refine z_get C G clX12 0 rfl 4 (by decide) m_fl_RX12_77 rfl dX12_landLine_1 ?_
  refine lv_istore_n (lv' := [(1, .int i_where), (0, .ref mo)]) hx hb dX12_landLine_4 rfl hl (by decide) (zLvf_h rfl) (fun ls hl => ?_)
  refine lv_aload_n hx hb dX12_landLine_5 rfl (lv_at hl 1 rfl) ?_
  refine lv_iconst (v := 1) hx hb dX12_landLine_6 (by decide) ?_
  refine lv_iconst (v := 4) hx hb dX12_landLine_7 (by decide) ?_
  refine z_Vi (bc := [[zO11 mo m_all m_has i_size i_next i_where i_token i_number i_word i_wrong i_farCrossing m_read i_z0 i_crossings i_inns m_posts m_shut m_here i_steps i_done i_at i_gone m_was m_came m_seenAt m_rowWorth m_farBy m_used i_everywhere i_again0 i_d0 i_never i_firstCame i_longRun i_moved i_crowd i_l0 i_fitMany i_fitLeast i_fitMost m_fitPost m_fitEnd m_keptPosts i_x0], [zAr T 0 m_all 3952 f_all]]) (br := [[zAr T 0 m_read 121 f_read]]) (As := [.int 1, .int 4]) (rest := []) C G (c_fm_wordIn l T mo m_all m_has i_size i_next i_where i_token i_number i_word i_wrong i_farCrossing m_read i_z0 i_crossings i_inns m_posts m_shut m_here i_steps i_done i_at i_gone m_was m_came m_seenAt m_rowWorth m_farBy m_used i_everywhere i_again0 i_d0 i_never i_firstCame i_longRun i_moved i_crowd i_l0 i_fitMany i_fitLeast i_fitMost m_fitPost m_fitEnd m_keptPosts i_x0 f_all k n a 1 4 1 4 (by first | with_reducible assumption | with_reducible rfl | omega | assumption | rfl) (by first | with_reducible assumption | with_reducible rfl | omega | assumption | rfl) (by first | with_reducible assumption | with_reducible rfl | omega | assumption | rfl) hA rfl rfl) (kV_RX12_133 C.2.2.2.2 (Nat.le_of_ble_eq_true rfl) (Nat.le_of_ble_eq_true rfl)) [0, 1] [0, 0] rfl rfl (ci := 11) (qc := (RX12, TX12, 43)) rfl rfl (List.mem_flatten.mpr ⟨_, List.mem_of_getElem? (i := 0) rfl, List.mem_cons_self⟩) rfl rfl hl.1 dX12_landLine_8 (Nat.le_of_ble_eq_true rfl) (Nat.le_of_ble_eq_true rfl) (fun r_16 b1 H locs hw G => ?_)
  refine zEx7 hw ?_
  intro j_next_1 j_where_2 j_token_3 j_number_4 j_word_5 j_wrong_6 g_all_7
  refine zCu9 ?_
  intro hbs9 h_8 h_9 h_10 h_11 h_12 h_13 h_14 h_15
  clear hw
  subst hbs9
  have G : zS T A s.heap s [[zAr T 0 m_read 121 f_read], [zO11 mo m_all m_has i_size j_next_1 j_where_2 j_token_3 j_number_4 j_word_5 j_wrong_6 i_farCrossing m_read i_z0 i_crossings i_inns m_posts m_shut m_here i_steps i_done i_at i_gone m_was m_came m_seenAt m_rowWorth m_farBy m_used i_everywhere i_again0 i_d0 i_never i_firstCame i_longRun i_moved i_crowd i_l0 i_fitMany i_fitLeast i_fitMost m_fitPost m_fitEnd m_keptPosts i_x0], [zAr T 0 m_all 3952 g_all_7]] _ _ := G
  have h_13 : (r_16.toInt = 0 ∨ (1 : Int) ≤ r_16.toInt ∧ r_16.toInt ≤ (4 : Int)) := h_13
  obtain ⟨d1, d2, hd⟩ : ∃ (d1 : Nat) (d2 : pS), pWord k 1 4 a = (d1, d2) := ⟨_, _, rfl⟩
  have hRd : zRr k n i_size j_next_1 j_where_2 j_token_3 j_number_4 j_word_5 j_wrong_6 i_farCrossing g_all_7 d2 := by have q9 := h_14; rw [hd] at q9; exact q9
  have hvd : r_16 = nI d1 := by have q9 := h_15; rw [hd] at q9; exact q9
  have hokD := zRr_ok hRd
  refine zAn6 (id hRd) ?_
  intro hA1D hA6D hA7D hA8D hA9D hA10D
  replace hA7D : zHd _ := hA7D
  have hkaD : zHd _ := hokD d2.1 hA1D.2.2.2.2
  have hkbD := hkaD.1
  have hkcD := hkaD.2.1
  have hT4D := pTk_le hokD hA1D.2.2.2.2
  have hdr : d2.2.1.toInt = 0 → 1 ≤ d1 ∧ d1 ≤ 4 := fun q9 => by have q8 := pWord_r (k := k) (lo := 1) (hi := 4) (a := a) (by rw [hd]; exact q9); have q6 := q8.2.2.2; rw [hd] at q6; have q7 : d1 = pWd k a.1 := congrArg Prod.fst q6; omega
  have hd4 : d1 ≤ 4 := by have q9 := pWord_1 k 1 4 a; rw [hd] at q9; exact q9
  have hdi : (r_16).toInt = (d1 : Int) := by rw [hvd]; exact nI_toInt (by omega)
  refine lv_istore_n (lv' := [(2, .int r_16), (1, .int i_where), (0, .ref mo)]) hx hb dX12_landLine_11 rfl hl (by decide) (zLvf_h rfl) (fun ls hl => ?_)
  refine lv_aload_n hx hb dX12_landLine_12 rfl (lv_at hl 2 rfl) ?_
  refine z_get C G clX12 1 rfl 8 (by decide) m_fl_RX12_104 rfl dX12_landLine_13 ?_
  refine lv_if_eq (tgt := 23) hx hb dX12_landLine_16 (by decide) (fun c_17 => ?_) (fun c_17 => ?_)
  · have c_17n : j_wrong_6.toInt = (0 : Int) := (fa_eq _ _).mp c_17
    have hwD : d2.2.1.toInt = 0 := by rw [← hA6D]; omega
    refine lv_iload_n hx hb dX12_landLine_23 rfl (lv_at hl 0 rfl) ?_
    by_cases c_18o : r_16.toInt < 1 ∨ 4 < r_16.toInt
    · refine lv_tableOut (tgt := 129) hx hb dX12_landLine_24 c_18o (by decide) ?_
      refine lv_aload_n hx hb dX12_landLine_129 rfl (lv_at hl 2 rfl) ?_
      refine z_Vv (bc := [[zO11 mo m_all m_has i_size j_next_1 j_where_2 j_token_3 j_number_4 j_word_5 j_wrong_6 i_farCrossing m_read i_z0 i_crossings i_inns m_posts m_shut m_here i_steps i_done i_at i_gone m_was m_came m_seenAt m_rowWorth m_farBy m_used i_everywhere i_again0 i_d0 i_never i_firstCame i_longRun i_moved i_crowd i_l0 i_fitMany i_fitLeast i_fitMost m_fitPost m_fitEnd m_keptPosts i_x0], [zAr T 0 m_all 3952 g_all_7]]) (br := [[zAr T 0 m_read 121 f_read]]) (As := []) (rest := []) C G (c_fm_endsLine l T mo m_all m_has i_size j_next_1 j_where_2 j_token_3 j_number_4 j_word_5 j_wrong_6 i_farCrossing m_read i_z0 i_crossings i_inns m_posts m_shut m_here i_steps i_done i_at i_gone m_was m_came m_seenAt m_rowWorth m_farBy m_used i_everywhere i_again0 i_d0 i_never i_firstCame i_longRun i_moved i_crowd i_l0 i_fitMany i_fitLeast i_fitMost m_fitPost m_fitEnd m_keptPosts i_x0 g_all_7 k n d2 (by first | with_reducible assumption | with_reducible rfl | omega | assumption | rfl) (by first | with_reducible assumption | with_reducible rfl | omega | assumption | rfl) (by first | with_reducible assumption | with_reducible rfl | omega | assumption | rfl) hRd) (kV_RX12_140 C.2.2.2.2 (Nat.le_of_ble_eq_true rfl) (Nat.le_of_ble_eq_true rfl)) [1, 2] [1, 0] rfl rfl (ci := 11) (qc := (RX12, TX12, 43)) rfl rfl (List.mem_flatten.mpr ⟨_, List.mem_of_getElem? (i := 0) rfl, List.mem_cons_self⟩) rfl rfl hl.1 dX12_landLine_130 (Nat.le_of_ble_eq_true rfl) (Nat.le_of_ble_eq_true rfl) (fun b1 H locs hw G => ?_)
      refine zEx7 hw ?_
      intro j_next_19 j_where_20 j_token_21 j_number_22 j_word_23 j_wrong_24 g_all_25
      refine zCu7 ?_
      intro hbs9 h_26 h_27 h_28 h_29 h_30 h_31
      clear hw
      subst hbs9
      have G : zS T A s.heap s [[zAr T 0 m_read 121 f_read], [zO11 mo m_all m_has i_size j_next_19 j_where_20 j_token_21 j_number_22 j_word_23 j_wrong_24 i_farCrossing m_read i_z0 i_crossings i_inns m_posts m_shut m_here i_steps i_done i_at i_gone m_was m_came m_seenAt m_rowWorth m_farBy m_used i_everywhere i_again0 i_d0 i_never i_firstCame i_longRun i_moved i_crowd i_l0 i_fitMany i_fitLeast i_fitMost m_fitPost m_fitEnd m_keptPosts i_x0], [zAr T 0 m_all 3952 g_all_25]] _ _ := G
      have G := G.sub (bs' := [[zO11 mo m_all m_has i_size j_next_19 j_where_20 j_token_21 j_number_22 j_word_23 j_wrong_24 i_farCrossing m_read i_z0 i_crossings i_inns m_posts m_shut m_here i_steps i_done i_at i_gone m_was m_came m_seenAt m_rowWorth m_farBy m_used i_everywhere i_again0 i_d0 i_never i_firstCame i_longRun i_moved i_crowd i_l0 i_fitMany i_fitLeast i_fitMost m_fitPost m_fitEnd m_keptPosts i_x0], [zAr T 0 m_all 3952 g_all_25], [zAr T 0 m_read 121 f_read]]) [1, 2, 0] rfl
      exact z_back hQz_ (z_vret C hr hlocks G (Nat.le_of_ble_eq_true rfl) (Nat.le_of_ble_eq_true rfl) dX12_landLine_133 ⟨j_next_19, j_where_20, j_token_21, j_number_22, j_word_23, j_wrong_24, i_farCrossing, g_all_25, f_read, rfl, (by first | with_reducible assumption | omega | trivial | assumption), (by first | with_reducible assumption | omega | trivial | assumption), (by first | with_reducible assumption | omega | trivial | assumption), (by first | with_reducible assumption | omega | trivial | assumption), (h_12.tr h_30), (by first | with_reducible assumption | assumption), (by rw [pLand_w hd (by first | (exact fun z9 => by have := hdr z9; omega) | (rw [← hA6D]; omega))]; exact h_31), (by rw [pLand_w hd (by first | (exact fun z9 => by have := hdr z9; omega) | (rw [← hA6D]; omega))])⟩)
    · have c_18r : r_16.toInt = 1 ∨ r_16.toInt = 2 ∨ r_16.toInt = 3 ∨ r_16.toInt = 4 := by omega
      rcases c_18r with c_18 | c_18 | c_18 | c_18
      · refine lv_tableIn (tgt := 56) hx hb dX12_landLine_24 (by first | (rw [c_18]; decide) | omega) (by first | (rw [c_18]; decide) | omega) (by rw [c_18]; rfl) (by decide) ?_
        refine lv_aload_n hx hb dX12_landLine_56 rfl (lv_at hl 2 rfl) ?_
        refine lv_iload_n hx hb dX12_landLine_57 rfl (lv_at hl 1 rfl) ?_
        refine z_Vv (bc := [[zO11 mo m_all m_has i_size j_next_1 j_where_2 j_token_3 j_number_4 j_word_5 j_wrong_6 i_farCrossing m_read i_z0 i_crossings i_inns m_posts m_shut m_here i_steps i_done i_at i_gone m_was m_came m_seenAt m_rowWorth m_farBy m_used i_everywhere i_again0 i_d0 i_never i_firstCame i_longRun i_moved i_crowd i_l0 i_fitMany i_fitLeast i_fitMost m_fitPost m_fitEnd m_keptPosts i_x0], [zAr T 0 m_all 3952 g_all_7], [zAr T 0 m_read 121 f_read]]) (br := []) (As := [.int i_where]) (rest := []) C G (c_fm_crossTold l T mo m_all m_has i_size j_next_1 j_where_2 j_token_3 j_number_4 j_word_5 j_wrong_6 i_farCrossing m_read i_z0 i_crossings i_inns m_posts m_shut m_here i_steps i_done i_at i_gone m_was m_came m_seenAt m_rowWorth m_farBy m_used i_everywhere i_again0 i_d0 i_never i_firstCame i_longRun i_moved i_crowd i_l0 i_fitMany i_fitLeast i_fitMost m_fitPost m_fitEnd m_keptPosts i_x0 g_all_7 f_read k n d2 i_where (by first | with_reducible assumption | with_reducible rfl | omega | assumption | rfl) (by first | with_reducible assumption | with_reducible rfl | omega | assumption | rfl) (by first | with_reducible assumption | with_reducible rfl | omega | assumption | rfl) hR hRd) (kV_RX12_136 C.2.2.2.2 (Nat.le_of_ble_eq_true rfl) (Nat.le_of_ble_eq_true rfl)) [1, 2, 0] [0, 0, 0] rfl rfl (ci := 11) (qc := (RX12, TX12, 43)) rfl rfl (List.mem_flatten.mpr ⟨_, List.mem_of_getElem? (i := 0) rfl, List.mem_cons_self⟩) rfl rfl hl.1 dX12_landLine_58 (Nat.le_of_ble_eq_true rfl) (Nat.le_of_ble_eq_true rfl) (fun b1 H locs hw G => ?_)
        refine zEx9 hw ?_
        intro j_next_33 j_where_34 j_token_35 j_number_36 j_word_37 j_wrong_38 j_farCrossing_39 g_all_40 g_read_41
        refine zCu8 ?_
        intro hbs9 h_42 h_43 h_44 h_45 h_46 h_47 h_48
        clear hw
        subst hbs9
        have G : zS T A s.heap s [[zO11 mo m_all m_has i_size j_next_33 j_where_34 j_token_35 j_number_36 j_word_37 j_wrong_38 j_farCrossing_39 m_read i_z0 i_crossings i_inns m_posts m_shut m_here i_steps i_done i_at i_gone m_was m_came m_seenAt m_rowWorth m_farBy m_used i_everywhere i_again0 i_d0 i_never i_firstCame i_longRun i_moved i_crowd i_l0 i_fitMany i_fitLeast i_fitMost m_fitPost m_fitEnd m_keptPosts i_x0], [zAr T 0 m_all 3952 g_all_40], [zAr T 0 m_read 121 g_read_41]] _ _ := G
        refine lv_goto (tgt := 129) hx hb dX12_landLine_61 (by decide) ?_
        refine lv_aload_n hx hb dX12_landLine_129 rfl (lv_at hl 2 rfl) ?_
        refine z_Vv (bc := [[zO11 mo m_all m_has i_size j_next_33 j_where_34 j_token_35 j_number_36 j_word_37 j_wrong_38 j_farCrossing_39 m_read i_z0 i_crossings i_inns m_posts m_shut m_here i_steps i_done i_at i_gone m_was m_came m_seenAt m_rowWorth m_farBy m_used i_everywhere i_again0 i_d0 i_never i_firstCame i_longRun i_moved i_crowd i_l0 i_fitMany i_fitLeast i_fitMost m_fitPost m_fitEnd m_keptPosts i_x0], [zAr T 0 m_all 3952 g_all_40]]) (br := [[zAr T 0 m_read 121 g_read_41]]) (As := []) (rest := []) C G (c_fm_endsLine l T mo m_all m_has i_size j_next_33 j_where_34 j_token_35 j_number_36 j_word_37 j_wrong_38 j_farCrossing_39 m_read i_z0 i_crossings i_inns m_posts m_shut m_here i_steps i_done i_at i_gone m_was m_came m_seenAt m_rowWorth m_farBy m_used i_everywhere i_again0 i_d0 i_never i_firstCame i_longRun i_moved i_crowd i_l0 i_fitMany i_fitLeast i_fitMost m_fitPost m_fitEnd m_keptPosts i_x0 g_all_40 k n ((pCross k i_where d2 f_read).1) (by first | with_reducible assumption | with_reducible rfl | omega | assumption | rfl) (by first | with_reducible assumption | with_reducible rfl | omega | assumption | rfl) (by first | with_reducible assumption | with_reducible rfl | omega | assumption | rfl) h_47) (kV_RX12_140 C.2.2.2.2 (Nat.le_of_ble_eq_true rfl) (Nat.le_of_ble_eq_true rfl)) [0, 1] [0, 0] rfl rfl (ci := 11) (qc := (RX12, TX12, 43)) rfl rfl (List.mem_flatten.mpr ⟨_, List.mem_of_getElem? (i := 0) rfl, List.mem_cons_self⟩) rfl rfl hl.1 dX12_landLine_130 (Nat.le_of_ble_eq_true rfl) (Nat.le_of_ble_eq_true rfl) (fun b1 H locs hw G => ?_)
        refine zEx7 hw ?_
        intro j_next_50 j_where_51 j_token_52 j_number_53 j_word_54 j_wrong_55 g_all_56
        refine zCu7 ?_
        intro hbs9 h_57 h_58 h_59 h_60 h_61 h_62
        clear hw
        subst hbs9
        have G : zS T A s.heap s [[zAr T 0 m_read 121 g_read_41], [zO11 mo m_all m_has i_size j_next_50 j_where_51 j_token_52 j_number_53 j_word_54 j_wrong_55 j_farCrossing_39 m_read i_z0 i_crossings i_inns m_posts m_shut m_here i_steps i_done i_at i_gone m_was m_came m_seenAt m_rowWorth m_farBy m_used i_everywhere i_again0 i_d0 i_never i_firstCame i_longRun i_moved i_crowd i_l0 i_fitMany i_fitLeast i_fitMost m_fitPost m_fitEnd m_keptPosts i_x0], [zAr T 0 m_all 3952 g_all_56]] _ _ := G
        have G := G.sub (bs' := [[zO11 mo m_all m_has i_size j_next_50 j_where_51 j_token_52 j_number_53 j_word_54 j_wrong_55 j_farCrossing_39 m_read i_z0 i_crossings i_inns m_posts m_shut m_here i_steps i_done i_at i_gone m_was m_came m_seenAt m_rowWorth m_farBy m_used i_everywhere i_again0 i_d0 i_never i_firstCame i_longRun i_moved i_crowd i_l0 i_fitMany i_fitLeast i_fitMost m_fitPost m_fitEnd m_keptPosts i_x0], [zAr T 0 m_all 3952 g_all_56], [zAr T 0 m_read 121 g_read_41]]) [1, 2, 0] rfl
        exact z_back hQz_ (z_vret C hr hlocks G (Nat.le_of_ble_eq_true rfl) (Nat.le_of_ble_eq_true rfl) dX12_landLine_133 ⟨j_next_50, j_where_51, j_token_52, j_number_53, j_word_54, j_wrong_55, j_farCrossing_39, g_all_56, g_read_41, rfl, (by first | with_reducible assumption | omega | trivial | assumption), (by first | with_reducible assumption | omega | trivial | assumption), (by first | with_reducible assumption | omega | trivial | assumption), (by first | with_reducible assumption | omega | trivial | assumption), (h_12.tr (h_45.tr h_61)), h_46, (by rw [pLand_c hd hwD (by omega), ← t2]; exact h_62), (by rw [pLand_c hd hwD (by omega), ← t2]; exact h_48)⟩)
      · refine lv_tableIn (tgt := 64) hx hb dX12_landLine_24 (by first | (rw [c_18]; decide) | omega) (by first | (rw [c_18]; decide) | omega) (by rw [c_18]; rfl) (by decide) ?_
        refine lv_aload_n hx hb dX12_landLine_64 rfl (lv_at hl 2 rfl) ?_
        refine z_Vi (bc := [[zO11 mo m_all m_has i_size j_next_1 j_where_2 j_token_3 j_number_4 j_word_5 j_wrong_6 i_farCrossing m_read i_z0 i_crossings i_inns m_posts m_shut m_here i_steps i_done i_at i_gone m_was m_came m_seenAt m_rowWorth m_farBy m_used i_everywhere i_again0 i_d0 i_never i_firstCame i_longRun i_moved i_crowd i_l0 i_fitMany i_fitLeast i_fitMost m_fitPost m_fitEnd m_keptPosts i_x0], [zAr T 0 m_all 3952 g_all_7]]) (br := [[zAr T 0 m_read 121 f_read]]) (As := []) (rest := []) C G (c_fm_crossingTold l T mo m_all m_has i_size j_next_1 j_where_2 j_token_3 j_number_4 j_word_5 j_wrong_6 i_farCrossing m_read i_z0 i_crossings i_inns m_posts m_shut m_here i_steps i_done i_at i_gone m_was m_came m_seenAt m_rowWorth m_farBy m_used i_everywhere i_again0 i_d0 i_never i_firstCame i_longRun i_moved i_crowd i_l0 i_fitMany i_fitLeast i_fitMost m_fitPost m_fitEnd m_keptPosts i_x0 g_all_7 k n d2 (by first | with_reducible assumption | with_reducible rfl | omega | assumption | rfl) (by first | with_reducible assumption | with_reducible rfl | omega | assumption | rfl) (by first | with_reducible assumption | with_reducible rfl | omega | assumption | rfl) hRd) (kV_RX12_129 C.2.2.2.2 (Nat.le_of_ble_eq_true rfl) (Nat.le_of_ble_eq_true rfl)) [1, 2] [1, 0] rfl rfl (ci := 11) (qc := (RX12, TX12, 43)) rfl rfl (List.mem_flatten.mpr ⟨_, List.mem_of_getElem? (i := 0) rfl, List.mem_cons_self⟩) rfl rfl hl.1 dX12_landLine_65 (Nat.le_of_ble_eq_true rfl) (Nat.le_of_ble_eq_true rfl) (fun r_81 b1 H locs hw G => ?_)
        refine zEx8 hw ?_
        intro j_next_64 j_where_65 j_token_66 j_number_67 j_word_68 j_wrong_69 j_farCrossing_70 g_all_71
        refine zCu10 ?_
        intro hbs9 h_72 h_73 h_74 h_75 h_76 h_77 h_78 h_79 h_80
        clear hw
        subst hbs9
        have G : zS T A s.heap s [[zAr T 0 m_read 121 f_read], [zO11 mo m_all m_has i_size j_next_64 j_where_65 j_token_66 j_number_67 j_word_68 j_wrong_69 j_farCrossing_70 m_read i_z0 i_crossings i_inns m_posts m_shut m_here i_steps i_done i_at i_gone m_was m_came m_seenAt m_rowWorth m_farBy m_used i_everywhere i_again0 i_d0 i_never i_firstCame i_longRun i_moved i_crowd i_l0 i_fitMany i_fitLeast i_fitMost m_fitPost m_fitEnd m_keptPosts i_x0], [zAr T 0 m_all 3952 g_all_71]] _ _ := G
        refine lv_istore_n (lv' := [(3, .int r_81), (2, .int r_16), (1, .int i_where), (0, .ref mo)]) hx hb dX12_landLine_68 rfl hl (by decide) (zLvf_h rfl) (fun ls hl => ?_)
        refine lv_aload_n hx hb dX12_landLine_69 rfl (lv_at hl 3 rfl) ?_
        refine z_get C G clX12 1 rfl 10 (by decide) m_fl_RX12_17 rfl dX12_landLine_70 ?_
        refine lv_bipush (v := 9) hx hb dX12_landLine_73 (by decide) ?_
        refine lv_iload_n hx hb dX12_landLine_75 rfl (lv_at hl 0 rfl) ?_
        refine lv_iadd hx hb dX12_landLine_76 ?_
        refine lv_topi (fun y_82 ey_82 => ?_)
        have ey_82i : y_82.toInt = (9 : Int) + r_81.toInt := by rw [ey_82]; exact z_iaddI (x := (9 : Int32)) (y := r_81) (by show -2147483648 ≤ (9 : Int) + r_81.toInt; omega) (by show (9 : Int) + r_81.toInt < 2147483648; omega)
        refine lv_aload_n hx hb dX12_landLine_77 rfl (lv_at hl 3 rfl) ?_
        refine lv_iconst (v := 0) hx hb dX12_landLine_78 (by decide) ?_
        refine lv_iconst (v := 3) hx hb dX12_landLine_79 (by decide) ?_
        refine z_Vi (bc := [[zO11 mo m_all m_has i_size j_next_64 j_where_65 j_token_66 j_number_67 j_word_68 j_wrong_69 j_farCrossing_70 m_read i_z0 i_crossings i_inns m_posts m_shut m_here i_steps i_done i_at i_gone m_was m_came m_seenAt m_rowWorth m_farBy m_used i_everywhere i_again0 i_d0 i_never i_firstCame i_longRun i_moved i_crowd i_l0 i_fitMany i_fitLeast i_fitMost m_fitPost m_fitEnd m_keptPosts i_x0], [zAr T 0 m_all 3952 g_all_71]]) (br := [[zAr T 0 m_read 121 f_read]]) (As := [.int 0, .int 3]) (rest := [.int y_82, .ref m_read]) C G (c_fm_numbered l T mo m_all m_has i_size j_next_64 j_where_65 j_token_66 j_number_67 j_word_68 j_wrong_69 j_farCrossing_70 m_read i_z0 i_crossings i_inns m_posts m_shut m_here i_steps i_done i_at i_gone m_was m_came m_seenAt m_rowWorth m_farBy m_used i_everywhere i_again0 i_d0 i_never i_firstCame i_longRun i_moved i_crowd i_l0 i_fitMany i_fitLeast i_fitMost m_fitPost m_fitEnd m_keptPosts i_x0 g_all_71 k n ((pCr k d2).2) 0 3 (by first | with_reducible assumption | with_reducible rfl | omega | assumption | rfl) (by first | with_reducible assumption | with_reducible rfl | omega | assumption | rfl) (by first | with_reducible assumption | with_reducible rfl | omega | assumption | rfl) (by decide) h_79) (kV_RX12_122 C.2.2.2.2 (Nat.le_of_ble_eq_true rfl) (Nat.le_of_ble_eq_true rfl)) [1, 2] [1, 0] rfl rfl (ci := 11) (qc := (RX12, TX12, 43)) rfl rfl (List.mem_flatten.mpr ⟨_, List.mem_of_getElem? (i := 0) rfl, List.mem_cons_self⟩) rfl rfl hl.1 dX12_landLine_80 (Nat.le_of_ble_eq_true rfl) (Nat.le_of_ble_eq_true rfl) (fun r_99 b1 H locs hw G => ?_)
        refine zEx7 hw ?_
        intro j_next_83 j_where_84 j_token_85 j_number_86 j_word_87 j_wrong_88 g_all_89
        refine zCu10 ?_
        intro hbs9 h_90 h_91 h_92 h_93 h_94 h_95 h_96 h_97 h_98
        clear hw
        subst hbs9
        have G : zS T A s.heap s [[zAr T 0 m_read 121 f_read], [zO11 mo m_all m_has i_size j_next_83 j_where_84 j_token_85 j_number_86 j_word_87 j_wrong_88 j_farCrossing_70 m_read i_z0 i_crossings i_inns m_posts m_shut m_here i_steps i_done i_at i_gone m_was m_came m_seenAt m_rowWorth m_farBy m_used i_everywhere i_again0 i_d0 i_never i_firstCame i_longRun i_moved i_crowd i_l0 i_fitMany i_fitLeast i_fitMost m_fitPost m_fitEnd m_keptPosts i_x0], [zAr T 0 m_all 3952 g_all_89]] _ _ := G
        have h_95 : (0 : Int) ≤ r_99.toInt := h_95
        have h_96 : r_99.toInt ≤ (3 : Int) := h_96
        refine z_ist C G 0 rfl (vp_in_iff.mpr ⟨by omega, by omega⟩) dX12_landLine_83 (fun H locs G => ?_)
        have G : zS T A s.heap s [[zAr T 0 m_read 121 (upd f_read y_82.toNatClampNeg r_99)], [zO11 mo m_all m_has i_size j_next_83 j_where_84 j_token_85 j_number_86 j_word_87 j_wrong_88 j_farCrossing_70 m_read i_z0 i_crossings i_inns m_posts m_shut m_here i_steps i_done i_at i_gone m_was m_came m_seenAt m_rowWorth m_farBy m_used i_everywhere i_again0 i_d0 i_never i_firstCame i_longRun i_moved i_crowd i_l0 i_fitMany i_fitLeast i_fitMost m_fitPost m_fitEnd m_keptPosts i_x0], [zAr T 0 m_all 3952 g_all_89]] _ _ := G
        refine lv_goto (tgt := 129) hx hb dX12_landLine_84 (by decide) ?_
        refine lv_aload_n hx hb dX12_landLine_129 rfl (lv_at hl 3 rfl) ?_
        refine z_Vv (bc := [[zO11 mo m_all m_has i_size j_next_83 j_where_84 j_token_85 j_number_86 j_word_87 j_wrong_88 j_farCrossing_70 m_read i_z0 i_crossings i_inns m_posts m_shut m_here i_steps i_done i_at i_gone m_was m_came m_seenAt m_rowWorth m_farBy m_used i_everywhere i_again0 i_d0 i_never i_firstCame i_longRun i_moved i_crowd i_l0 i_fitMany i_fitLeast i_fitMost m_fitPost m_fitEnd m_keptPosts i_x0], [zAr T 0 m_all 3952 g_all_89]]) (br := [[zAr T 0 m_read 121 (upd f_read y_82.toNatClampNeg r_99)]]) (As := []) (rest := []) C G (c_fm_endsLine l T mo m_all m_has i_size j_next_83 j_where_84 j_token_85 j_number_86 j_word_87 j_wrong_88 j_farCrossing_70 m_read i_z0 i_crossings i_inns m_posts m_shut m_here i_steps i_done i_at i_gone m_was m_came m_seenAt m_rowWorth m_farBy m_used i_everywhere i_again0 i_d0 i_never i_firstCame i_longRun i_moved i_crowd i_l0 i_fitMany i_fitLeast i_fitMost m_fitPost m_fitEnd m_keptPosts i_x0 g_all_89 k n ((pNum k 0 3 (pCr k d2).2).2) (by first | with_reducible assumption | with_reducible rfl | omega | assumption | rfl) (by first | with_reducible assumption | with_reducible rfl | omega | assumption | rfl) (by first | with_reducible assumption | with_reducible rfl | omega | assumption | rfl) h_97) (kV_RX12_140 C.2.2.2.2 (Nat.le_of_ble_eq_true rfl) (Nat.le_of_ble_eq_true rfl)) [1, 2] [1, 0] rfl rfl (ci := 11) (qc := (RX12, TX12, 43)) rfl rfl (List.mem_flatten.mpr ⟨_, List.mem_of_getElem? (i := 0) rfl, List.mem_cons_self⟩) rfl rfl hl.1 dX12_landLine_130 (Nat.le_of_ble_eq_true rfl) (Nat.le_of_ble_eq_true rfl) (fun b1 H locs hw G => ?_)
        refine zEx7 hw ?_
        intro j_next_100 j_where_101 j_token_102 j_number_103 j_word_104 j_wrong_105 g_all_106
        refine zCu7 ?_
        intro hbs9 h_107 h_108 h_109 h_110 h_111 h_112
        clear hw
        subst hbs9
        have G : zS T A s.heap s [[zAr T 0 m_read 121 (upd f_read y_82.toNatClampNeg r_99)], [zO11 mo m_all m_has i_size j_next_100 j_where_101 j_token_102 j_number_103 j_word_104 j_wrong_105 j_farCrossing_70 m_read i_z0 i_crossings i_inns m_posts m_shut m_here i_steps i_done i_at i_gone m_was m_came m_seenAt m_rowWorth m_farBy m_used i_everywhere i_again0 i_d0 i_never i_firstCame i_longRun i_moved i_crowd i_l0 i_fitMany i_fitLeast i_fitMost m_fitPost m_fitEnd m_keptPosts i_x0], [zAr T 0 m_all 3952 g_all_106]] _ _ := G
        have G := G.sub (bs' := [[zO11 mo m_all m_has i_size j_next_100 j_where_101 j_token_102 j_number_103 j_word_104 j_wrong_105 j_farCrossing_70 m_read i_z0 i_crossings i_inns m_posts m_shut m_here i_steps i_done i_at i_gone m_was m_came m_seenAt m_rowWorth m_farBy m_used i_everywhere i_again0 i_d0 i_never i_firstCame i_longRun i_moved i_crowd i_l0 i_fitMany i_fitLeast i_fitMost m_fitPost m_fitEnd m_keptPosts i_x0], [zAr T 0 m_all 3952 g_all_106], [zAr T 0 m_read 121 (upd f_read y_82.toNatClampNeg r_99)]]) [1, 2, 0] rfl
        exact z_back hQz_ (z_vret C hr hlocks G (Nat.le_of_ble_eq_true rfl) (Nat.le_of_ble_eq_true rfl) dX12_landLine_133 ⟨j_next_100, j_where_101, j_token_102, j_number_103, j_word_104, j_wrong_105, j_farCrossing_70, g_all_106, (upd f_read y_82.toNatClampNeg r_99), rfl, (by first | with_reducible assumption | omega | trivial | assumption), (by first | with_reducible assumption | omega | trivial | assumption), (by first | with_reducible assumption | omega | trivial | assumption), (by first | with_reducible assumption | omega | trivial | assumption), (h_12.tr (h_76.tr (h_94.tr h_111))), (zLF_upd (k := y_82.toNatClampNeg) (v := r_99) (by first | with_reducible assumption | assumption) (by have q9 := z_clI (x := y_82) (by omega); omega) (by have q9 := z_clI (x := y_82) (by omega); omega) (by have q9 := z_clI (x := y_82) (by omega); omega) (by have q9 := z_clI (x := y_82) (by omega); omega) (by have q9 := z_clI (x := y_82) (by omega); omega)), (by rw [pLand_p hd hwD (by omega)]; unfold pPW; rw [show (if d1 = 2 then (3 : Int32) else 9) = 3 from if_pos (by omega)]; exact h_112), (by rw [pLand_p hd hwD (by omega)]; unfold pPW; rw [show (if d1 = 2 then (3 : Int32) else 9) = 3 from if_pos (by omega), show (if d1 = 2 then 9 else 16) = 9 from if_pos (by omega), ← h_80, ← h_98]; exact congrArg (fun q9 => upd f_read q9 r_99) (by have q9 := z_clI (x := y_82) (by omega); omega))⟩)
      · refine lv_tableIn (tgt := 87) hx hb dX12_landLine_24 (by first | (rw [c_18]; decide) | omega) (by first | (rw [c_18]; decide) | omega) (by rw [c_18]; rfl) (by decide) ?_
        refine lv_aload_n hx hb dX12_landLine_87 rfl (lv_at hl 2 rfl) ?_
        refine z_Vi (bc := [[zO11 mo m_all m_has i_size j_next_1 j_where_2 j_token_3 j_number_4 j_word_5 j_wrong_6 i_farCrossing m_read i_z0 i_crossings i_inns m_posts m_shut m_here i_steps i_done i_at i_gone m_was m_came m_seenAt m_rowWorth m_farBy m_used i_everywhere i_again0 i_d0 i_never i_firstCame i_longRun i_moved i_crowd i_l0 i_fitMany i_fitLeast i_fitMost m_fitPost m_fitEnd m_keptPosts i_x0], [zAr T 0 m_all 3952 g_all_7]]) (br := [[zAr T 0 m_read 121 f_read]]) (As := []) (rest := []) C G (c_fm_crossingTold l T mo m_all m_has i_size j_next_1 j_where_2 j_token_3 j_number_4 j_word_5 j_wrong_6 i_farCrossing m_read i_z0 i_crossings i_inns m_posts m_shut m_here i_steps i_done i_at i_gone m_was m_came m_seenAt m_rowWorth m_farBy m_used i_everywhere i_again0 i_d0 i_never i_firstCame i_longRun i_moved i_crowd i_l0 i_fitMany i_fitLeast i_fitMost m_fitPost m_fitEnd m_keptPosts i_x0 g_all_7 k n d2 (by first | with_reducible assumption | with_reducible rfl | omega | assumption | rfl) (by first | with_reducible assumption | with_reducible rfl | omega | assumption | rfl) (by first | with_reducible assumption | with_reducible rfl | omega | assumption | rfl) hRd) (kV_RX12_129 C.2.2.2.2 (Nat.le_of_ble_eq_true rfl) (Nat.le_of_ble_eq_true rfl)) [1, 2] [1, 0] rfl rfl (ci := 11) (qc := (RX12, TX12, 43)) rfl rfl (List.mem_flatten.mpr ⟨_, List.mem_of_getElem? (i := 0) rfl, List.mem_cons_self⟩) rfl rfl hl.1 dX12_landLine_88 (Nat.le_of_ble_eq_true rfl) (Nat.le_of_ble_eq_true rfl) (fun r_131 b1 H locs hw G => ?_)
        refine zEx8 hw ?_
        intro j_next_114 j_where_115 j_token_116 j_number_117 j_word_118 j_wrong_119 j_farCrossing_120 g_all_121
        refine zCu10 ?_
        intro hbs9 h_122 h_123 h_124 h_125 h_126 h_127 h_128 h_129 h_130
        clear hw
        subst hbs9
        have G : zS T A s.heap s [[zAr T 0 m_read 121 f_read], [zO11 mo m_all m_has i_size j_next_114 j_where_115 j_token_116 j_number_117 j_word_118 j_wrong_119 j_farCrossing_120 m_read i_z0 i_crossings i_inns m_posts m_shut m_here i_steps i_done i_at i_gone m_was m_came m_seenAt m_rowWorth m_farBy m_used i_everywhere i_again0 i_d0 i_never i_firstCame i_longRun i_moved i_crowd i_l0 i_fitMany i_fitLeast i_fitMost m_fitPost m_fitEnd m_keptPosts i_x0], [zAr T 0 m_all 3952 g_all_121]] _ _ := G
        refine lv_istore_n (lv' := [(3, .int r_131), (2, .int r_16), (1, .int i_where), (0, .ref mo)]) hx hb dX12_landLine_91 rfl hl (by decide) (zLvf_h rfl) (fun ls hl => ?_)
        refine lv_aload_n hx hb dX12_landLine_92 rfl (lv_at hl 3 rfl) ?_
        refine z_get C G clX12 1 rfl 10 (by decide) m_fl_RX12_17 rfl dX12_landLine_93 ?_
        refine lv_bipush (v := 16) hx hb dX12_landLine_96 (by decide) ?_
        refine lv_iload_n hx hb dX12_landLine_98 rfl (lv_at hl 0 rfl) ?_
        refine lv_iadd hx hb dX12_landLine_99 ?_
        refine lv_topi (fun y_132 ey_132 => ?_)
        have ey_132i : y_132.toInt = (16 : Int) + r_131.toInt := by rw [ey_132]; exact z_iaddI (x := (16 : Int32)) (y := r_131) (by show -2147483648 ≤ (16 : Int) + r_131.toInt; omega) (by show (16 : Int) + r_131.toInt < 2147483648; omega)
        refine lv_aload_n hx hb dX12_landLine_100 rfl (lv_at hl 3 rfl) ?_
        refine lv_iconst (v := 0) hx hb dX12_landLine_101 (by decide) ?_
        refine lv_bipush (v := 9) hx hb dX12_landLine_102 (by decide) ?_
        refine z_Vi (bc := [[zO11 mo m_all m_has i_size j_next_114 j_where_115 j_token_116 j_number_117 j_word_118 j_wrong_119 j_farCrossing_120 m_read i_z0 i_crossings i_inns m_posts m_shut m_here i_steps i_done i_at i_gone m_was m_came m_seenAt m_rowWorth m_farBy m_used i_everywhere i_again0 i_d0 i_never i_firstCame i_longRun i_moved i_crowd i_l0 i_fitMany i_fitLeast i_fitMost m_fitPost m_fitEnd m_keptPosts i_x0], [zAr T 0 m_all 3952 g_all_121]]) (br := [[zAr T 0 m_read 121 f_read]]) (As := [.int 0, .int 9]) (rest := [.int y_132, .ref m_read]) C G (c_fm_numbered l T mo m_all m_has i_size j_next_114 j_where_115 j_token_116 j_number_117 j_word_118 j_wrong_119 j_farCrossing_120 m_read i_z0 i_crossings i_inns m_posts m_shut m_here i_steps i_done i_at i_gone m_was m_came m_seenAt m_rowWorth m_farBy m_used i_everywhere i_again0 i_d0 i_never i_firstCame i_longRun i_moved i_crowd i_l0 i_fitMany i_fitLeast i_fitMost m_fitPost m_fitEnd m_keptPosts i_x0 g_all_121 k n ((pCr k d2).2) 0 9 (by first | with_reducible assumption | with_reducible rfl | omega | assumption | rfl) (by first | with_reducible assumption | with_reducible rfl | omega | assumption | rfl) (by first | with_reducible assumption | with_reducible rfl | omega | assumption | rfl) (by decide) h_129) (kV_RX12_122 C.2.2.2.2 (Nat.le_of_ble_eq_true rfl) (Nat.le_of_ble_eq_true rfl)) [1, 2] [1, 0] rfl rfl (ci := 11) (qc := (RX12, TX12, 43)) rfl rfl (List.mem_flatten.mpr ⟨_, List.mem_of_getElem? (i := 0) rfl, List.mem_cons_self⟩) rfl rfl hl.1 dX12_landLine_104 (Nat.le_of_ble_eq_true rfl) (Nat.le_of_ble_eq_true rfl) (fun r_149 b1 H locs hw G => ?_)
        refine zEx7 hw ?_
        intro j_next_133 j_where_134 j_token_135 j_number_136 j_word_137 j_wrong_138 g_all_139
        refine zCu10 ?_
        intro hbs9 h_140 h_141 h_142 h_143 h_144 h_145 h_146 h_147 h_148
        clear hw
        subst hbs9
        have G : zS T A s.heap s [[zAr T 0 m_read 121 f_read], [zO11 mo m_all m_has i_size j_next_133 j_where_134 j_token_135 j_number_136 j_word_137 j_wrong_138 j_farCrossing_120 m_read i_z0 i_crossings i_inns m_posts m_shut m_here i_steps i_done i_at i_gone m_was m_came m_seenAt m_rowWorth m_farBy m_used i_everywhere i_again0 i_d0 i_never i_firstCame i_longRun i_moved i_crowd i_l0 i_fitMany i_fitLeast i_fitMost m_fitPost m_fitEnd m_keptPosts i_x0], [zAr T 0 m_all 3952 g_all_139]] _ _ := G
        have h_145 : (0 : Int) ≤ r_149.toInt := h_145
        have h_146 : r_149.toInt ≤ (9 : Int) := h_146
        refine z_ist C G 0 rfl (vp_in_iff.mpr ⟨by omega, by omega⟩) dX12_landLine_107 (fun H locs G => ?_)
        have G : zS T A s.heap s [[zAr T 0 m_read 121 (upd f_read y_132.toNatClampNeg r_149)], [zO11 mo m_all m_has i_size j_next_133 j_where_134 j_token_135 j_number_136 j_word_137 j_wrong_138 j_farCrossing_120 m_read i_z0 i_crossings i_inns m_posts m_shut m_here i_steps i_done i_at i_gone m_was m_came m_seenAt m_rowWorth m_farBy m_used i_everywhere i_again0 i_d0 i_never i_firstCame i_longRun i_moved i_crowd i_l0 i_fitMany i_fitLeast i_fitMost m_fitPost m_fitEnd m_keptPosts i_x0], [zAr T 0 m_all 3952 g_all_139]] _ _ := G
        refine lv_goto (tgt := 129) hx hb dX12_landLine_108 (by decide) ?_
        refine lv_aload_n hx hb dX12_landLine_129 rfl (lv_at hl 3 rfl) ?_
        refine z_Vv (bc := [[zO11 mo m_all m_has i_size j_next_133 j_where_134 j_token_135 j_number_136 j_word_137 j_wrong_138 j_farCrossing_120 m_read i_z0 i_crossings i_inns m_posts m_shut m_here i_steps i_done i_at i_gone m_was m_came m_seenAt m_rowWorth m_farBy m_used i_everywhere i_again0 i_d0 i_never i_firstCame i_longRun i_moved i_crowd i_l0 i_fitMany i_fitLeast i_fitMost m_fitPost m_fitEnd m_keptPosts i_x0], [zAr T 0 m_all 3952 g_all_139]]) (br := [[zAr T 0 m_read 121 (upd f_read y_132.toNatClampNeg r_149)]]) (As := []) (rest := []) C G (c_fm_endsLine l T mo m_all m_has i_size j_next_133 j_where_134 j_token_135 j_number_136 j_word_137 j_wrong_138 j_farCrossing_120 m_read i_z0 i_crossings i_inns m_posts m_shut m_here i_steps i_done i_at i_gone m_was m_came m_seenAt m_rowWorth m_farBy m_used i_everywhere i_again0 i_d0 i_never i_firstCame i_longRun i_moved i_crowd i_l0 i_fitMany i_fitLeast i_fitMost m_fitPost m_fitEnd m_keptPosts i_x0 g_all_139 k n ((pNum k 0 9 (pCr k d2).2).2) (by first | with_reducible assumption | with_reducible rfl | omega | assumption | rfl) (by first | with_reducible assumption | with_reducible rfl | omega | assumption | rfl) (by first | with_reducible assumption | with_reducible rfl | omega | assumption | rfl) h_147) (kV_RX12_140 C.2.2.2.2 (Nat.le_of_ble_eq_true rfl) (Nat.le_of_ble_eq_true rfl)) [1, 2] [1, 0] rfl rfl (ci := 11) (qc := (RX12, TX12, 43)) rfl rfl (List.mem_flatten.mpr ⟨_, List.mem_of_getElem? (i := 0) rfl, List.mem_cons_self⟩) rfl rfl hl.1 dX12_landLine_130 (Nat.le_of_ble_eq_true rfl) (Nat.le_of_ble_eq_true rfl) (fun b1 H locs hw G => ?_)
        refine zEx7 hw ?_
        intro j_next_150 j_where_151 j_token_152 j_number_153 j_word_154 j_wrong_155 g_all_156
        refine zCu7 ?_
        intro hbs9 h_157 h_158 h_159 h_160 h_161 h_162
        clear hw
        subst hbs9
        have G : zS T A s.heap s [[zAr T 0 m_read 121 (upd f_read y_132.toNatClampNeg r_149)], [zO11 mo m_all m_has i_size j_next_150 j_where_151 j_token_152 j_number_153 j_word_154 j_wrong_155 j_farCrossing_120 m_read i_z0 i_crossings i_inns m_posts m_shut m_here i_steps i_done i_at i_gone m_was m_came m_seenAt m_rowWorth m_farBy m_used i_everywhere i_again0 i_d0 i_never i_firstCame i_longRun i_moved i_crowd i_l0 i_fitMany i_fitLeast i_fitMost m_fitPost m_fitEnd m_keptPosts i_x0], [zAr T 0 m_all 3952 g_all_156]] _ _ := G
        have G := G.sub (bs' := [[zO11 mo m_all m_has i_size j_next_150 j_where_151 j_token_152 j_number_153 j_word_154 j_wrong_155 j_farCrossing_120 m_read i_z0 i_crossings i_inns m_posts m_shut m_here i_steps i_done i_at i_gone m_was m_came m_seenAt m_rowWorth m_farBy m_used i_everywhere i_again0 i_d0 i_never i_firstCame i_longRun i_moved i_crowd i_l0 i_fitMany i_fitLeast i_fitMost m_fitPost m_fitEnd m_keptPosts i_x0], [zAr T 0 m_all 3952 g_all_156], [zAr T 0 m_read 121 (upd f_read y_132.toNatClampNeg r_149)]]) [1, 2, 0] rfl
        exact z_back hQz_ (z_vret C hr hlocks G (Nat.le_of_ble_eq_true rfl) (Nat.le_of_ble_eq_true rfl) dX12_landLine_133 ⟨j_next_150, j_where_151, j_token_152, j_number_153, j_word_154, j_wrong_155, j_farCrossing_120, g_all_156, (upd f_read y_132.toNatClampNeg r_149), rfl, (by first | with_reducible assumption | omega | trivial | assumption), (by first | with_reducible assumption | omega | trivial | assumption), (by first | with_reducible assumption | omega | trivial | assumption), (by first | with_reducible assumption | omega | trivial | assumption), (h_12.tr (h_126.tr (h_144.tr h_161))), (zLF_upd (k := y_132.toNatClampNeg) (v := r_149) (by first | with_reducible assumption | assumption) (by have q9 := z_clI (x := y_132) (by omega); omega) (by have q9 := z_clI (x := y_132) (by omega); omega) (by have q9 := z_clI (x := y_132) (by omega); omega) (by have q9 := z_clI (x := y_132) (by omega); omega) (by have q9 := z_clI (x := y_132) (by omega); omega)), (by rw [pLand_p hd hwD (by omega)]; unfold pPW; rw [show (if d1 = 2 then (3 : Int32) else 9) = 9 from if_neg (by omega)]; exact h_162), (by rw [pLand_p hd hwD (by omega)]; unfold pPW; rw [show (if d1 = 2 then (3 : Int32) else 9) = 9 from if_neg (by omega), show (if d1 = 2 then 9 else 16) = 16 from if_neg (by omega), ← h_130, ← h_148]; exact congrArg (fun q9 => upd f_read q9 r_149) (by have q9 := z_clI (x := y_132) (by omega); omega))⟩)
      · refine lv_tableIn (tgt := 111) hx hb dX12_landLine_24 (by first | (rw [c_18]; decide) | omega) (by first | (rw [c_18]; decide) | omega) (by rw [c_18]; rfl) (by decide) ?_
        refine lv_aload_n hx hb dX12_landLine_111 rfl (lv_at hl 2 rfl) ?_
        refine z_get C G clX12 1 rfl 10 (by decide) m_fl_RX12_17 rfl dX12_landLine_112 ?_
        refine lv_iconst (v := 1) hx hb dX12_landLine_115 (by decide) ?_
        refine lv_dup2_11 hx hb dX12_landLine_116 rfl rfl ?_
        refine z_ild C G 0 rfl (vp_in_nI (n := 1) (by decide) (by decide)) dX12_landLine_117 ?_
        refine lv_topi (fun v_164 ev_164 => ?_)
        rw [show ((1 : Int32).toNatClampNeg) = 1 from rfl] at ev_164
        subst ev_164
        refine lv_iconst (v := 1) hx hb dX12_landLine_118 (by decide) ?_
        refine lv_aload_n hx hb dX12_landLine_119 rfl (lv_at hl 2 rfl) ?_
        refine z_Vi (bc := [[zO11 mo m_all m_has i_size j_next_1 j_where_2 j_token_3 j_number_4 j_word_5 j_wrong_6 i_farCrossing m_read i_z0 i_crossings i_inns m_posts m_shut m_here i_steps i_done i_at i_gone m_was m_came m_seenAt m_rowWorth m_farBy m_used i_everywhere i_again0 i_d0 i_never i_firstCame i_longRun i_moved i_crowd i_l0 i_fitMany i_fitLeast i_fitMost m_fitPost m_fitEnd m_keptPosts i_x0], [zAr T 0 m_all 3952 g_all_7]]) (br := [[zAr T 0 m_read 121 f_read]]) (As := []) (rest := [.int 1, .int (f_read 1), .int 1, .ref m_read]) C G (c_fm_crossingTold l T mo m_all m_has i_size j_next_1 j_where_2 j_token_3 j_number_4 j_word_5 j_wrong_6 i_farCrossing m_read i_z0 i_crossings i_inns m_posts m_shut m_here i_steps i_done i_at i_gone m_was m_came m_seenAt m_rowWorth m_farBy m_used i_everywhere i_again0 i_d0 i_never i_firstCame i_longRun i_moved i_crowd i_l0 i_fitMany i_fitLeast i_fitMost m_fitPost m_fitEnd m_keptPosts i_x0 g_all_7 k n d2 (by first | with_reducible assumption | with_reducible rfl | omega | assumption | rfl) (by first | with_reducible assumption | with_reducible rfl | omega | assumption | rfl) (by first | with_reducible assumption | with_reducible rfl | omega | assumption | rfl) hRd) (kV_RX12_129 C.2.2.2.2 (Nat.le_of_ble_eq_true rfl) (Nat.le_of_ble_eq_true rfl)) [1, 2] [1, 0] rfl rfl (ci := 11) (qc := (RX12, TX12, 43)) rfl rfl (List.mem_flatten.mpr ⟨_, List.mem_of_getElem? (i := 0) rfl, List.mem_cons_self⟩) rfl rfl hl.1 dX12_landLine_120 (Nat.le_of_ble_eq_true rfl) (Nat.le_of_ble_eq_true rfl) (fun r_182 b1 H locs hw G => ?_)
        refine zEx8 hw ?_
        intro j_next_165 j_where_166 j_token_167 j_number_168 j_word_169 j_wrong_170 j_farCrossing_171 g_all_172
        refine zCu10 ?_
        intro hbs9 h_173 h_174 h_175 h_176 h_177 h_178 h_179 h_180 h_181
        clear hw
        subst hbs9
        have G : zS T A s.heap s [[zAr T 0 m_read 121 f_read], [zO11 mo m_all m_has i_size j_next_165 j_where_166 j_token_167 j_number_168 j_word_169 j_wrong_170 j_farCrossing_171 m_read i_z0 i_crossings i_inns m_posts m_shut m_here i_steps i_done i_at i_gone m_was m_came m_seenAt m_rowWorth m_farBy m_used i_everywhere i_again0 i_d0 i_never i_firstCame i_longRun i_moved i_crowd i_l0 i_fitMany i_fitLeast i_fitMost m_fitPost m_fitEnd m_keptPosts i_x0], [zAr T 0 m_all 3952 g_all_172]] _ _ := G
        refine lv_ishl hx hb dX12_landLine_123 ?_
        refine lv_ior hx hb dX12_landLine_124 ?_
        refine z_ist C G 0 rfl (vp_in_nI (n := 1) (by decide) (by decide)) dX12_landLine_125 (fun H locs G => ?_)
        have G : zS T A s.heap s [[zAr T 0 m_read 121 (upd f_read 1 ((f_read 1) ||| (1 <<< (r_182 &&& 31))))], [zO11 mo m_all m_has i_size j_next_165 j_where_166 j_token_167 j_number_168 j_word_169 j_wrong_170 j_farCrossing_171 m_read i_z0 i_crossings i_inns m_posts m_shut m_here i_steps i_done i_at i_gone m_was m_came m_seenAt m_rowWorth m_farBy m_used i_everywhere i_again0 i_d0 i_never i_firstCame i_longRun i_moved i_crowd i_l0 i_fitMany i_fitLeast i_fitMost m_fitPost m_fitEnd m_keptPosts i_x0], [zAr T 0 m_all 3952 g_all_172]] _ _ := G
        refine lv_goto (tgt := 129) hx hb dX12_landLine_126 (by decide) ?_
        refine lv_aload_n hx hb dX12_landLine_129 rfl (lv_at hl 2 rfl) ?_
        refine z_Vv (bc := [[zO11 mo m_all m_has i_size j_next_165 j_where_166 j_token_167 j_number_168 j_word_169 j_wrong_170 j_farCrossing_171 m_read i_z0 i_crossings i_inns m_posts m_shut m_here i_steps i_done i_at i_gone m_was m_came m_seenAt m_rowWorth m_farBy m_used i_everywhere i_again0 i_d0 i_never i_firstCame i_longRun i_moved i_crowd i_l0 i_fitMany i_fitLeast i_fitMost m_fitPost m_fitEnd m_keptPosts i_x0], [zAr T 0 m_all 3952 g_all_172]]) (br := [[zAr T 0 m_read 121 (upd f_read 1 ((f_read 1) ||| (1 <<< (r_182 &&& 31))))]]) (As := []) (rest := []) C G (c_fm_endsLine l T mo m_all m_has i_size j_next_165 j_where_166 j_token_167 j_number_168 j_word_169 j_wrong_170 j_farCrossing_171 m_read i_z0 i_crossings i_inns m_posts m_shut m_here i_steps i_done i_at i_gone m_was m_came m_seenAt m_rowWorth m_farBy m_used i_everywhere i_again0 i_d0 i_never i_firstCame i_longRun i_moved i_crowd i_l0 i_fitMany i_fitLeast i_fitMost m_fitPost m_fitEnd m_keptPosts i_x0 g_all_172 k n ((pCr k d2).2) (by first | with_reducible assumption | with_reducible rfl | omega | assumption | rfl) (by first | with_reducible assumption | with_reducible rfl | omega | assumption | rfl) (by first | with_reducible assumption | with_reducible rfl | omega | assumption | rfl) h_180) (kV_RX12_140 C.2.2.2.2 (Nat.le_of_ble_eq_true rfl) (Nat.le_of_ble_eq_true rfl)) [1, 2] [1, 0] rfl rfl (ci := 11) (qc := (RX12, TX12, 43)) rfl rfl (List.mem_flatten.mpr ⟨_, List.mem_of_getElem? (i := 0) rfl, List.mem_cons_self⟩) rfl rfl hl.1 dX12_landLine_130 (Nat.le_of_ble_eq_true rfl) (Nat.le_of_ble_eq_true rfl) (fun b1 H locs hw G => ?_)
        refine zEx7 hw ?_
        intro j_next_183 j_where_184 j_token_185 j_number_186 j_word_187 j_wrong_188 g_all_189
        refine zCu7 ?_
        intro hbs9 h_190 h_191 h_192 h_193 h_194 h_195
        clear hw
        subst hbs9
        have G : zS T A s.heap s [[zAr T 0 m_read 121 (upd f_read 1 ((f_read 1) ||| (1 <<< (r_182 &&& 31))))], [zO11 mo m_all m_has i_size j_next_183 j_where_184 j_token_185 j_number_186 j_word_187 j_wrong_188 j_farCrossing_171 m_read i_z0 i_crossings i_inns m_posts m_shut m_here i_steps i_done i_at i_gone m_was m_came m_seenAt m_rowWorth m_farBy m_used i_everywhere i_again0 i_d0 i_never i_firstCame i_longRun i_moved i_crowd i_l0 i_fitMany i_fitLeast i_fitMost m_fitPost m_fitEnd m_keptPosts i_x0], [zAr T 0 m_all 3952 g_all_189]] _ _ := G
        have G := G.sub (bs' := [[zO11 mo m_all m_has i_size j_next_183 j_where_184 j_token_185 j_number_186 j_word_187 j_wrong_188 j_farCrossing_171 m_read i_z0 i_crossings i_inns m_posts m_shut m_here i_steps i_done i_at i_gone m_was m_came m_seenAt m_rowWorth m_farBy m_used i_everywhere i_again0 i_d0 i_never i_firstCame i_longRun i_moved i_crowd i_l0 i_fitMany i_fitLeast i_fitMost m_fitPost m_fitEnd m_keptPosts i_x0], [zAr T 0 m_all 3952 g_all_189], [zAr T 0 m_read 121 (upd f_read 1 ((f_read 1) ||| (1 <<< (r_182 &&& 31))))]]) [1, 2, 0] rfl
        exact z_back hQz_ (z_vret C hr hlocks G (Nat.le_of_ble_eq_true rfl) (Nat.le_of_ble_eq_true rfl) dX12_landLine_133 ⟨j_next_183, j_where_184, j_token_185, j_number_186, j_word_187, j_wrong_188, j_farCrossing_171, g_all_189, (upd f_read 1 ((f_read 1) ||| (1 <<< (r_182 &&& 31)))), rfl, (by first | with_reducible assumption | omega | trivial | assumption), (by first | with_reducible assumption | omega | trivial | assumption), (by first | with_reducible assumption | omega | trivial | assumption), (by first | with_reducible assumption | omega | trivial | assumption), (h_12.tr (h_177.tr h_194)), (zLF_upd (k := 1) (v := ((f_read 1) ||| (1 <<< (r_182 &&& 31)))) (by first | with_reducible assumption | assumption) (by omega) (by omega) (by omega) (by omega) (by omega)), (by rw [pLand_i hd hwD (by omega)]; exact h_195), (by rw [pLand_i hd hwD (by omega)]; unfold pInn; rw [← h_181])⟩)
  · have c_17n : ¬ j_wrong_6.toInt = (0 : Int) := fun q => c_17 ((fa_eq _ _).mpr q)
    refine lv_iconst (v := 0) hx hb dX12_landLine_19 (by decide) ?_
    refine lv_goto (tgt := 24) hx hb dX12_landLine_20 (by decide) ?_
    refine lv_tableOut (tgt := 129) hx hb dX12_landLine_24 (by decide) (by decide) ?_
    refine lv_aload_n hx hb dX12_landLine_129 rfl (lv_at hl 2 rfl) ?_
    refine z_Vv (bc := [[zO11 mo m_all m_has i_size j_next_1 j_where_2 j_token_3 j_number_4 j_word_5 j_wrong_6 i_farCrossing m_read i_z0 i_crossings i_inns m_posts m_shut m_here i_steps i_done i_at i_gone m_was m_came m_seenAt m_rowWorth m_farBy m_used i_everywhere i_again0 i_d0 i_never i_firstCame i_longRun i_moved i_crowd i_l0 i_fitMany i_fitLeast i_fitMost m_fitPost m_fitEnd m_keptPosts i_x0], [zAr T 0 m_all 3952 g_all_7]]) (br := [[zAr T 0 m_read 121 f_read]]) (As := []) (rest := []) C G (c_fm_endsLine l T mo m_all m_has i_size j_next_1 j_where_2 j_token_3 j_number_4 j_word_5 j_wrong_6 i_farCrossing m_read i_z0 i_crossings i_inns m_posts m_shut m_here i_steps i_done i_at i_gone m_was m_came m_seenAt m_rowWorth m_farBy m_used i_everywhere i_again0 i_d0 i_never i_firstCame i_longRun i_moved i_crowd i_l0 i_fitMany i_fitLeast i_fitMost m_fitPost m_fitEnd m_keptPosts i_x0 g_all_7 k n d2 (by first | with_reducible assumption | with_reducible rfl | omega | assumption | rfl) (by first | with_reducible assumption | with_reducible rfl | omega | assumption | rfl) (by first | with_reducible assumption | with_reducible rfl | omega | assumption | rfl) hRd) (kV_RX12_140 C.2.2.2.2 (Nat.le_of_ble_eq_true rfl) (Nat.le_of_ble_eq_true rfl)) [1, 2] [1, 0] rfl rfl (ci := 11) (qc := (RX12, TX12, 43)) rfl rfl (List.mem_flatten.mpr ⟨_, List.mem_of_getElem? (i := 0) rfl, List.mem_cons_self⟩) rfl rfl hl.1 dX12_landLine_130 (Nat.le_of_ble_eq_true rfl) (Nat.le_of_ble_eq_true rfl) (fun b1 H locs hw G => ?_)
    refine zEx7 hw ?_
    intro j_next_197 j_where_198 j_token_199 j_number_200 j_word_201 j_wrong_202 g_all_203
    refine zCu7 ?_
    intro hbs9 h_204 h_205 h_206 h_207 h_208 h_209
    clear hw
    subst hbs9
    have G : zS T A s.heap s [[zAr T 0 m_read 121 f_read], [zO11 mo m_all m_has i_size j_next_197 j_where_198 j_token_199 j_number_200 j_word_201 j_wrong_202 i_farCrossing m_read i_z0 i_crossings i_inns m_posts m_shut m_here i_steps i_done i_at i_gone m_was m_came m_seenAt m_rowWorth m_farBy m_used i_everywhere i_again0 i_d0 i_never i_firstCame i_longRun i_moved i_crowd i_l0 i_fitMany i_fitLeast i_fitMost m_fitPost m_fitEnd m_keptPosts i_x0], [zAr T 0 m_all 3952 g_all_203]] _ _ := G
    have G := G.sub (bs' := [[zO11 mo m_all m_has i_size j_next_197 j_where_198 j_token_199 j_number_200 j_word_201 j_wrong_202 i_farCrossing m_read i_z0 i_crossings i_inns m_posts m_shut m_here i_steps i_done i_at i_gone m_was m_came m_seenAt m_rowWorth m_farBy m_used i_everywhere i_again0 i_d0 i_never i_firstCame i_longRun i_moved i_crowd i_l0 i_fitMany i_fitLeast i_fitMost m_fitPost m_fitEnd m_keptPosts i_x0], [zAr T 0 m_all 3952 g_all_203], [zAr T 0 m_read 121 f_read]]) [1, 2, 0] rfl
    exact z_back hQz_ (z_vret C hr hlocks G (Nat.le_of_ble_eq_true rfl) (Nat.le_of_ble_eq_true rfl) dX12_landLine_133 ⟨j_next_197, j_where_198, j_token_199, j_number_200, j_word_201, j_wrong_202, i_farCrossing, g_all_203, f_read, rfl, (by first | with_reducible assumption | omega | trivial | assumption), (by first | with_reducible assumption | omega | trivial | assumption), (by first | with_reducible assumption | omega | trivial | assumption), (by first | with_reducible assumption | omega | trivial | assumption), (h_12.tr h_208), (by first | with_reducible assumption | assumption), (by rw [pLand_w hd (by first | (exact fun z9 => by have := hdr z9; omega) | (rw [← hA6D]; omega))]; exact h_209), (by rw [pLand_w hd (by first | (exact fun z9 => by have := hdr z9; omega) | (rw [← hA6D]; omega))])⟩)
set_option maxHeartbeats 4000000 in
set_option maxRecDepth 100000 in
/-- c_fm_dayLine -/
theorem c_fm_dayLine (l : Launch) (T : zTy) (mo : Nat) (m_all : Nat) (m_has : Nat) (i_size : Int32) (i_next : Int32) (i_where : Int32) (i_token : Int32) (i_number : Int32) (i_word : Int32) (i_wrong : Int32) (i_farCrossing : Int32) (m_read : Nat) (i_z0 : Int32) (i_crossings : Int32) (i_inns : Int32) (m_posts : Nat) (m_shut : Nat) (m_here : Nat) (i_steps : Int32) (i_done : Int32) (i_at : Int32) (i_gone : Int32) (m_was : Nat) (m_came : Nat) (m_seenAt : Nat) (m_rowWorth : Nat) (m_farBy : Nat) (m_used : Nat) (i_everywhere : Int32) (i_again0 : Int32) (i_d0 : Int32) (i_never : Int32) (i_firstCame : Int32) (i_longRun : Int32) (i_moved : Int32) (i_crowd : Int32) (i_l0 : Int32) (i_fitMany : Int32) (i_fitLeast : Int32) (i_fitMost : Int32) (m_fitPost : Nat) (m_fitEnd : Nat) (m_keptPosts : Nat) (i_x0 : Int32) (f_all : Nat → Int32) (f_read : Nat → Int32) (k : pT) (n : Nat) (a : pS) (hsz : i_size.toInt ≤ 600) (hn0 : 0 ≤ i_next.toInt) (hns : i_next.toInt ≤ i_size.toInt) (hR : zCF 40 f_read) (hA : zRr k n i_size i_next i_where i_token i_number i_word i_wrong i_farCrossing f_all a) (hw : a.2.1.toInt = 0) : zMv l T yX12_dayLine cX12_dayLine 6 6 0 0 [.ref mo] [[zO11 mo m_all m_has i_size i_next i_where i_token i_number i_word i_wrong i_farCrossing m_read i_z0 i_crossings i_inns m_posts m_shut m_here i_steps i_done i_at i_gone m_was m_came m_seenAt m_rowWorth m_farBy m_used i_everywhere i_again0 i_d0 i_never i_firstCame i_longRun i_moved i_crowd i_l0 i_fitMany i_fitLeast i_fitMost m_fitPost m_fitEnd m_keptPosts i_x0], [zAr T 0 m_all 3952 f_all], [zAr T 0 m_read 121 f_read]] (fun bs => ∃ (j_next : Int32) (j_where : Int32) (j_token : Int32) (j_number : Int32) (j_word : Int32) (j_wrong : Int32) (g_all : Nat → Int32) (g_read : Nat → Int32), bs = [[zO11 mo m_all m_has i_size j_next j_where j_token j_number j_word j_wrong i_farCrossing m_read i_z0 i_crossings i_inns m_posts m_shut m_here i_steps i_done i_at i_gone m_was m_came m_seenAt m_rowWorth m_farBy m_used i_everywhere i_again0 i_d0 i_never i_firstCame i_longRun i_moved i_crowd i_l0 i_fitMany i_fitLeast i_fitMost m_fitPost m_fitEnd m_keptPosts i_x0], [zAr T 0 m_all 3952 g_all], [zAr T 0 m_read 121 g_read]] ∧ 0 ≤ j_next.toInt ∧ j_next.toInt ≤ i_size.toInt ∧ i_next.toInt ≤ j_next.toInt ∧ (¬ j_wrong.toInt = 0 ∨ i_next.toInt < j_next.toInt ∨ j_token.toInt = 0) ∧ zPal f_all g_all ∧ zCF 40 g_read ∧ zRr k n i_size j_next j_where j_token j_number j_word j_wrong i_farCrossing g_all (pDay k a f_read).1 ∧ g_read = (pDay k a f_read).2) := by
  refine zMv_of (own := RX12) (by decide) rfl (Nat.le_of_ble_eq_true rfl) ?_
  intro p e s m args below meth c A ls C hr hlocks hnm hAe G hl
  refine zHide (fun Qz_ hQz_ => ?_)
  have hx := C.1
  have hb := C.2.1
  have hl : lv_has ls 6 [(0, .ref mo)] := hl
  have hok := zRr_ok hA
  refine zAn6 (id hA) ?_
  intro hA1 hA6 hA7 hA8 hA9 hA10
  replace hA7 : zHd _ := hA7
  have hka : zHd _ := hok a.1 hA1.2.2.2.2
  have hkb := hka.1
  have hkc := hka.2.1
  have hT4 := pTk_le hok hA1.2.2.2.2
  refine zAn5 (hA7 hw) ?_
  intro t1 t2 t3 t4 t5
  replace t4 : zHd _ := t4
  replace t5 : zHd _ := t5
  have t3i : i_token.toInt = (pTk k a.1 : Int) := by rw [t3]; exact nI_toInt (by omega)
  have hR0 : 0 ≤ (f_read 0).toInt ∧ (f_read 0).toInt ≤ 40 := hR
  refine lv_aload_n hx hb dX12_dayLine_0 rfl (lv_at hl 0 rfl) ?_
  refine z_get C G clX12 0 rfl 4 (by decide) m_fl_RX12_77 rfl dX12_dayLine_1 ?_
  refine lv_istore_n (lv' := [(1, .int i_where), (0, .ref mo)]) hx hb dX12_dayLine_4 rfl hl (by decide) (zLvf_h rfl) (fun ls hl => ?_)
  refine lv_aload_n hx hb dX12_dayLine_5 rfl (lv_at hl 1 rfl) ?_
  refine lv_iconst (v := 5) hx hb dX12_dayLine_6 (by decide) ?_
  refine lv_bipush (v := 10) hx hb dX12_dayLine_7 (by decide) ?_
  refine z_Vi (bc := [[zO11 mo m_all m_has i_size i_next i_where i_token i_number i_word i_wrong i_farCrossing m_read i_z0 i_crossings i_inns m_posts m_shut m_here i_steps i_done i_at i_gone m_was m_came m_seenAt m_rowWorth m_farBy m_used i_everywhere i_again0 i_d0 i_never i_firstCame i_longRun i_moved i_crowd i_l0 i_fitMany i_fitLeast i_fitMost m_fitPost m_fitEnd m_keptPosts i_x0], [zAr T 0 m_all 3952 f_all]]) (br := [[zAr T 0 m_read 121 f_read]]) (As := [.int 5, .int 10]) (rest := []) C G (c_fm_wordIn l T mo m_all m_has i_size i_next i_where i_token i_number i_word i_wrong i_farCrossing m_read i_z0 i_crossings i_inns m_posts m_shut m_here i_steps i_done i_at i_gone m_was m_came m_seenAt m_rowWorth m_farBy m_used i_everywhere i_again0 i_d0 i_never i_firstCame i_longRun i_moved i_crowd i_l0 i_fitMany i_fitLeast i_fitMost m_fitPost m_fitEnd m_keptPosts i_x0 f_all k n a 5 10 5 10 (by first | with_reducible assumption | with_reducible rfl | omega | assumption | rfl) (by first | with_reducible assumption | with_reducible rfl | omega | assumption | rfl) (by first | with_reducible assumption | with_reducible rfl | omega | assumption | rfl) hA rfl rfl) (kV_RX12_133 C.2.2.2.2 (Nat.le_of_ble_eq_true rfl) (Nat.le_of_ble_eq_true rfl)) [0, 1] [0, 0] rfl rfl (ci := 11) (qc := (RX12, TX12, 43)) rfl rfl (List.mem_flatten.mpr ⟨_, List.mem_of_getElem? (i := 0) rfl, List.mem_cons_self⟩) rfl rfl hl.1 dX12_dayLine_9 (Nat.le_of_ble_eq_true rfl) (Nat.le_of_ble_eq_true rfl) (fun r_16 b1 H locs hw G => ?_)
  refine zEx7 hw ?_
  intro j_next_1 j_where_2 j_token_3 j_number_4 j_word_5 j_wrong_6 g_all_7
  refine zCu9 ?_
  intro hbs9 h_8 h_9 h_10 h_11 h_12 h_13 h_14 h_15
  clear hw
  subst hbs9
  have G : zS T A s.heap s [[zAr T 0 m_read 121 f_read], [zO11 mo m_all m_has i_size j_next_1 j_where_2 j_token_3 j_number_4 j_word_5 j_wrong_6 i_farCrossing m_read i_z0 i_crossings i_inns m_posts m_shut m_here i_steps i_done i_at i_gone m_was m_came m_seenAt m_rowWorth m_farBy m_used i_everywhere i_again0 i_d0 i_never i_firstCame i_longRun i_moved i_crowd i_l0 i_fitMany i_fitLeast i_fitMost m_fitPost m_fitEnd m_keptPosts i_x0], [zAr T 0 m_all 3952 g_all_7]] _ _ := G
  have h_13 : (r_16.toInt = 0 ∨ (5 : Int) ≤ r_16.toInt ∧ r_16.toInt ≤ (10 : Int)) := h_13
  obtain ⟨d1, d2, hd⟩ : ∃ (d1 : Nat) (d2 : pS), pWord k 5 10 a = (d1, d2) := ⟨_, _, rfl⟩
  have hRd : zRr k n i_size j_next_1 j_where_2 j_token_3 j_number_4 j_word_5 j_wrong_6 i_farCrossing g_all_7 d2 := by have q9 := h_14; rw [hd] at q9; exact q9
  have hvd : r_16 = nI d1 := by have q9 := h_15; rw [hd] at q9; exact q9
  have hokD := zRr_ok hRd
  refine zAn6 (id hRd) ?_
  intro hA1D hA6D hA7D hA8D hA9D hA10D
  replace hA7D : zHd _ := hA7D
  have hkaD : zHd _ := hokD d2.1 hA1D.2.2.2.2
  have hkbD := hkaD.1
  have hkcD := hkaD.2.1
  have hT4D := pTk_le hokD hA1D.2.2.2.2
  have hdr : d2.2.1.toInt = 0 → 5 ≤ d1 ∧ d1 ≤ 10 := fun q9 => by have q8 := pWord_r (k := k) (lo := 5) (hi := 10) (a := a) (by rw [hd]; exact q9); have q6 := q8.2.2.2; rw [hd] at q6; have q7 : d1 = pWd k a.1 := congrArg Prod.fst q6; omega
  have hd4 : d1 ≤ 10 := by have q9 := pWord_1 k 5 10 a; rw [hd] at q9; exact q9
  have hdi : (r_16).toInt = (d1 : Int) := by rw [hvd]; exact nI_toInt (by omega)
  refine lv_iconst (v := 5) hx hb dX12_dayLine_12 (by decide) ?_
  refine lv_isub hx hb dX12_dayLine_13 ?_
  refine lv_topi (fun y_17 ey_17 => ?_)
  have ey_17i : y_17.toInt = r_16.toInt - (5 : Int) := by rw [ey_17]; exact z_isubI (x := r_16) (y := (5 : Int32)) (by show -2147483648 ≤ r_16.toInt - (5 : Int); omega) (by show r_16.toInt - (5 : Int) < 2147483648; omega)
  refine lv_istore_n (lv' := [(2, .int y_17), (1, .int i_where), (0, .ref mo)]) hx hb dX12_dayLine_14 rfl hl (by decide) (zLvf_h rfl) (fun ls hl => ?_)
  refine zMt2 (T := T) 39 (fun (gb : Nat → Int32) (b : pS) => [[zAr T 0 m_read 121 f_read], [zO11 mo m_all m_has i_size j_next_1 j_where_2 j_token_3 j_number_4 j_word_5 j_wrong_6 i_farCrossing m_read i_z0 i_crossings i_inns m_posts m_shut m_here i_steps i_done i_at i_gone m_was m_came m_seenAt m_rowWorth m_farBy m_used i_everywhere i_again0 i_d0 i_never i_firstCame i_longRun i_moved i_crowd i_l0 i_fitMany i_fitLeast i_fitMost m_fitPost m_fitEnd m_keptPosts i_x0], [zAr T 0 m_all 3952 gb]]) (fun (gb : Nat → Int32) (b : pS) => [(2, .int y_17), (1, .int i_where), (0, .ref mo)]) (fun (gb : Nat → Int32) (b : pS) => b = pDB 40 i_where f_read d2 ∧ zRr k n i_size j_next_1 j_where_2 j_token_3 j_number_4 j_word_5 j_wrong_6 i_farCrossing gb b ∧ zPal f_all gb) G hl ?_ (fun jn_39 => ?_)
  · intro gb b hI9 H locs ls G hl
    replace hI9 : b = pDB 40 i_where f_read d2 ∧ zRr k n i_size j_next_1 j_where_2 j_token_3 j_number_4 j_word_5 j_wrong_6 i_farCrossing gb b ∧ zPal f_all gb := hI9
    refine zAn3 hI9 ?_
    intro hbq hRb hpgb
    clear hI9
    replace G : zS T A s.heap s [[zAr T 0 m_read 121 f_read], [zO11 mo m_all m_has i_size j_next_1 j_where_2 j_token_3 j_number_4 j_word_5 j_wrong_6 i_farCrossing m_read i_z0 i_crossings i_inns m_posts m_shut m_here i_steps i_done i_at i_gone m_was m_came m_seenAt m_rowWorth m_farBy m_used i_everywhere i_again0 i_d0 i_never i_firstCame i_longRun i_moved i_crowd i_l0 i_fitMany i_fitLeast i_fitMost m_fitPost m_fitEnd m_keptPosts i_x0], [zAr T 0 m_all 3952 gb]] _ _ := G
    replace hl : lv_has ls 6 [(2, .int y_17), (1, .int i_where), (0, .ref mo)] := hl
    refine lv_aload_n hx hb dX12_dayLine_39 rfl (lv_at hl 2 rfl) ?_
    refine lv_iconst (v := 0) hx hb dX12_dayLine_40 (by decide) ?_
    refine lv_bipush (v := 6) hx hb dX12_dayLine_41 (by decide) ?_
    refine z_Vi (bc := [[zO11 mo m_all m_has i_size j_next_1 j_where_2 j_token_3 j_number_4 j_word_5 j_wrong_6 i_farCrossing m_read i_z0 i_crossings i_inns m_posts m_shut m_here i_steps i_done i_at i_gone m_was m_came m_seenAt m_rowWorth m_farBy m_used i_everywhere i_again0 i_d0 i_never i_firstCame i_longRun i_moved i_crowd i_l0 i_fitMany i_fitLeast i_fitMost m_fitPost m_fitEnd m_keptPosts i_x0], [zAr T 0 m_all 3952 gb]]) (br := [[zAr T 0 m_read 121 f_read]]) (As := [.int 0, .int 6]) (rest := []) C G (c_fm_numbered l T mo m_all m_has i_size j_next_1 j_where_2 j_token_3 j_number_4 j_word_5 j_wrong_6 i_farCrossing m_read i_z0 i_crossings i_inns m_posts m_shut m_here i_steps i_done i_at i_gone m_was m_came m_seenAt m_rowWorth m_farBy m_used i_everywhere i_again0 i_d0 i_never i_firstCame i_longRun i_moved i_crowd i_l0 i_fitMany i_fitLeast i_fitMost m_fitPost m_fitEnd m_keptPosts i_x0 gb k n b 0 6 (by first | with_reducible assumption | with_reducible rfl | omega | assumption | rfl) (by first | with_reducible assumption | with_reducible rfl | omega | assumption | rfl) (by first | with_reducible assumption | with_reducible rfl | omega | assumption | rfl) (by decide) hRb) (kV_RX12_122 C.2.2.2.2 (Nat.le_of_ble_eq_true rfl) (Nat.le_of_ble_eq_true rfl)) [1, 2] [1, 0] rfl rfl (ci := 11) (qc := (RX12, TX12, 43)) rfl rfl (List.mem_flatten.mpr ⟨_, List.mem_of_getElem? (i := 0) rfl, List.mem_cons_self⟩) rfl rfl hl.1 dX12_dayLine_43 (Nat.le_of_ble_eq_true rfl) (Nat.le_of_ble_eq_true rfl) (fun r_34 b1 H locs hw G => ?_)
    refine zEx7 hw ?_
    intro j_next_18 j_where_19 j_token_20 j_number_21 j_word_22 j_wrong_23 g_all_24
    refine zCu10 ?_
    intro hbs9 h_25 h_26 h_27 h_28 h_29 h_30 h_31 h_32 h_33
    clear hw
    subst hbs9
    have G : zS T A s.heap s [[zAr T 0 m_read 121 f_read], [zO11 mo m_all m_has i_size j_next_18 j_where_19 j_token_20 j_number_21 j_word_22 j_wrong_23 i_farCrossing m_read i_z0 i_crossings i_inns m_posts m_shut m_here i_steps i_done i_at i_gone m_was m_came m_seenAt m_rowWorth m_farBy m_used i_everywhere i_again0 i_d0 i_never i_firstCame i_longRun i_moved i_crowd i_l0 i_fitMany i_fitLeast i_fitMost m_fitPost m_fitEnd m_keptPosts i_x0], [zAr T 0 m_all 3952 g_all_24]] _ _ := G
    have h_30 : (0 : Int) ≤ r_34.toInt := h_30
    have h_31 : r_34.toInt ≤ (6 : Int) := h_31
    refine lv_istore_n (lv' := [(3, .int r_34), (2, .int y_17), (1, .int i_where), (0, .ref mo)]) hx hb dX12_dayLine_46 rfl hl (by decide) (zLvf_h rfl) (fun ls hl => ?_)
    refine lv_iload_n hx hb dX12_dayLine_47 rfl (lv_at hl 1 rfl) ?_
    refine lv_iconst (v := 3) hx hb dX12_dayLine_48 (by decide) ?_
    refine lv_icmp_le (tgt := 61) hx hb dX12_dayLine_49 (by decide) (fun c_35 => ?_) (fun c_35 => ?_)
    · have c_35n : y_17.toInt ≤ (3 : Int) := (fa_le _ _).mp c_35
      refine lv_iconst (v := (-1)) hx hb dX12_dayLine_61 (by decide) ?_
      refine lv_istore (lv' := [(4, .int (-1)), (3, .int r_34), (2, .int y_17), (1, .int i_where), (0, .ref mo)]) hx hb dX12_dayLine_62 hl (by decide) (zLvf_h rfl) (fun ls hl => ?_)
      refine lv_aload_n hx hb dX12_dayLine_64 rfl (lv_at hl 4 rfl) ?_
      refine z_get C G clX12 1 rfl 10 (by decide) m_fl_RX12_17 rfl dX12_dayLine_65 ?_
      refine lv_iconst (v := 0) hx hb dX12_dayLine_68 (by decide) ?_
      refine z_ild C G 0 rfl (vp_in_nI (n := 0) (by decide) (by decide)) dX12_dayLine_69 ?_
      refine lv_topi (fun v_36 ev_36 => ?_)
      rw [show ((0 : Int32).toNatClampNeg) = 0 from rfl] at ev_36
      subst ev_36
      refine lv_bipush (v := 40) hx hb dX12_dayLine_70 (by decide) ?_
      refine lv_icmp_ge (tgt := 126) hx hb dX12_dayLine_72 (by decide) (fun c_37 => ?_) (fun c_37 => ?_)
      · have c_37n : (40 : Int) ≤ (f_read 0).toInt := (fa_le _ _).mp c_37
        refine lv_aload_n hx hb dX12_dayLine_126 rfl (lv_at hl 4 rfl) ?_
        refine z_Vv (bc := [[zO11 mo m_all m_has i_size j_next_18 j_where_19 j_token_20 j_number_21 j_word_22 j_wrong_23 i_farCrossing m_read i_z0 i_crossings i_inns m_posts m_shut m_here i_steps i_done i_at i_gone m_was m_came m_seenAt m_rowWorth m_farBy m_used i_everywhere i_again0 i_d0 i_never i_firstCame i_longRun i_moved i_crowd i_l0 i_fitMany i_fitLeast i_fitMost m_fitPost m_fitEnd m_keptPosts i_x0], [zAr T 0 m_all 3952 g_all_24]]) (br := [[zAr T 0 m_read 121 f_read]]) (As := []) (rest := []) C G (c_fm_endsLine l T mo m_all m_has i_size j_next_18 j_where_19 j_token_20 j_number_21 j_word_22 j_wrong_23 i_farCrossing m_read i_z0 i_crossings i_inns m_posts m_shut m_here i_steps i_done i_at i_gone m_was m_came m_seenAt m_rowWorth m_farBy m_used i_everywhere i_again0 i_d0 i_never i_firstCame i_longRun i_moved i_crowd i_l0 i_fitMany i_fitLeast i_fitMost m_fitPost m_fitEnd m_keptPosts i_x0 g_all_24 k n ((pNum k 0 6 b).2) (by first | with_reducible assumption | with_reducible rfl | omega | assumption | rfl) (by first | with_reducible assumption | with_reducible rfl | omega | assumption | rfl) (by first | with_reducible assumption | with_reducible rfl | omega | assumption | rfl) h_32) (kV_RX12_140 C.2.2.2.2 (Nat.le_of_ble_eq_true rfl) (Nat.le_of_ble_eq_true rfl)) [1, 2] [1, 0] rfl rfl (ci := 11) (qc := (RX12, TX12, 43)) rfl rfl (List.mem_flatten.mpr ⟨_, List.mem_of_getElem? (i := 0) rfl, List.mem_cons_self⟩) rfl rfl hl.1 dX12_dayLine_127 (Nat.le_of_ble_eq_true rfl) (Nat.le_of_ble_eq_true rfl) (fun b1 H locs hw G => ?_)
        refine zEx7 hw ?_
        intro j_next_38 j_where_39 j_token_40 j_number_41 j_word_42 j_wrong_43 g_all_44
        refine zCu7 ?_
        intro hbs9 h_45 h_46 h_47 h_48 h_49 h_50
        clear hw
        subst hbs9
        have G : zS T A s.heap s [[zAr T 0 m_read 121 f_read], [zO11 mo m_all m_has i_size j_next_38 j_where_39 j_token_40 j_number_41 j_word_42 j_wrong_43 i_farCrossing m_read i_z0 i_crossings i_inns m_posts m_shut m_here i_steps i_done i_at i_gone m_was m_came m_seenAt m_rowWorth m_farBy m_used i_everywhere i_again0 i_d0 i_never i_firstCame i_longRun i_moved i_crowd i_l0 i_fitMany i_fitLeast i_fitMost m_fitPost m_fitEnd m_keptPosts i_x0], [zAr T 0 m_all 3952 g_all_44]] _ _ := G
        have G := G.sub (bs' := [[zO11 mo m_all m_has i_size j_next_38 j_where_39 j_token_40 j_number_41 j_word_42 j_wrong_43 i_farCrossing m_read i_z0 i_crossings i_inns m_posts m_shut m_here i_steps i_done i_at i_gone m_was m_came m_seenAt m_rowWorth m_farBy m_used i_everywhere i_again0 i_d0 i_never i_firstCame i_longRun i_moved i_crowd i_l0 i_fitMany i_fitLeast i_fitMost m_fitPost m_fitEnd m_keptPosts i_x0], [zAr T 0 m_all 3952 g_all_44], [zAr T 0 m_read 121 f_read]]) [1, 2, 0] rfl
        exact z_back hQz_ (z_vret C hr hlocks G (Nat.le_of_ble_eq_true rfl) (Nat.le_of_ble_eq_true rfl) dX12_dayLine_130 ⟨j_next_38, j_where_39, j_token_40, j_number_41, j_word_42, j_wrong_43, g_all_44, f_read, rfl, (by first | with_reducible assumption | omega | trivial | assumption), (by first | with_reducible assumption | omega | trivial | assumption), (by first | with_reducible assumption | omega | trivial | assumption), (by first | with_reducible assumption | omega | trivial | assumption), (hpgb.tr (h_29.tr h_49)), (by first | with_reducible assumption | omega | trivial | assumption), (by unfold pDay; rw [hd]; show zRr _ _ _ _ _ _ _ _ _ _ _ (pEndL k (pDeed k d1 (nI (pWh k a.1)) d2 f_read).1); rw [← t2, pDeed_1 hbq, pDY_lo (by omega)]; exact h_50), (by unfold pDay; rw [hd]; show _ = (pDeed k d1 (nI (pWh k a.1)) d2 f_read).2; rw [← t2]; unfold pDeed; rw [← hbq]; exact (if_neg (by omega)).symm)⟩)
      · have c_37n : ¬ (40 : Int) ≤ (f_read 0).toInt := fun q => c_37 ((fa_le _ _).mpr q)
        refine lv_iconst (v := 1) hx hb dX12_dayLine_75 (by decide) ?_
        refine lv_iconst (v := 3) hx hb dX12_dayLine_76 (by decide) ?_
        refine lv_aload_n hx hb dX12_dayLine_77 rfl (lv_at hl 4 rfl) ?_
        refine z_get C G clX12 1 rfl 10 (by decide) m_fl_RX12_17 rfl dX12_dayLine_78 ?_
        refine lv_iconst (v := 0) hx hb dX12_dayLine_81 (by decide) ?_
        refine z_ild C G 0 rfl (vp_in_nI (n := 0) (by decide) (by decide)) dX12_dayLine_82 ?_
        refine lv_topi (fun v_52 ev_52 => ?_)
        rw [show ((0 : Int32).toNatClampNeg) = 0 from rfl] at ev_52
        subst ev_52
        refine lv_imul hx hb dX12_dayLine_83 ?_
        refine lv_topi (fun y_53 ey_53 => ?_)
        have ey_53i : y_53.toInt = (3 : Int) * (f_read 0).toInt := by rw [ey_53]; exact z_imulI (x := (3 : Int32)) (y := (f_read 0)) (by show -2147483648 ≤ (3 : Int) * (f_read 0).toInt; omega) (by show (3 : Int) * (f_read 0).toInt < 2147483648; omega)
        refine lv_iadd hx hb dX12_dayLine_84 ?_
        refine lv_topi (fun y_54 ey_54 => ?_)
        have ey_54i : y_54.toInt = (1 : Int) + y_53.toInt := by rw [ey_54]; exact z_iaddI (x := (1 : Int32)) (y := y_53) (by show -2147483648 ≤ (1 : Int) + y_53.toInt; omega) (by show (1 : Int) + y_53.toInt < 2147483648; omega)
        refine lv_istore (lv' := [(5, .int y_54), (4, .int (-1)), (3, .int r_34), (2, .int y_17), (1, .int i_where), (0, .ref mo)]) hx hb dX12_dayLine_85 hl (by decide) (zLvf_h rfl) (fun ls hl => ?_)
        refine lv_aload_n hx hb dX12_dayLine_87 rfl (lv_at hl 5 rfl) ?_
        refine z_get C G clX12 1 rfl 10 (by decide) m_fl_RX12_17 rfl dX12_dayLine_88 ?_
        refine lv_iload hx hb dX12_dayLine_91 (lv_at hl 0 rfl) ?_
        refine lv_iload_n hx hb dX12_dayLine_93 rfl (lv_at hl 3 rfl) ?_
        refine z_ist C G 0 rfl (vp_in_iff.mpr ⟨by omega, by omega⟩) dX12_dayLine_94 (fun H locs G => ?_)
        have G : zS T A s.heap s [[zAr T 0 m_read 121 (upd f_read y_54.toNatClampNeg y_17)], [zO11 mo m_all m_has i_size j_next_18 j_where_19 j_token_20 j_number_21 j_word_22 j_wrong_23 i_farCrossing m_read i_z0 i_crossings i_inns m_posts m_shut m_here i_steps i_done i_at i_gone m_was m_came m_seenAt m_rowWorth m_farBy m_used i_everywhere i_again0 i_d0 i_never i_firstCame i_longRun i_moved i_crowd i_l0 i_fitMany i_fitLeast i_fitMost m_fitPost m_fitEnd m_keptPosts i_x0], [zAr T 0 m_all 3952 g_all_24]] _ _ := G
        refine lv_aload_n hx hb dX12_dayLine_95 rfl (lv_at hl 5 rfl) ?_
        refine z_get C G clX12 1 rfl 10 (by decide) m_fl_RX12_17 rfl dX12_dayLine_96 ?_
        refine lv_iload hx hb dX12_dayLine_99 (lv_at hl 0 rfl) ?_
        refine lv_iconst (v := 1) hx hb dX12_dayLine_101 (by decide) ?_
        refine lv_iadd hx hb dX12_dayLine_102 ?_
        refine lv_topi (fun y_55 ey_55 => ?_)
        have ey_55i : y_55.toInt = y_54.toInt + (1 : Int) := by rw [ey_55]; exact z_iaddI (x := y_54) (y := (1 : Int32)) (by show -2147483648 ≤ y_54.toInt + (1 : Int); omega) (by show y_54.toInt + (1 : Int) < 2147483648; omega)
        refine lv_iload_n hx hb dX12_dayLine_103 rfl (lv_at hl 2 rfl) ?_
        refine z_ist C G 0 rfl (vp_in_iff.mpr ⟨by omega, by omega⟩) dX12_dayLine_104 (fun H locs G => ?_)
        have G : zS T A s.heap s [[zAr T 0 m_read 121 (upd (upd f_read y_54.toNatClampNeg y_17) y_55.toNatClampNeg r_34)], [zO11 mo m_all m_has i_size j_next_18 j_where_19 j_token_20 j_number_21 j_word_22 j_wrong_23 i_farCrossing m_read i_z0 i_crossings i_inns m_posts m_shut m_here i_steps i_done i_at i_gone m_was m_came m_seenAt m_rowWorth m_farBy m_used i_everywhere i_again0 i_d0 i_never i_firstCame i_longRun i_moved i_crowd i_l0 i_fitMany i_fitLeast i_fitMost m_fitPost m_fitEnd m_keptPosts i_x0], [zAr T 0 m_all 3952 g_all_24]] _ _ := G
        refine lv_aload_n hx hb dX12_dayLine_105 rfl (lv_at hl 5 rfl) ?_
        refine z_get C G clX12 1 rfl 10 (by decide) m_fl_RX12_17 rfl dX12_dayLine_106 ?_
        refine lv_iload hx hb dX12_dayLine_109 (lv_at hl 0 rfl) ?_
        refine lv_iconst (v := 2) hx hb dX12_dayLine_111 (by decide) ?_
        refine lv_iadd hx hb dX12_dayLine_112 ?_
        refine lv_topi (fun y_56 ey_56 => ?_)
        have ey_56i : y_56.toInt = y_54.toInt + (2 : Int) := by rw [ey_56]; exact z_iaddI (x := y_54) (y := (2 : Int32)) (by show -2147483648 ≤ y_54.toInt + (2 : Int); omega) (by show y_54.toInt + (2 : Int) < 2147483648; omega)
        refine lv_iload hx hb dX12_dayLine_113 (lv_at hl 1 rfl) ?_
        refine z_ist C G 0 rfl (vp_in_iff.mpr ⟨by omega, by omega⟩) dX12_dayLine_115 (fun H locs G => ?_)
        have G : zS T A s.heap s [[zAr T 0 m_read 121 (upd (upd (upd f_read y_54.toNatClampNeg y_17) y_55.toNatClampNeg r_34) y_56.toNatClampNeg (-1))], [zO11 mo m_all m_has i_size j_next_18 j_where_19 j_token_20 j_number_21 j_word_22 j_wrong_23 i_farCrossing m_read i_z0 i_crossings i_inns m_posts m_shut m_here i_steps i_done i_at i_gone m_was m_came m_seenAt m_rowWorth m_farBy m_used i_everywhere i_again0 i_d0 i_never i_firstCame i_longRun i_moved i_crowd i_l0 i_fitMany i_fitLeast i_fitMost m_fitPost m_fitEnd m_keptPosts i_x0], [zAr T 0 m_all 3952 g_all_24]] _ _ := G
        refine lv_aload_n hx hb dX12_dayLine_116 rfl (lv_at hl 5 rfl) ?_
        refine z_get C G clX12 1 rfl 10 (by decide) m_fl_RX12_17 rfl dX12_dayLine_117 ?_
        refine lv_iconst (v := 0) hx hb dX12_dayLine_120 (by decide) ?_
        refine lv_dup2_11 hx hb dX12_dayLine_121 rfl rfl ?_
        refine z_ild C G 0 rfl (vp_in_nI (n := 0) (by decide) (by decide)) dX12_dayLine_122 ?_
        refine lv_topi (fun v_57 ev_57 => ?_)
        rw [show ((0 : Int32).toNatClampNeg) = 0 from rfl] at ev_57
        subst ev_57
        refine lv_iconst (v := 1) hx hb dX12_dayLine_123 (by decide) ?_
        have hcl_y_56 := z_clI (x := y_56) (by omega)
        have hcl_y_55 := z_clI (x := y_55) (by omega)
        have hcl_y_54 := z_clI (x := y_54) (by omega)
        rw [show (upd (upd (upd f_read y_54.toNatClampNeg y_17) y_55.toNatClampNeg r_34) y_56.toNatClampNeg (-1)) 0 = f_read 0 from by unfold upd; rw [if_neg (by omega), if_neg (by omega), if_neg (by omega)]]
        refine lv_iadd hx hb dX12_dayLine_124 ?_
        refine lv_topi (fun y_58 ey_58 => ?_)
        have ey_58i : y_58.toInt = (f_read 0).toInt + (1 : Int) := by rw [ey_58]; exact z_iaddI (x := (f_read 0)) (y := (1 : Int32)) (by show -2147483648 ≤ (f_read 0).toInt + (1 : Int); omega) (by show (f_read 0).toInt + (1 : Int) < 2147483648; omega)
        refine z_ist C G 0 rfl (vp_in_nI (n := 0) (by decide) (by decide)) dX12_dayLine_125 (fun H locs G => ?_)
        have G : zS T A s.heap s [[zAr T 0 m_read 121 (upd (upd (upd (upd f_read y_54.toNatClampNeg y_17) y_55.toNatClampNeg r_34) y_56.toNatClampNeg (-1)) 0 y_58)], [zO11 mo m_all m_has i_size j_next_18 j_where_19 j_token_20 j_number_21 j_word_22 j_wrong_23 i_farCrossing m_read i_z0 i_crossings i_inns m_posts m_shut m_here i_steps i_done i_at i_gone m_was m_came m_seenAt m_rowWorth m_farBy m_used i_everywhere i_again0 i_d0 i_never i_firstCame i_longRun i_moved i_crowd i_l0 i_fitMany i_fitLeast i_fitMost m_fitPost m_fitEnd m_keptPosts i_x0], [zAr T 0 m_all 3952 g_all_24]] _ _ := G
        refine lv_aload_n hx hb dX12_dayLine_126 rfl (lv_at hl 5 rfl) ?_
        refine z_Vv (bc := [[zO11 mo m_all m_has i_size j_next_18 j_where_19 j_token_20 j_number_21 j_word_22 j_wrong_23 i_farCrossing m_read i_z0 i_crossings i_inns m_posts m_shut m_here i_steps i_done i_at i_gone m_was m_came m_seenAt m_rowWorth m_farBy m_used i_everywhere i_again0 i_d0 i_never i_firstCame i_longRun i_moved i_crowd i_l0 i_fitMany i_fitLeast i_fitMost m_fitPost m_fitEnd m_keptPosts i_x0], [zAr T 0 m_all 3952 g_all_24]]) (br := [[zAr T 0 m_read 121 (upd (upd (upd (upd f_read y_54.toNatClampNeg y_17) y_55.toNatClampNeg r_34) y_56.toNatClampNeg (-1)) 0 y_58)]]) (As := []) (rest := []) C G (c_fm_endsLine l T mo m_all m_has i_size j_next_18 j_where_19 j_token_20 j_number_21 j_word_22 j_wrong_23 i_farCrossing m_read i_z0 i_crossings i_inns m_posts m_shut m_here i_steps i_done i_at i_gone m_was m_came m_seenAt m_rowWorth m_farBy m_used i_everywhere i_again0 i_d0 i_never i_firstCame i_longRun i_moved i_crowd i_l0 i_fitMany i_fitLeast i_fitMost m_fitPost m_fitEnd m_keptPosts i_x0 g_all_24 k n ((pNum k 0 6 b).2) (by first | with_reducible assumption | with_reducible rfl | omega | assumption | rfl) (by first | with_reducible assumption | with_reducible rfl | omega | assumption | rfl) (by first | with_reducible assumption | with_reducible rfl | omega | assumption | rfl) h_32) (kV_RX12_140 C.2.2.2.2 (Nat.le_of_ble_eq_true rfl) (Nat.le_of_ble_eq_true rfl)) [1, 2] [1, 0] rfl rfl (ci := 11) (qc := (RX12, TX12, 43)) rfl rfl (List.mem_flatten.mpr ⟨_, List.mem_of_getElem? (i := 0) rfl, List.mem_cons_self⟩) rfl rfl hl.1 dX12_dayLine_127 (Nat.le_of_ble_eq_true rfl) (Nat.le_of_ble_eq_true rfl) (fun b1 H locs hw G => ?_)
        refine zEx7 hw ?_
        intro j_next_59 j_where_60 j_token_61 j_number_62 j_word_63 j_wrong_64 g_all_65
        refine zCu7 ?_
        intro hbs9 h_66 h_67 h_68 h_69 h_70 h_71
        clear hw
        subst hbs9
        have G : zS T A s.heap s [[zAr T 0 m_read 121 (upd (upd (upd (upd f_read y_54.toNatClampNeg y_17) y_55.toNatClampNeg r_34) y_56.toNatClampNeg (-1)) 0 y_58)], [zO11 mo m_all m_has i_size j_next_59 j_where_60 j_token_61 j_number_62 j_word_63 j_wrong_64 i_farCrossing m_read i_z0 i_crossings i_inns m_posts m_shut m_here i_steps i_done i_at i_gone m_was m_came m_seenAt m_rowWorth m_farBy m_used i_everywhere i_again0 i_d0 i_never i_firstCame i_longRun i_moved i_crowd i_l0 i_fitMany i_fitLeast i_fitMost m_fitPost m_fitEnd m_keptPosts i_x0], [zAr T 0 m_all 3952 g_all_65]] _ _ := G
        have G := G.sub (bs' := [[zO11 mo m_all m_has i_size j_next_59 j_where_60 j_token_61 j_number_62 j_word_63 j_wrong_64 i_farCrossing m_read i_z0 i_crossings i_inns m_posts m_shut m_here i_steps i_done i_at i_gone m_was m_came m_seenAt m_rowWorth m_farBy m_used i_everywhere i_again0 i_d0 i_never i_firstCame i_longRun i_moved i_crowd i_l0 i_fitMany i_fitLeast i_fitMost m_fitPost m_fitEnd m_keptPosts i_x0], [zAr T 0 m_all 3952 g_all_65], [zAr T 0 m_read 121 (upd (upd (upd (upd f_read y_54.toNatClampNeg y_17) y_55.toNatClampNeg r_34) y_56.toNatClampNeg (-1)) 0 y_58)]]) [1, 2, 0] rfl
        exact z_back hQz_ (z_vret C hr hlocks G (Nat.le_of_ble_eq_true rfl) (Nat.le_of_ble_eq_true rfl) dX12_dayLine_130 ⟨j_next_59, j_where_60, j_token_61, j_number_62, j_word_63, j_wrong_64, g_all_65, (upd (upd (upd (upd f_read y_54.toNatClampNeg y_17) y_55.toNatClampNeg r_34) y_56.toNatClampNeg (-1)) 0 y_58), rfl, (by first | with_reducible assumption | omega | trivial | assumption), (by first | with_reducible assumption | omega | trivial | assumption), (by first | with_reducible assumption | omega | trivial | assumption), (by first | with_reducible assumption | omega | trivial | assumption), (hpgb.tr (h_29.tr h_70)), (zCF_upd (k := 0) (v := y_58) (zCF_upd (k := y_56.toNatClampNeg) (v := (-1)) (zCF_upd (k := y_55.toNatClampNeg) (v := r_34) (zCF_upd (k := y_54.toNatClampNeg) (v := y_17) (by first | with_reducible assumption | assumption) (by have q9 := z_clI (x := y_54) (by omega); omega)) (by have q9 := z_clI (x := y_55) (by omega); omega)) (by have q9 := z_clI (x := y_56) (by omega); have t9 : ((-1) : Int32).toInt = -1 := rfl; omega)) (by omega)), (by unfold pDay; rw [hd]; show zRr _ _ _ _ _ _ _ _ _ _ _ (pEndL k (pDeed k d1 (nI (pWh k a.1)) d2 f_read).1); rw [← t2, pDeed_1 hbq, pDY_lo (by omega)]; exact h_71), (by unfold pDay; rw [hd]; show _ = (pDeed k d1 (nI (pWh k a.1)) d2 f_read).2; rw [← t2]; unfold pDeed; rw [← hbq]; rw [if_pos (by omega)]; have hy2 : (pDY k d1 (pNum k 0 6 b).2).1 = -1 := (congrArg Prod.fst (pDY_lo (by omega))); have qy_56 := z_clI (x := y_56) (by omega); have qy_55 := z_clI (x := y_55) (by omega); have qy_54 := z_clI (x := y_54) (by omega); rw [hy2, ← h_33, show y_56.toNatClampNeg = 3 + 3 * (f_read 0).toInt.toNat by omega, show y_55.toNatClampNeg = 2 + 3 * (f_read 0).toInt.toNat by omega, show y_54.toNatClampNeg = 1 + 3 * (f_read 0).toInt.toNat by omega, ey_58, ey_17, hvd])⟩)
    · have c_35n : ¬ y_17.toInt ≤ (3 : Int) := fun q => c_35 ((fa_le _ _).mpr q)
      refine lv_aload_n hx hb dX12_dayLine_52 rfl (lv_at hl 3 rfl) ?_
      refine lv_iconst (v := 0) hx hb dX12_dayLine_53 (by decide) ?_
      refine lv_iconst (v := 3) hx hb dX12_dayLine_54 (by decide) ?_
      refine z_Vi (bc := [[zO11 mo m_all m_has i_size j_next_18 j_where_19 j_token_20 j_number_21 j_word_22 j_wrong_23 i_farCrossing m_read i_z0 i_crossings i_inns m_posts m_shut m_here i_steps i_done i_at i_gone m_was m_came m_seenAt m_rowWorth m_farBy m_used i_everywhere i_again0 i_d0 i_never i_firstCame i_longRun i_moved i_crowd i_l0 i_fitMany i_fitLeast i_fitMost m_fitPost m_fitEnd m_keptPosts i_x0], [zAr T 0 m_all 3952 g_all_24]]) (br := [[zAr T 0 m_read 121 f_read]]) (As := [.int 0, .int 3]) (rest := []) C G (c_fm_numbered l T mo m_all m_has i_size j_next_18 j_where_19 j_token_20 j_number_21 j_word_22 j_wrong_23 i_farCrossing m_read i_z0 i_crossings i_inns m_posts m_shut m_here i_steps i_done i_at i_gone m_was m_came m_seenAt m_rowWorth m_farBy m_used i_everywhere i_again0 i_d0 i_never i_firstCame i_longRun i_moved i_crowd i_l0 i_fitMany i_fitLeast i_fitMost m_fitPost m_fitEnd m_keptPosts i_x0 g_all_24 k n ((pNum k 0 6 b).2) 0 3 (by first | with_reducible assumption | with_reducible rfl | omega | assumption | rfl) (by first | with_reducible assumption | with_reducible rfl | omega | assumption | rfl) (by first | with_reducible assumption | with_reducible rfl | omega | assumption | rfl) (by decide) h_32) (kV_RX12_122 C.2.2.2.2 (Nat.le_of_ble_eq_true rfl) (Nat.le_of_ble_eq_true rfl)) [1, 2] [1, 0] rfl rfl (ci := 11) (qc := (RX12, TX12, 43)) rfl rfl (List.mem_flatten.mpr ⟨_, List.mem_of_getElem? (i := 0) rfl, List.mem_cons_self⟩) rfl rfl hl.1 dX12_dayLine_55 (Nat.le_of_ble_eq_true rfl) (Nat.le_of_ble_eq_true rfl) (fun r_89 b1 H locs hw G => ?_)
      refine zEx7 hw ?_
      intro j_next_73 j_where_74 j_token_75 j_number_76 j_word_77 j_wrong_78 g_all_79
      refine zCu10 ?_
      intro hbs9 h_80 h_81 h_82 h_83 h_84 h_85 h_86 h_87 h_88
      clear hw
      subst hbs9
      have G : zS T A s.heap s [[zAr T 0 m_read 121 f_read], [zO11 mo m_all m_has i_size j_next_73 j_where_74 j_token_75 j_number_76 j_word_77 j_wrong_78 i_farCrossing m_read i_z0 i_crossings i_inns m_posts m_shut m_here i_steps i_done i_at i_gone m_was m_came m_seenAt m_rowWorth m_farBy m_used i_everywhere i_again0 i_d0 i_never i_firstCame i_longRun i_moved i_crowd i_l0 i_fitMany i_fitLeast i_fitMost m_fitPost m_fitEnd m_keptPosts i_x0], [zAr T 0 m_all 3952 g_all_79]] _ _ := G
      have h_85 : (0 : Int) ≤ r_89.toInt := h_85
      have h_86 : r_89.toInt ≤ (3 : Int) := h_86
      refine lv_goto (tgt := 62) hx hb dX12_dayLine_58 (by decide) ?_
      refine lv_istore (lv' := [(4, .int r_89), (3, .int r_34), (2, .int y_17), (1, .int i_where), (0, .ref mo)]) hx hb dX12_dayLine_62 hl (by decide) (zLvf_h rfl) (fun ls hl => ?_)
      refine lv_aload_n hx hb dX12_dayLine_64 rfl (lv_at hl 4 rfl) ?_
      refine z_get C G clX12 1 rfl 10 (by decide) m_fl_RX12_17 rfl dX12_dayLine_65 ?_
      refine lv_iconst (v := 0) hx hb dX12_dayLine_68 (by decide) ?_
      refine z_ild C G 0 rfl (vp_in_nI (n := 0) (by decide) (by decide)) dX12_dayLine_69 ?_
      refine lv_topi (fun v_90 ev_90 => ?_)
      rw [show ((0 : Int32).toNatClampNeg) = 0 from rfl] at ev_90
      subst ev_90
      refine lv_bipush (v := 40) hx hb dX12_dayLine_70 (by decide) ?_
      refine lv_icmp_ge (tgt := 126) hx hb dX12_dayLine_72 (by decide) (fun c_91 => ?_) (fun c_91 => ?_)
      · have c_91n : (40 : Int) ≤ (f_read 0).toInt := (fa_le _ _).mp c_91
        refine lv_aload_n hx hb dX12_dayLine_126 rfl (lv_at hl 4 rfl) ?_
        refine z_Vv (bc := [[zO11 mo m_all m_has i_size j_next_73 j_where_74 j_token_75 j_number_76 j_word_77 j_wrong_78 i_farCrossing m_read i_z0 i_crossings i_inns m_posts m_shut m_here i_steps i_done i_at i_gone m_was m_came m_seenAt m_rowWorth m_farBy m_used i_everywhere i_again0 i_d0 i_never i_firstCame i_longRun i_moved i_crowd i_l0 i_fitMany i_fitLeast i_fitMost m_fitPost m_fitEnd m_keptPosts i_x0], [zAr T 0 m_all 3952 g_all_79]]) (br := [[zAr T 0 m_read 121 f_read]]) (As := []) (rest := []) C G (c_fm_endsLine l T mo m_all m_has i_size j_next_73 j_where_74 j_token_75 j_number_76 j_word_77 j_wrong_78 i_farCrossing m_read i_z0 i_crossings i_inns m_posts m_shut m_here i_steps i_done i_at i_gone m_was m_came m_seenAt m_rowWorth m_farBy m_used i_everywhere i_again0 i_d0 i_never i_firstCame i_longRun i_moved i_crowd i_l0 i_fitMany i_fitLeast i_fitMost m_fitPost m_fitEnd m_keptPosts i_x0 g_all_79 k n ((pNum k 0 3 (pNum k 0 6 b).2).2) (by first | with_reducible assumption | with_reducible rfl | omega | assumption | rfl) (by first | with_reducible assumption | with_reducible rfl | omega | assumption | rfl) (by first | with_reducible assumption | with_reducible rfl | omega | assumption | rfl) h_87) (kV_RX12_140 C.2.2.2.2 (Nat.le_of_ble_eq_true rfl) (Nat.le_of_ble_eq_true rfl)) [1, 2] [1, 0] rfl rfl (ci := 11) (qc := (RX12, TX12, 43)) rfl rfl (List.mem_flatten.mpr ⟨_, List.mem_of_getElem? (i := 0) rfl, List.mem_cons_self⟩) rfl rfl hl.1 dX12_dayLine_127 (Nat.le_of_ble_eq_true rfl) (Nat.le_of_ble_eq_true rfl) (fun b1 H locs hw G => ?_)
        refine zEx7 hw ?_
        intro j_next_92 j_where_93 j_token_94 j_number_95 j_word_96 j_wrong_97 g_all_98
        refine zCu7 ?_
        intro hbs9 h_99 h_100 h_101 h_102 h_103 h_104
        clear hw
        subst hbs9
        have G : zS T A s.heap s [[zAr T 0 m_read 121 f_read], [zO11 mo m_all m_has i_size j_next_92 j_where_93 j_token_94 j_number_95 j_word_96 j_wrong_97 i_farCrossing m_read i_z0 i_crossings i_inns m_posts m_shut m_here i_steps i_done i_at i_gone m_was m_came m_seenAt m_rowWorth m_farBy m_used i_everywhere i_again0 i_d0 i_never i_firstCame i_longRun i_moved i_crowd i_l0 i_fitMany i_fitLeast i_fitMost m_fitPost m_fitEnd m_keptPosts i_x0], [zAr T 0 m_all 3952 g_all_98]] _ _ := G
        have G := G.sub (bs' := [[zO11 mo m_all m_has i_size j_next_92 j_where_93 j_token_94 j_number_95 j_word_96 j_wrong_97 i_farCrossing m_read i_z0 i_crossings i_inns m_posts m_shut m_here i_steps i_done i_at i_gone m_was m_came m_seenAt m_rowWorth m_farBy m_used i_everywhere i_again0 i_d0 i_never i_firstCame i_longRun i_moved i_crowd i_l0 i_fitMany i_fitLeast i_fitMost m_fitPost m_fitEnd m_keptPosts i_x0], [zAr T 0 m_all 3952 g_all_98], [zAr T 0 m_read 121 f_read]]) [1, 2, 0] rfl
        exact z_back hQz_ (z_vret C hr hlocks G (Nat.le_of_ble_eq_true rfl) (Nat.le_of_ble_eq_true rfl) dX12_dayLine_130 ⟨j_next_92, j_where_93, j_token_94, j_number_95, j_word_96, j_wrong_97, g_all_98, f_read, rfl, (by first | with_reducible assumption | omega | trivial | assumption), (by first | with_reducible assumption | omega | trivial | assumption), (by first | with_reducible assumption | omega | trivial | assumption), (by first | with_reducible assumption | omega | trivial | assumption), (hpgb.tr (h_29.tr (h_84.tr h_103))), (by first | with_reducible assumption | omega | trivial | assumption), (by unfold pDay; rw [hd]; show zRr _ _ _ _ _ _ _ _ _ _ _ (pEndL k (pDeed k d1 (nI (pWh k a.1)) d2 f_read).1); rw [← t2, pDeed_1 hbq, pDY_hi (by omega)]; exact h_104), (by unfold pDay; rw [hd]; show _ = (pDeed k d1 (nI (pWh k a.1)) d2 f_read).2; rw [← t2]; unfold pDeed; rw [← hbq]; exact (if_neg (by omega)).symm)⟩)
      · have c_91n : ¬ (40 : Int) ≤ (f_read 0).toInt := fun q => c_91 ((fa_le _ _).mpr q)
        refine lv_iconst (v := 1) hx hb dX12_dayLine_75 (by decide) ?_
        refine lv_iconst (v := 3) hx hb dX12_dayLine_76 (by decide) ?_
        refine lv_aload_n hx hb dX12_dayLine_77 rfl (lv_at hl 4 rfl) ?_
        refine z_get C G clX12 1 rfl 10 (by decide) m_fl_RX12_17 rfl dX12_dayLine_78 ?_
        refine lv_iconst (v := 0) hx hb dX12_dayLine_81 (by decide) ?_
        refine z_ild C G 0 rfl (vp_in_nI (n := 0) (by decide) (by decide)) dX12_dayLine_82 ?_
        refine lv_topi (fun v_106 ev_106 => ?_)
        rw [show ((0 : Int32).toNatClampNeg) = 0 from rfl] at ev_106
        subst ev_106
        refine lv_imul hx hb dX12_dayLine_83 ?_
        refine lv_topi (fun y_107 ey_107 => ?_)
        have ey_107i : y_107.toInt = (3 : Int) * (f_read 0).toInt := by rw [ey_107]; exact z_imulI (x := (3 : Int32)) (y := (f_read 0)) (by show -2147483648 ≤ (3 : Int) * (f_read 0).toInt; omega) (by show (3 : Int) * (f_read 0).toInt < 2147483648; omega)
        refine lv_iadd hx hb dX12_dayLine_84 ?_
        refine lv_topi (fun y_108 ey_108 => ?_)
        have ey_108i : y_108.toInt = (1 : Int) + y_107.toInt := by rw [ey_108]; exact z_iaddI (x := (1 : Int32)) (y := y_107) (by show -2147483648 ≤ (1 : Int) + y_107.toInt; omega) (by show (1 : Int) + y_107.toInt < 2147483648; omega)
        refine lv_istore (lv' := [(5, .int y_108), (4, .int r_89), (3, .int r_34), (2, .int y_17), (1, .int i_where), (0, .ref mo)]) hx hb dX12_dayLine_85 hl (by decide) (zLvf_h rfl) (fun ls hl => ?_)
        refine lv_aload_n hx hb dX12_dayLine_87 rfl (lv_at hl 5 rfl) ?_
        refine z_get C G clX12 1 rfl 10 (by decide) m_fl_RX12_17 rfl dX12_dayLine_88 ?_
        refine lv_iload hx hb dX12_dayLine_91 (lv_at hl 0 rfl) ?_
        refine lv_iload_n hx hb dX12_dayLine_93 rfl (lv_at hl 3 rfl) ?_
        refine z_ist C G 0 rfl (vp_in_iff.mpr ⟨by omega, by omega⟩) dX12_dayLine_94 (fun H locs G => ?_)
        have G : zS T A s.heap s [[zAr T 0 m_read 121 (upd f_read y_108.toNatClampNeg y_17)], [zO11 mo m_all m_has i_size j_next_73 j_where_74 j_token_75 j_number_76 j_word_77 j_wrong_78 i_farCrossing m_read i_z0 i_crossings i_inns m_posts m_shut m_here i_steps i_done i_at i_gone m_was m_came m_seenAt m_rowWorth m_farBy m_used i_everywhere i_again0 i_d0 i_never i_firstCame i_longRun i_moved i_crowd i_l0 i_fitMany i_fitLeast i_fitMost m_fitPost m_fitEnd m_keptPosts i_x0], [zAr T 0 m_all 3952 g_all_79]] _ _ := G
        refine lv_aload_n hx hb dX12_dayLine_95 rfl (lv_at hl 5 rfl) ?_
        refine z_get C G clX12 1 rfl 10 (by decide) m_fl_RX12_17 rfl dX12_dayLine_96 ?_
        refine lv_iload hx hb dX12_dayLine_99 (lv_at hl 0 rfl) ?_
        refine lv_iconst (v := 1) hx hb dX12_dayLine_101 (by decide) ?_
        refine lv_iadd hx hb dX12_dayLine_102 ?_
        refine lv_topi (fun y_109 ey_109 => ?_)
        have ey_109i : y_109.toInt = y_108.toInt + (1 : Int) := by rw [ey_109]; exact z_iaddI (x := y_108) (y := (1 : Int32)) (by show -2147483648 ≤ y_108.toInt + (1 : Int); omega) (by show y_108.toInt + (1 : Int) < 2147483648; omega)
        refine lv_iload_n hx hb dX12_dayLine_103 rfl (lv_at hl 2 rfl) ?_
        refine z_ist C G 0 rfl (vp_in_iff.mpr ⟨by omega, by omega⟩) dX12_dayLine_104 (fun H locs G => ?_)
        have G : zS T A s.heap s [[zAr T 0 m_read 121 (upd (upd f_read y_108.toNatClampNeg y_17) y_109.toNatClampNeg r_34)], [zO11 mo m_all m_has i_size j_next_73 j_where_74 j_token_75 j_number_76 j_word_77 j_wrong_78 i_farCrossing m_read i_z0 i_crossings i_inns m_posts m_shut m_here i_steps i_done i_at i_gone m_was m_came m_seenAt m_rowWorth m_farBy m_used i_everywhere i_again0 i_d0 i_never i_firstCame i_longRun i_moved i_crowd i_l0 i_fitMany i_fitLeast i_fitMost m_fitPost m_fitEnd m_keptPosts i_x0], [zAr T 0 m_all 3952 g_all_79]] _ _ := G
        refine lv_aload_n hx hb dX12_dayLine_105 rfl (lv_at hl 5 rfl) ?_
        refine z_get C G clX12 1 rfl 10 (by decide) m_fl_RX12_17 rfl dX12_dayLine_106 ?_
        refine lv_iload hx hb dX12_dayLine_109 (lv_at hl 0 rfl) ?_
        refine lv_iconst (v := 2) hx hb dX12_dayLine_111 (by decide) ?_
        refine lv_iadd hx hb dX12_dayLine_112 ?_
        refine lv_topi (fun y_110 ey_110 => ?_)
        have ey_110i : y_110.toInt = y_108.toInt + (2 : Int) := by rw [ey_110]; exact z_iaddI (x := y_108) (y := (2 : Int32)) (by show -2147483648 ≤ y_108.toInt + (2 : Int); omega) (by show y_108.toInt + (2 : Int) < 2147483648; omega)
        refine lv_iload hx hb dX12_dayLine_113 (lv_at hl 1 rfl) ?_
        refine z_ist C G 0 rfl (vp_in_iff.mpr ⟨by omega, by omega⟩) dX12_dayLine_115 (fun H locs G => ?_)
        have G : zS T A s.heap s [[zAr T 0 m_read 121 (upd (upd (upd f_read y_108.toNatClampNeg y_17) y_109.toNatClampNeg r_34) y_110.toNatClampNeg r_89)], [zO11 mo m_all m_has i_size j_next_73 j_where_74 j_token_75 j_number_76 j_word_77 j_wrong_78 i_farCrossing m_read i_z0 i_crossings i_inns m_posts m_shut m_here i_steps i_done i_at i_gone m_was m_came m_seenAt m_rowWorth m_farBy m_used i_everywhere i_again0 i_d0 i_never i_firstCame i_longRun i_moved i_crowd i_l0 i_fitMany i_fitLeast i_fitMost m_fitPost m_fitEnd m_keptPosts i_x0], [zAr T 0 m_all 3952 g_all_79]] _ _ := G
        refine lv_aload_n hx hb dX12_dayLine_116 rfl (lv_at hl 5 rfl) ?_
        refine z_get C G clX12 1 rfl 10 (by decide) m_fl_RX12_17 rfl dX12_dayLine_117 ?_
        refine lv_iconst (v := 0) hx hb dX12_dayLine_120 (by decide) ?_
        refine lv_dup2_11 hx hb dX12_dayLine_121 rfl rfl ?_
        refine z_ild C G 0 rfl (vp_in_nI (n := 0) (by decide) (by decide)) dX12_dayLine_122 ?_
        refine lv_topi (fun v_111 ev_111 => ?_)
        rw [show ((0 : Int32).toNatClampNeg) = 0 from rfl] at ev_111
        subst ev_111
        refine lv_iconst (v := 1) hx hb dX12_dayLine_123 (by decide) ?_
        have hcl_y_110 := z_clI (x := y_110) (by omega)
        have hcl_y_109 := z_clI (x := y_109) (by omega)
        have hcl_y_108 := z_clI (x := y_108) (by omega)
        rw [show (upd (upd (upd f_read y_108.toNatClampNeg y_17) y_109.toNatClampNeg r_34) y_110.toNatClampNeg r_89) 0 = f_read 0 from by unfold upd; rw [if_neg (by omega), if_neg (by omega), if_neg (by omega)]]
        refine lv_iadd hx hb dX12_dayLine_124 ?_
        refine lv_topi (fun y_112 ey_112 => ?_)
        have ey_112i : y_112.toInt = (f_read 0).toInt + (1 : Int) := by rw [ey_112]; exact z_iaddI (x := (f_read 0)) (y := (1 : Int32)) (by show -2147483648 ≤ (f_read 0).toInt + (1 : Int); omega) (by show (f_read 0).toInt + (1 : Int) < 2147483648; omega)
        refine z_ist C G 0 rfl (vp_in_nI (n := 0) (by decide) (by decide)) dX12_dayLine_125 (fun H locs G => ?_)
        have G : zS T A s.heap s [[zAr T 0 m_read 121 (upd (upd (upd (upd f_read y_108.toNatClampNeg y_17) y_109.toNatClampNeg r_34) y_110.toNatClampNeg r_89) 0 y_112)], [zO11 mo m_all m_has i_size j_next_73 j_where_74 j_token_75 j_number_76 j_word_77 j_wrong_78 i_farCrossing m_read i_z0 i_crossings i_inns m_posts m_shut m_here i_steps i_done i_at i_gone m_was m_came m_seenAt m_rowWorth m_farBy m_used i_everywhere i_again0 i_d0 i_never i_firstCame i_longRun i_moved i_crowd i_l0 i_fitMany i_fitLeast i_fitMost m_fitPost m_fitEnd m_keptPosts i_x0], [zAr T 0 m_all 3952 g_all_79]] _ _ := G
        refine lv_aload_n hx hb dX12_dayLine_126 rfl (lv_at hl 5 rfl) ?_
        refine z_Vv (bc := [[zO11 mo m_all m_has i_size j_next_73 j_where_74 j_token_75 j_number_76 j_word_77 j_wrong_78 i_farCrossing m_read i_z0 i_crossings i_inns m_posts m_shut m_here i_steps i_done i_at i_gone m_was m_came m_seenAt m_rowWorth m_farBy m_used i_everywhere i_again0 i_d0 i_never i_firstCame i_longRun i_moved i_crowd i_l0 i_fitMany i_fitLeast i_fitMost m_fitPost m_fitEnd m_keptPosts i_x0], [zAr T 0 m_all 3952 g_all_79]]) (br := [[zAr T 0 m_read 121 (upd (upd (upd (upd f_read y_108.toNatClampNeg y_17) y_109.toNatClampNeg r_34) y_110.toNatClampNeg r_89) 0 y_112)]]) (As := []) (rest := []) C G (c_fm_endsLine l T mo m_all m_has i_size j_next_73 j_where_74 j_token_75 j_number_76 j_word_77 j_wrong_78 i_farCrossing m_read i_z0 i_crossings i_inns m_posts m_shut m_here i_steps i_done i_at i_gone m_was m_came m_seenAt m_rowWorth m_farBy m_used i_everywhere i_again0 i_d0 i_never i_firstCame i_longRun i_moved i_crowd i_l0 i_fitMany i_fitLeast i_fitMost m_fitPost m_fitEnd m_keptPosts i_x0 g_all_79 k n ((pNum k 0 3 (pNum k 0 6 b).2).2) (by first | with_reducible assumption | with_reducible rfl | omega | assumption | rfl) (by first | with_reducible assumption | with_reducible rfl | omega | assumption | rfl) (by first | with_reducible assumption | with_reducible rfl | omega | assumption | rfl) h_87) (kV_RX12_140 C.2.2.2.2 (Nat.le_of_ble_eq_true rfl) (Nat.le_of_ble_eq_true rfl)) [1, 2] [1, 0] rfl rfl (ci := 11) (qc := (RX12, TX12, 43)) rfl rfl (List.mem_flatten.mpr ⟨_, List.mem_of_getElem? (i := 0) rfl, List.mem_cons_self⟩) rfl rfl hl.1 dX12_dayLine_127 (Nat.le_of_ble_eq_true rfl) (Nat.le_of_ble_eq_true rfl) (fun b1 H locs hw G => ?_)
        refine zEx7 hw ?_
        intro j_next_113 j_where_114 j_token_115 j_number_116 j_word_117 j_wrong_118 g_all_119
        refine zCu7 ?_
        intro hbs9 h_120 h_121 h_122 h_123 h_124 h_125
        clear hw
        subst hbs9
        have G : zS T A s.heap s [[zAr T 0 m_read 121 (upd (upd (upd (upd f_read y_108.toNatClampNeg y_17) y_109.toNatClampNeg r_34) y_110.toNatClampNeg r_89) 0 y_112)], [zO11 mo m_all m_has i_size j_next_113 j_where_114 j_token_115 j_number_116 j_word_117 j_wrong_118 i_farCrossing m_read i_z0 i_crossings i_inns m_posts m_shut m_here i_steps i_done i_at i_gone m_was m_came m_seenAt m_rowWorth m_farBy m_used i_everywhere i_again0 i_d0 i_never i_firstCame i_longRun i_moved i_crowd i_l0 i_fitMany i_fitLeast i_fitMost m_fitPost m_fitEnd m_keptPosts i_x0], [zAr T 0 m_all 3952 g_all_119]] _ _ := G
        have G := G.sub (bs' := [[zO11 mo m_all m_has i_size j_next_113 j_where_114 j_token_115 j_number_116 j_word_117 j_wrong_118 i_farCrossing m_read i_z0 i_crossings i_inns m_posts m_shut m_here i_steps i_done i_at i_gone m_was m_came m_seenAt m_rowWorth m_farBy m_used i_everywhere i_again0 i_d0 i_never i_firstCame i_longRun i_moved i_crowd i_l0 i_fitMany i_fitLeast i_fitMost m_fitPost m_fitEnd m_keptPosts i_x0], [zAr T 0 m_all 3952 g_all_119], [zAr T 0 m_read 121 (upd (upd (upd (upd f_read y_108.toNatClampNeg y_17) y_109.toNatClampNeg r_34) y_110.toNatClampNeg r_89) 0 y_112)]]) [1, 2, 0] rfl
        exact z_back hQz_ (z_vret C hr hlocks G (Nat.le_of_ble_eq_true rfl) (Nat.le_of_ble_eq_true rfl) dX12_dayLine_130 ⟨j_next_113, j_where_114, j_token_115, j_number_116, j_word_117, j_wrong_118, g_all_119, (upd (upd (upd (upd f_read y_108.toNatClampNeg y_17) y_109.toNatClampNeg r_34) y_110.toNatClampNeg r_89) 0 y_112), rfl, (by first | with_reducible assumption | omega | trivial | assumption), (by first | with_reducible assumption | omega | trivial | assumption), (by first | with_reducible assumption | omega | trivial | assumption), (by first | with_reducible assumption | omega | trivial | assumption), (hpgb.tr (h_29.tr (h_84.tr h_124))), (zCF_upd (k := 0) (v := y_112) (zCF_upd (k := y_110.toNatClampNeg) (v := r_89) (zCF_upd (k := y_109.toNatClampNeg) (v := r_34) (zCF_upd (k := y_108.toNatClampNeg) (v := y_17) (by first | with_reducible assumption | assumption) (by have q9 := z_clI (x := y_108) (by omega); omega)) (by have q9 := z_clI (x := y_109) (by omega); omega)) (by have q9 := z_clI (x := y_110) (by omega); omega)) (by omega)), (by unfold pDay; rw [hd]; show zRr _ _ _ _ _ _ _ _ _ _ _ (pEndL k (pDeed k d1 (nI (pWh k a.1)) d2 f_read).1); rw [← t2, pDeed_1 hbq, pDY_hi (by omega)]; exact h_125), (by unfold pDay; rw [hd]; show _ = (pDeed k d1 (nI (pWh k a.1)) d2 f_read).2; rw [← t2]; unfold pDeed; rw [← hbq]; rw [if_pos (by omega)]; have hy2 : (pDY k d1 (pNum k 0 6 b).2).1 = r_89 := (congrArg Prod.fst (pDY_hi (by omega))).trans h_88.symm; have qy_110 := z_clI (x := y_110) (by omega); have qy_109 := z_clI (x := y_109) (by omega); have qy_108 := z_clI (x := y_108) (by omega); rw [hy2, ← h_33, show y_110.toNatClampNeg = 3 + 3 * (f_read 0).toInt.toNat by omega, show y_109.toNatClampNeg = 2 + 3 * (f_read 0).toInt.toNat by omega, show y_108.toNatClampNeg = 1 + 3 * (f_read 0).toInt.toNat by omega, ey_112, ey_17, hvd])⟩)
  refine lv_aload_n hx hb dX12_dayLine_15 rfl (lv_at hl 2 rfl) ?_
  refine z_get C G clX12 1 rfl 8 (by decide) m_fl_RX12_104 rfl dX12_dayLine_16 ?_
  refine lv_if_ne (tgt := 39) hx hb dX12_dayLine_19 (by decide) (fun c_127 => ?_) (fun c_127 => ?_)
  · have c_127n : ¬ j_wrong_6.toInt = (0 : Int) := fun q => c_127 ((fa_eq _ _).mpr q)
    obtain ⟨b, hbq⟩ : ∃ b, b = pDB 40 i_where f_read d2 := ⟨_, rfl⟩
    have hRb : zRr k n i_size j_next_1 j_where_2 j_token_3 j_number_4 j_word_5 j_wrong_6 i_farCrossing g_all_7 b := by rw [hbq]; first | (rw [pDB_b (by rw [← hA6D]; omega)]; exact hRd) | (unfold pDB; rw [if_neg (by omega)]; exact hRd)
    exact jn_39 g_all_7 b (show b = pDB 40 i_where f_read d2 ∧ zRr k n i_size j_next_1 j_where_2 j_token_3 j_number_4 j_word_5 j_wrong_6 i_farCrossing g_all_7 b ∧ zPal f_all g_all_7 from ⟨hbq, hRb, h_12⟩) _ _ ls G (lv_sub hl [0, 1, 2] rfl)
  · have c_127n : j_wrong_6.toInt = (0 : Int) := (fa_eq _ _).mp c_127
    refine lv_aload_n hx hb dX12_dayLine_22 rfl (lv_at hl 2 rfl) ?_
    refine z_get C G clX12 1 rfl 10 (by decide) m_fl_RX12_17 rfl dX12_dayLine_23 ?_
    refine lv_iconst (v := 0) hx hb dX12_dayLine_26 (by decide) ?_
    refine z_ild C G 0 rfl (vp_in_nI (n := 0) (by decide) (by decide)) dX12_dayLine_27 ?_
    refine lv_topi (fun v_128 ev_128 => ?_)
    rw [show ((0 : Int32).toNatClampNeg) = 0 from rfl] at ev_128
    subst ev_128
    refine lv_bipush (v := 40) hx hb dX12_dayLine_28 (by decide) ?_
    refine lv_icmp_lt (tgt := 39) hx hb dX12_dayLine_30 (by decide) (fun c_129 => ?_) (fun c_129 => ?_)
    · have c_129n : (f_read 0).toInt < (40 : Int) := (fa_lt _ _).mp c_129
      obtain ⟨b, hbq⟩ : ∃ b, b = pDB 40 i_where f_read d2 := ⟨_, rfl⟩
      have hRb : zRr k n i_size j_next_1 j_where_2 j_token_3 j_number_4 j_word_5 j_wrong_6 i_farCrossing g_all_7 b := by rw [hbq]; first | (rw [pDB_b (by rw [← hA6D]; omega)]; exact hRd) | (unfold pDB; rw [if_neg (by omega)]; exact hRd)
      exact jn_39 g_all_7 b (show b = pDB 40 i_where f_read d2 ∧ zRr k n i_size j_next_1 j_where_2 j_token_3 j_number_4 j_word_5 j_wrong_6 i_farCrossing g_all_7 b ∧ zPal f_all g_all_7 from ⟨hbq, hRb, h_12⟩) _ _ ls G (lv_sub hl [0, 1, 2] rfl)
    · have c_129n : ¬ (f_read 0).toInt < (40 : Int) := fun q => c_129 ((fa_lt _ _).mpr q)
      refine lv_aload_n hx hb dX12_dayLine_33 rfl (lv_at hl 2 rfl) ?_
      refine lv_iconst (v := 3) hx hb dX12_dayLine_34 (by decide) ?_
      refine lv_iload_n hx hb dX12_dayLine_35 rfl (lv_at hl 1 rfl) ?_
      refine z_Vv (bc := [[zO11 mo m_all m_has i_size j_next_1 j_where_2 j_token_3 j_number_4 j_word_5 j_wrong_6 i_farCrossing m_read i_z0 i_crossings i_inns m_posts m_shut m_here i_steps i_done i_at i_gone m_was m_came m_seenAt m_rowWorth m_farBy m_used i_everywhere i_again0 i_d0 i_never i_firstCame i_longRun i_moved i_crowd i_l0 i_fitMany i_fitLeast i_fitMost m_fitPost m_fitEnd m_keptPosts i_x0], [zAr T 0 m_all 3952 g_all_7]]) (br := [[zAr T 0 m_read 121 f_read]]) (As := [.int 3, .int i_where]) (rest := []) C G (c_fm_also l T mo m_all m_has i_size j_next_1 j_where_2 j_token_3 j_number_4 j_word_5 j_wrong_6 i_farCrossing m_read i_z0 i_crossings i_inns m_posts m_shut m_here i_steps i_done i_at i_gone m_was m_came m_seenAt m_rowWorth m_farBy m_used i_everywhere i_again0 i_d0 i_never i_firstCame i_longRun i_moved i_crowd i_l0 i_fitMany i_fitLeast i_fitMost m_fitPost m_fitEnd m_keptPosts i_x0 g_all_7 3 i_where) (kV_RX12_115 C.2.2.2.2 (Nat.le_of_ble_eq_true rfl) (Nat.le_of_ble_eq_true rfl)) [1, 2] [1, 0] rfl rfl (ci := 11) (qc := (RX12, TX12, 43)) rfl rfl (List.mem_flatten.mpr ⟨_, List.mem_of_getElem? (i := 0) rfl, List.mem_cons_self⟩) rfl rfl hl.1 dX12_dayLine_36 (Nat.le_of_ble_eq_true rfl) (Nat.le_of_ble_eq_true rfl) (fun b1 H locs hw G => ?_)
      refine zEx1 hw ?_
      intro g_all_130
      refine zCu3 ?_
      intro hbs9 h_131 h_132
      clear hw
      subst hbs9
      have G : zS T A s.heap s [[zAr T 0 m_read 121 f_read], [zO11 mo m_all m_has i_size j_next_1 j_where_2 j_token_3 j_number_4 j_word_5 j_wrong_6 i_farCrossing m_read i_z0 i_crossings i_inns m_posts m_shut m_here i_steps i_done i_at i_gone m_was m_came m_seenAt m_rowWorth m_farBy m_used i_everywhere i_again0 i_d0 i_never i_firstCame i_longRun i_moved i_crowd i_l0 i_fitMany i_fitLeast i_fitMost m_fitPost m_fitEnd m_keptPosts i_x0], [zAr T 0 m_all 3952 g_all_130]] _ _ := G
      have h_132 : g_all_130 = (if ¬ j_wrong_6.toInt = 0 ∨ (¬ (g_all_7 5).toInt = 0 ∧ ((g_all_7 6).toInt < i_where.toInt ∨ ((g_all_7 6).toInt = i_where.toInt ∧ (g_all_7 5).toInt ≤ (3 : Int)))) then g_all_7 else upd (upd g_all_7 5 3) 6 i_where) := h_132
      obtain ⟨b, hbq⟩ : ∃ b, b = pDB 40 i_where f_read d2 := ⟨_, rfl⟩
      have hRb : zRr k n i_size j_next_1 j_where_2 j_token_3 j_number_4 j_word_5 j_wrong_6 i_farCrossing g_all_130 b := by rw [hbq]; unfold pDB; rw [if_pos (by omega)]; exact zRr_also (kd := 3) (w := i_where) hRd h_132
      exact jn_39 g_all_130 b (show b = pDB 40 i_where f_read d2 ∧ zRr k n i_size j_next_1 j_where_2 j_token_3 j_number_4 j_word_5 j_wrong_6 i_farCrossing g_all_130 b ∧ zPal f_all g_all_130 from ⟨hbq, hRb, (h_12.tr h_131)⟩) _ _ ls G (lv_sub hl [0, 1, 2] rfl)

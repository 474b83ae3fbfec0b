theorem zRc_st {k : pT} {n : Nat} {ft : Nat → Int32} {r2 r3 r4 r5 r6 : Int32} (hk : k = tkT ft n) (hn : n ≤ 600) (h2 : r2 = nI n) (hT : zTokC k 0 r3 r4 r5 r6) : zRc k n ft 0 (-1) r2 r3 r4 r5 r6 0 (0, 0, 0, -1, -1) := by
  have ho : pOk k n := by rw [hk]; exact tkT_ok _ _
  exact ⟨⟨hk, hn, h2, Nat.zero_le _⟩, rfl, fun _ => hT, rfl, rfl, Or.inl ⟨by show (0 : Int32).toInt = 0; rfl, fun q => absurd (show (0 : Int32).toInt = 0 from rfl) q⟩, _, (ho 0 (Nat.zero_le _)).1.2.2, hT.1⟩
theorem zLc_st {k1 k2 k3 k4 : Nat → Int32} (h1 : ∀ j, j < 7 → k1 j = 0) (h3 : ∀ j, j < 7 → k3 j = 0) (h4 : ∀ j, j < 7 → k4 j = 0) : zLc 0 0 k1 k2 k3 k4 0 (0, 0, 0, -1, -1) (fun _ => 0) := fun _ => ⟨rfl, by decide, rfl, fun j hj => ⟨h1 j hj, h3 j hj, h4 j hj⟩, fun j hj _ => h1 j hj, fun j r hj _ hr => by rw [h1 j hj] at hr; have : (0 : Int32).toInt = 0 := rfl; omega, zTof_0⟩
theorem zDc_st {d1 d2 d3 : Nat → Int32} : zDc 0 d1 d2 d3 (0, 0, 0, -1, -1) (fun _ => 0) := fun _ => ⟨rfl, by decide, fun j hj => by have hj : (j : Int) < (0 : Int32).toInt := hj; have : (0 : Int32).toInt = 0 := rfl; omega⟩
theorem zGc_st {d1 d2 : Nat → Int32} : zGc 0 d1 d2 (0, 0, 0, -1, -1) (fun _ => 0) := fun _ => ⟨rfl, by decide, fun j hj => by have hj : (j : Int) < (0 : Int32).toInt := hj; have : (0 : Int32).toInt = 0 := rfl; omega⟩
theorem pLines_n {k : pT} {s j : Nat} {a : pS} {f : Nat → Int32} {X : pS × (Nat → Int32)} (hj : j ≤ 600) (hw : a.2.1.toInt = 0) (ht : ¬ pTk k a.1 = 0) (h : pLines k s (601 - j) a f = X) : pLines k s (601 - (j + 1)) (pLine k s a f).1 (pLine k s a f).2 = X := by
  rw [show 601 - j = (601 - (j + 1)) + 1 by omega, pLines_s ⟨hw, ht⟩] at h
  exact h
theorem pLines_o {k : pT} {s j : Nat} {a : pS} {f : Nat → Int32} {X : pS × (Nat → Int32)} (hj : j ≤ 601) (h : 600 < j ∨ ¬ a.2.1.toInt = 0 ∨ pTk k a.1 = 0) (hE : pLines k s (601 - j) a f = X) : X = (a, f) := by
  rw [← hE]
  rcases h with h | h | h
  · rw [show 601 - j = 0 by omega]; rfl
  · exact pLines_x (fun z => h z.1)
  · exact pLines_x (fun z => z.2 h)
theorem pRead_e {k : pT} {n s : Nat} {a : pS} {f : Nat → Int32} (h : pLines k s 601 (0, 0, 0, -1, -1) (fun _ => 0) = (a, f)) : pRead k n s = pFin n s (a, f) := congrArg (pFin n s) h
theorem zLc_fin {cr inn tof : Int32} {k1 k2 k3 k4 f : Nat → Int32} {a : pS} {n : Nat} (h : zLc cr inn k1 k2 k3 k4 tof a f) : zLc cr inn k1 k2 k3 k4 tof (pFin n 0 (a, f)).1 (pFin n 0 (a, f)).2 := by
  intro q
  have e := pFin_f q
  rw [e] at q ⊢
  exact h q
set_option maxHeartbeats 4000000 in
set_option maxRecDepth 100000 in
/-- c_f_read0 -/
theorem c_f_read0 (l : Launch) (T : zTy) (rd : Nat) (rl : Nat) (rdd : Nat) (rg : Nat) (tp : Nat) (r0 : Int32) (r1 : Int32) (r2 : Int32) (r3 : Int32) (r4 : Int32) (r5 : Int32) (r6 : Int32) (r7 : Int32) (r8 : Int32) (tq : Nat) (ft : Nat → Int32) (cr : Int32) (inn : Int32) (k1 : Nat → Int32) (k2 : Nat → Int32) (k3 : Nat → Int32) (k4 : Nat → Int32) (z : va_W) (dd : Int32) (d1 : Nat → Int32) (d2 : Nat → Int32) (d3 : Nat → Int32) (wd : va_W) (gg : Int32) (e1 : Nat → Int32) (e2 : Nat → Int32) (wg : va_W) (n : Int32) (k : pT) (N : Nat) (hz : bLand T rl cr inn k1 k2 k3 k4 z) (hd : bDay T rdd dd d1 d2 d3 wd) (hg : bLog T rg gg e1 e2 wg) (hN : n = nI N) (hN6 : N ≤ 600) (hk : k = tkT ft N) : zMv l T yX7_read cX7_read 5 8 0 0 [.ref rd, .ref tp, .int n, .int 0] [[zO7 rd rl rdd rg r0 r1 tq r2 r3 r4 r5 r6 r7 r8], [zAr T 1 tp 600 ft], z, wd, wg] (fun bs => ∃ (u2 : Int32) (u0 : Int32) (u1 : Int32) (u3 : Int32) (u4 : Int32) (u5 : Int32) (u6 : Int32) (u7 : Int32) (u8 : Int32) (z2 : va_W) (c2 : Int32) (i2 : Int32) (j1 : Nat → Int32) (j2 : Nat → Int32) (j3 : Nat → Int32) (j4 : Nat → Int32) (wd2 : va_W) (wg2 : va_W), bs = [[zO7 rd rl rdd rg u0 u1 tp u2 u3 u4 u5 u6 u7 u8], [zAr T 1 tp 600 ft], z2, wd2, wg2] ∧ bLand T rl c2 i2 j1 j2 j3 j4 z2 ∧ zLI c2 j1 j3 ∧ bDay T rdd 0 d1 d2 d3 wd2 ∧ bLog T rg 0 e1 e2 wg2 ∧ u0 = (pRead k N 0).1.2.2.1 ∧ u1 = (pRead k N 0).1.2.2.2.1 ∧ zLc c2 i2 j1 j2 j3 j4 u8 (pRead k N 0).1 (pRead k N 0).2) := by
  refine zMv_of (own := RX7) (by decide) rfl (Nat.le_of_ble_eq_true rfl) ?_
  intro p e s m args below meth c A ls C hr hlocks hnm hAe G hl
  refine zHide (fun Q9 hQ9 => ?_)
  have hx := C.1
  have hb := C.2.1
  have hl : lv_has ls 5 [(0, .ref rd), (1, .ref tp), (2, .int n), (3, .int 0)] := hl
  refine lv_aload_n hx hb dX7_read_0 rfl (lv_at hl 0 rfl) ?_
  refine lv_aload_n hx hb dX7_read_1 rfl (lv_at hl 1 rfl) ?_
  refine z_put C G clX7 0 rfl 5 (by decide) m_fl_RX7_32 rfl rfl rfl (Nat.le_of_ble_eq_true rfl) dX7_read_2 (fun H locs G => ?_)
  have G : zS T A s.heap s [[zO7 rd rl rdd rg r0 r1 tp r2 r3 r4 r5 r6 r7 r8], [zAr T 1 tp 600 ft], z, wd, wg] _ _ := G
  refine lv_aload_n hx hb dX7_read_5 rfl (lv_at hl 0 rfl) ?_
  refine lv_iload_n hx hb dX7_read_6 rfl (lv_at hl 2 rfl) ?_
  refine lv_aload_n hx hb dX7_read_7 rfl (lv_at hl 1 rfl) ?_
  refine z_alen C G 1 1 rfl (v := 600) rfl rfl dX7_read_8 ?_
  refine va_mmin hx hb (C.2.2.1.trans hl.1.symm) C.2.2.2.1 (C.2.2.2.2 _ m_ml_RX7_36) (C.2.2.2.2 _ m_st_math_min) (C.2.2.2.2 _ m_ii_math) (C.2.2.2.2 _ m_co_math_min) (Nat.le_of_ble_eq_true rfl) (Nat.le_of_ble_eq_true rfl) (Nat.le_of_ble_eq_true rfl) (Nat.le_of_ble_eq_true rfl) dX7_read_9 ?_
  refine lv_topi (fun v_1 ev_1 => ?_)
  have hlen : v_1 = nI N := by rw [ev_1, if_neg (fun z9 => by have z8 := (fa_lt _ _).mp z9; rw [hN, nI_toInt (by omega)] at z8; have z7 : (600 : Int32).toInt = 600 := rfl; omega)]; exact hN
  refine z_put C G clX7 0 rfl 6 (by decide) m_fl_RX7_42 rfl rfl rfl (Nat.le_of_ble_eq_true rfl) dX7_read_12 (fun H locs G => ?_)
  have G : zS T A s.heap s [[zO7 rd rl rdd rg r0 r1 tp v_1 r3 r4 r5 r6 r7 r8], [zAr T 1 tp 600 ft], z, wd, wg] _ _ := G
  refine lv_aload_n hx hb dX7_read_15 rfl (lv_at hl 0 rfl) ?_
  refine lv_iconst (v := 0) hx hb dX7_read_16 (by decide) ?_
  refine z_put C G clX7 0 rfl 7 (by decide) m_fl_RX7_46 rfl rfl rfl (Nat.le_of_ble_eq_true rfl) dX7_read_17 (fun H locs G => ?_)
  have G : zS T A s.heap s [[zO7 rd rl rdd rg r0 r1 tp v_1 0 r4 r5 r6 r7 r8], [zAr T 1 tp 600 ft], z, wd, wg] _ _ := G
  refine lv_aload_n hx hb dX7_read_20 rfl (lv_at hl 0 rfl) ?_
  refine lv_iconst (v := 0) hx hb dX7_read_21 (by decide) ?_
  refine z_put C G clX7 0 rfl 3 (by decide) m_fl_RX7_49 rfl rfl rfl (Nat.le_of_ble_eq_true rfl) dX7_read_22 (fun H locs G => ?_)
  have G : zS T A s.heap s [[zO7 rd rl rdd rg 0 r1 tp v_1 0 r4 r5 r6 r7 r8], [zAr T 1 tp 600 ft], z, wd, wg] _ _ := G
  refine lv_aload_n hx hb dX7_read_25 rfl (lv_at hl 0 rfl) ?_
  refine lv_iconst (v := (-1)) hx hb dX7_read_26 (by decide) ?_
  refine z_put C G clX7 0 rfl 4 (by decide) m_fl_RX7_52 rfl rfl rfl (Nat.le_of_ble_eq_true rfl) dX7_read_27 (fun H locs G => ?_)
  have G : zS T A s.heap s [[zO7 rd rl rdd rg 0 (-1) tp v_1 0 r4 r5 r6 r7 r8], [zAr T 1 tp 600 ft], z, wd, wg] _ _ := G
  refine lv_aload_n hx hb dX7_read_30 rfl (lv_at hl 0 rfl) ?_
  refine lv_iconst (v := 0) hx hb dX7_read_31 (by decide) ?_
  refine z_put C G clX7 0 rfl 11 (by decide) m_fl_RX7_55 rfl rfl rfl (Nat.le_of_ble_eq_true rfl) dX7_read_32 (fun H locs G => ?_)
  have G : zS T A s.heap s [[zO7 rd rl rdd rg 0 (-1) tp v_1 0 r4 r5 r6 0 r8], [zAr T 1 tp 600 ft], z, wd, wg] _ _ := G
  refine lv_aload_n hx hb dX7_read_35 rfl (lv_at hl 0 rfl) ?_
  refine lv_iconst (v := 0) hx hb dX7_read_36 (by decide) ?_
  refine z_put C G clX7 0 rfl 12 (by decide) m_fl_RX7_59 rfl rfl rfl (Nat.le_of_ble_eq_true rfl) dX7_read_37 (fun H locs G => ?_)
  have G : zS T A s.heap s [[zO7 rd rl rdd rg 0 (-1) tp v_1 0 r4 r5 r6 0 0], [zAr T 1 tp 600 ft], z, wd, wg] _ _ := G
  refine lv_aload_n hx hb dX7_read_40 rfl (lv_at hl 0 rfl) ?_
  refine z_get C G clX7 0 rfl 0 (by decide) m_fl_RX7_12 rfl dX7_read_41 ?_
  refine z_Vv (bc := [z]) (br := [[zO7 rd rl rdd rg 0 (-1) tp v_1 0 r4 r5 r6 0 0], [zAr T 1 tp 600 ft], wd, wg]) (As := []) (rest := []) C G (c_Land_clear l T rl cr inn k1 k2 k3 k4 z hz) (kV_RX7_62 C.2.2.2.2 (Nat.le_of_ble_eq_true rfl) (Nat.le_of_ble_eq_true rfl)) [2] [2] rfl rfl (ci := 4) (qc := (RX4, TX4, 6)) rfl rfl (List.mem_flatten.mpr ⟨_, List.mem_of_getElem? (i := 0) rfl, (bLand_mem hz).choose_spec⟩) rfl rfl hl.1 dX7_read_44 (Nat.le_of_ble_eq_true rfl) (Nat.le_of_ble_eq_true rfl) (fun b1 H locs hw G => ?_)
  refine zEx4 hw ?_
  intro w2_2 g1_3 g3_4 g4_5
  refine zCu5 ?_
  intro hbs9 h_6 h_7 h_8 h_9
  clear hw
  subst hbs9
  have G : zS T A s.heap s [[zO7 rd rl rdd rg 0 (-1) tp v_1 0 r4 r5 r6 0 0], [zAr T 1 tp 600 ft], wd, wg, w2_2] _ _ := G
  have hI : zLI 0 g1_3 g3_4 := zLI_zero h_7 h_8
  refine lv_aload_n hx hb dX7_read_47 rfl (lv_at hl 0 rfl) ?_
  refine z_get C G clX7 0 rfl 1 (by decide) m_fl_RX7_21 rfl dX7_read_48 ?_
  refine lv_iconst (v := 0) hx hb dX7_read_51 (by decide) ?_
  refine zEx3 hd ?_
  intro a1_11 a2_12 a3_13 hbs9
  clear hd
  subst hbs9
  have G : zS T A s.heap s [[zO7 rd rl rdd rg 0 (-1) tp v_1 0 r4 r5 r6 0 0], [zAr T 1 tp 600 ft], [(rdd, .inr (2, [.int dd, .ref a1_11, .ref a2_12, .ref a3_13]))], [zAr T 0 a1_11 40 d1], [zAr T 0 a2_12 40 d2], [zAr T 0 a3_13 40 d3], wg, w2_2] _ _ := G.re rfl
  refine z_put C G clX2 2 rfl 0 (by decide) m_fl_RX7_65 rfl rfl rfl (Nat.le_of_ble_eq_true rfl) dX7_read_52 (fun H locs G => ?_)
  have G : zS T A s.heap s [[zO7 rd rl rdd rg 0 (-1) tp v_1 0 r4 r5 r6 0 0], [zAr T 1 tp 600 ft], [(rdd, .inr (2, [.int 0, .ref a1_11, .ref a2_12, .ref a3_13]))], [zAr T 0 a1_11 40 d1], [zAr T 0 a2_12 40 d2], [zAr T 0 a3_13 40 d3], wg, w2_2] _ _ := G
  refine lv_aload_n hx hb dX7_read_55 rfl (lv_at hl 0 rfl) ?_
  refine z_get C G clX7 0 rfl 2 (by decide) m_fl_RX7_28 rfl dX7_read_56 ?_
  refine lv_iconst (v := 0) hx hb dX7_read_59 (by decide) ?_
  refine zEx2 hg ?_
  intro a1_14 a2_15 hbs9
  clear hg
  subst hbs9
  have G : zS T A s.heap s [[zO7 rd rl rdd rg 0 (-1) tp v_1 0 r4 r5 r6 0 0], [zAr T 1 tp 600 ft], [(rdd, .inr (2, [.int 0, .ref a1_11, .ref a2_12, .ref a3_13]))], [zAr T 0 a1_11 40 d1], [zAr T 0 a2_12 40 d2], [zAr T 0 a3_13 40 d3], [(rg, .inr (5, [.int gg, .ref a1_14, .ref a2_15]))], [zAr T 0 a1_14 8 e1], [zAr T 0 a2_15 8 e2], w2_2] _ _ := G.re rfl
  refine z_put C G clX5 6 rfl 0 (by decide) m_fl_RX7_68 rfl rfl rfl (Nat.le_of_ble_eq_true rfl) dX7_read_60 (fun H locs G => ?_)
  have G : zS T A s.heap s [[zO7 rd rl rdd rg 0 (-1) tp v_1 0 r4 r5 r6 0 0], [zAr T 1 tp 600 ft], [(rdd, .inr (2, [.int 0, .ref a1_11, .ref a2_12, .ref a3_13]))], [zAr T 0 a1_11 40 d1], [zAr T 0 a2_12 40 d2], [zAr T 0 a3_13 40 d3], [(rg, .inr (5, [.int 0, .ref a1_14, .ref a2_15]))], [zAr T 0 a1_14 8 e1], [zAr T 0 a2_15 8 e2], w2_2] _ _ := G
  refine lv_aload_n hx hb dX7_read_63 rfl (lv_at hl 0 rfl) ?_
  refine z_Vv (bc := [[zO7 rd rl rdd rg 0 (-1) tp v_1 0 r4 r5 r6 0 0], [zAr T 1 tp 600 ft]]) (br := [[(rdd, .inr (2, [.int 0, .ref a1_11, .ref a2_12, .ref a3_13]))], [zAr T 0 a1_11 40 d1], [zAr T 0 a2_12 40 d2], [zAr T 0 a3_13 40 d3], [(rg, .inr (5, [.int 0, .ref a1_14, .ref a2_15]))], [zAr T 0 a1_14 8 e1], [zAr T 0 a2_15 8 e2], w2_2]) (As := []) (rest := []) C G (c_f_nextToken l T rd rl rdd rg tp 0 (-1) v_1 0 r4 r5 r6 0 0 ft 0 N k rfl (Nat.zero_le _) hk hlen hN6) (kV_RX7_71 C.2.2.2.2 (Nat.le_of_ble_eq_true rfl) (Nat.le_of_ble_eq_true rfl)) [0, 1] [0, 0] rfl rfl (ci := 7) (qc := (RX7, TX7, 13)) rfl rfl (List.mem_flatten.mpr ⟨_, List.mem_of_getElem? (i := 0) rfl, List.mem_cons_self⟩) rfl rfl hl.1 dX7_read_64 (Nat.le_of_ble_eq_true rfl) (Nat.le_of_ble_eq_true rfl) (fun b1 H locs hw G => ?_)
  refine zEx4 hw ?_
  intro u3_16 u4_17 u5_18 u6_19
  refine zCu2 ?_
  intro hbs9 h_20
  clear hw
  subst hbs9
  have G : zS T A s.heap s [[(rdd, .inr (2, [.int 0, .ref a1_11, .ref a2_12, .ref a3_13]))], [zAr T 0 a1_11 40 d1], [zAr T 0 a2_12 40 d2], [zAr T 0 a3_13 40 d3], [(rg, .inr (5, [.int 0, .ref a1_14, .ref a2_15]))], [zAr T 0 a1_14 8 e1], [zAr T 0 a2_15 8 e2], w2_2, [zO7 rd rl rdd rg 0 (-1) tp v_1 u3_16 u4_17 u5_18 u6_19 0 0], [zAr T 1 tp 600 ft]] _ _ := G
  refine lv_iconst (v := 0) hx hb dX7_read_67 (by decide) ?_
  refine lv_istore (lv' := [(4, .int 0), (0, .ref rd), (1, .ref tp), (2, .int n), (3, .int 0)]) hx hb dX7_read_68 hl (by decide) rfl (fun ls hl => ?_)
  have hw_22 : bDay T rdd 0 d1 d2 d3 [(rdd, .inr (2, [.int 0, .ref a1_11, .ref a2_12, .ref a3_13])), zAr T 0 a1_11 40 d1, zAr T 0 a2_12 40 d2, zAr T 0 a3_13 40 d3] := ⟨a1_11, a2_12, a3_13, rfl⟩
  have G : zS T A s.heap s [[(rdd, .inr (2, [.int 0, .ref a1_11, .ref a2_12, .ref a3_13])), zAr T 0 a1_11 40 d1, zAr T 0 a2_12 40 d2, zAr T 0 a3_13 40 d3], [(rg, .inr (5, [.int 0, .ref a1_14, .ref a2_15]))], [zAr T 0 a1_14 8 e1], [zAr T 0 a2_15 8 e2], w2_2, [zO7 rd rl rdd rg 0 (-1) tp v_1 u3_16 u4_17 u5_18 u6_19 0 0], [zAr T 1 tp 600 ft]] _ _ := G.re rfl
  have hw_23 : bLog T rg 0 e1 e2 [(rg, .inr (5, [.int 0, .ref a1_14, .ref a2_15])), zAr T 0 a1_14 8 e1, zAr T 0 a2_15 8 e2] := ⟨a1_14, a2_15, rfl⟩
  have G : zS T A s.heap s [[(rdd, .inr (2, [.int 0, .ref a1_11, .ref a2_12, .ref a3_13])), zAr T 0 a1_11 40 d1, zAr T 0 a2_12 40 d2, zAr T 0 a3_13 40 d3], [(rg, .inr (5, [.int 0, .ref a1_14, .ref a2_15])), zAr T 0 a1_14 8 e1, zAr T 0 a2_15 8 e2], w2_2, [zO7 rd rl rdd rg 0 (-1) tp v_1 u3_16 u4_17 u5_18 u6_19 0 0], [zAr T 1 tp 600 ft]] _ _ := G.re rfl
  refine z_lp18 (T := T) 70 (fun (j : Nat) (A9 : pS) (fr : Nat → Int32) (y0 : Int32) (y1 : Int32) (y3 : Int32) (y4 : Int32) (y5 : Int32) (y6 : Int32) (y7 : Int32) (y8 : Int32) (z3 : va_W) (cc_ : Int32) (ci_ : Int32) (x1 : Nat → Int32) (x2 : Nat → Int32) (x3 : Nat → Int32) (x4 : Nat → Int32) => [[(rdd, .inr (2, [.int 0, .ref a1_11, .ref a2_12, .ref a3_13])), zAr T 0 a1_11 40 d1, zAr T 0 a2_12 40 d2, zAr T 0 a3_13 40 d3], [(rg, .inr (5, [.int 0, .ref a1_14, .ref a2_15])), zAr T 0 a1_14 8 e1, zAr T 0 a2_15 8 e2], z3, [zO7 rd rl rdd rg y0 y1 tp v_1 y3 y4 y5 y6 y7 y8], [zAr T 1 tp 600 ft]]) (fun (j : Nat) (A9 : pS) (fr : Nat → Int32) (y0 : Int32) (y1 : Int32) (y3 : Int32) (y4 : Int32) (y5 : Int32) (y6 : Int32) (y7 : Int32) (y8 : Int32) (z3 : va_W) (cc_ : Int32) (ci_ : Int32) (x1 : Nat → Int32) (x2 : Nat → Int32) (x3 : Nat → Int32) (x4 : Nat → Int32) => [(4, .int (nI j)), (0, .ref rd), (3, .int 0)]) (fun (j : Nat) (A9 : pS) (fr : Nat → Int32) (y0 : Int32) (y1 : Int32) (y3 : Int32) (y4 : Int32) (y5 : Int32) (y6 : Int32) (y7 : Int32) (y8 : Int32) (z3 : va_W) (cc_ : Int32) (ci_ : Int32) (x1 : Nat → Int32) (x2 : Nat → Int32) (x3 : Nat → Int32) (x4 : Nat → Int32) => bLand T rl cc_ ci_ x1 x2 x3 x4 z3 ∧ j ≤ 601 ∧ zRc k N ft y0 y1 v_1 y3 y4 y5 y6 y7 A9 ∧ pLines k 0 (601 - j) A9 fr = pLines k 0 601 (0, 0, 0, -1, -1) (fun _ => 0) ∧ zLc cc_ ci_ x1 x2 x3 x4 y8 A9 fr ∧ zLI cc_ x1 x3) (fun (j : Nat) (A9 : pS) (fr : Nat → Int32) (y0 : Int32) (y1 : Int32) (y3 : Int32) (y4 : Int32) (y5 : Int32) (y6 : Int32) (y7 : Int32) (y8 : Int32) (z3 : va_W) (cc_ : Int32) (ci_ : Int32) (x1 : Nat → Int32) (x2 : Nat → Int32) (x3 : Nat → Int32) (x4 : Nat → Int32) => 601 - j) ?_ 0 (0, 0, 0, -1, -1) (fun _ => 0) 0 (-1) u3_16 u4_17 u5_18 u6_19 0 0 w2_2 0 0 g1_3 k2 g3_4 g4_5 (show bLand T rl 0 0 g1_3 k2 g3_4 g4_5 w2_2 ∧ 0 ≤ 601 ∧ zRc k N ft 0 (-1) v_1 u3_16 u4_17 u5_18 u6_19 0 (0, 0, 0, -1, -1) ∧ pLines k 0 (601 - 0) (0, 0, 0, -1, -1) (fun _ => 0) = pLines k 0 601 (0, 0, 0, -1, -1) (fun _ => 0) ∧ zLc 0 0 g1_3 k2 g3_4 g4_5 0 (0, 0, 0, -1, -1) (fun _ => 0) ∧ zLI 0 g1_3 g3_4 from ⟨h_6, by omega, (zRc_st hk hN6 hlen h_20), rfl, (zLc_st h_7 h_8 h_9), hI⟩) G (lv_sub hl [0, 1, 4] rfl)
  intro j A9 fr y0 y1 y3 y4 y5 y6 y7 y8 z3 cc_ ci_ x1 x2 x3 x4 hI9 ih_70 H locs ls G hl
  replace hI9 : bLand T rl cc_ ci_ x1 x2 x3 x4 z3 ∧ j ≤ 601 ∧ zRc k N ft y0 y1 v_1 y3 y4 y5 y6 y7 A9 ∧ pLines k 0 (601 - j) A9 fr = pLines k 0 601 (0, 0, 0, -1, -1) (fun _ => 0) ∧ zLc cc_ ci_ x1 x2 x3 x4 y8 A9 fr ∧ zLI cc_ x1 x3 := hI9
  refine zAn6 hI9 ?_
  intro hz3 hj hBA hEq hCC hI2
  clear hI9
  replace G : zS T A s.heap s [[(rdd, .inr (2, [.int 0, .ref a1_11, .ref a2_12, .ref a3_13])), zAr T 0 a1_11 40 d1, zAr T 0 a2_12 40 d2, zAr T 0 a3_13 40 d3], [(rg, .inr (5, [.int 0, .ref a1_14, .ref a2_15])), zAr T 0 a1_14 8 e1, zAr T 0 a2_15 8 e2], z3, [zO7 rd rl rdd rg y0 y1 tp v_1 y3 y4 y5 y6 y7 y8], [zAr T 1 tp 600 ft]] _ _ := G
  replace hl : lv_has ls 5 [(4, .int (nI j)), (0, .ref rd), (3, .int 0)] := hl
  refine lv_iload hx hb dX7_read_70 (lv_at hl 0 rfl) ?_
  have hokA := zRc_ok hBA
  obtain ⟨hA1A, hA6A, hA7A, hA8A, hA9A, hAIA, hAEA⟩ := id hBA
  have hkaA := hokA A9.1 hA1A.2.2.2
  refine lv_sipush (v := 600) hx hb dX7_read_72 (by decide) ?_
  refine lv_icmp_gt (tgt := 103) hx hb dX7_read_75 (by decide) (fun c_24 => ?_) (fun c_24 => ?_)
  · have c_24n : 600 < j := (nI_ltI (a := 600) (b := j) (by omega) (by omega)).mp c_24
    have hX := pLines_o hj (by first | exact Or.inl (by omega) | exact Or.inr (Or.inl (by rw [← hA6A]; omega)) | exact Or.inr (Or.inr (pTk_0.mpr (by omega)))) hEq
    have hRd := pRead_e (n := N) hX
    refine lv_iload_n hx hb dX7_read_103 rfl (lv_at hl 2 rfl) ?_
    refine lv_if_ne (tgt := 111) hx hb dX7_read_104 (by decide) (fun q => absurd (by decide) q) (fun _ => ?_)
    refine lv_aload_n hx hb dX7_read_107 rfl (lv_at hl 1 rfl) ?_
    refine z_Vv (bc := [[zO7 rd rl rdd rg y0 y1 tp v_1 y3 y4 y5 y6 y7 y8], z3]) (br := [[(rdd, .inr (2, [.int 0, .ref a1_11, .ref a2_12, .ref a3_13])), zAr T 0 a1_11 40 d1, zAr T 0 a2_12 40 d2, zAr T 0 a3_13 40 d3], [(rg, .inr (5, [.int 0, .ref a1_14, .ref a2_15])), zAr T 0 a1_14 8 e1, zAr T 0 a2_15 8 e2], [zAr T 1 tp 600 ft]]) (As := []) (rest := []) C G (c_f_lookAtWhole l T rd rl rdd rg tp y0 y1 v_1 y3 y4 y5 y6 y7 y8 cc_ ci_ x1 x2 x3 x4 z3 ft k N A9 fr hz3 hI2 hBA hCC) (kV_RX7_81 C.2.2.2.2 (Nat.le_of_ble_eq_true rfl) (Nat.le_of_ble_eq_true rfl)) [3, 2] [2, 0] rfl rfl (ci := 7) (qc := (RX7, TX7, 13)) rfl rfl (List.mem_flatten.mpr ⟨_, List.mem_of_getElem? (i := 0) rfl, List.mem_cons_self⟩) rfl rfl hl.1 dX7_read_108 (Nat.le_of_ble_eq_true rfl) (Nat.le_of_ble_eq_true rfl) (fun b1 H locs hw G => ?_)
    refine zEx2 hw ?_
    intro u0_25 u1_26
    refine zCu3 ?_
    intro hbs9 h_27 h_28
    clear hw
    subst hbs9
    have G : zS T A s.heap s [[(rdd, .inr (2, [.int 0, .ref a1_11, .ref a2_12, .ref a3_13])), zAr T 0 a1_11 40 d1, zAr T 0 a2_12 40 d2, zAr T 0 a3_13 40 d3], [(rg, .inr (5, [.int 0, .ref a1_14, .ref a2_15])), zAr T 0 a1_14 8 e1, zAr T 0 a2_15 8 e2], [zAr T 1 tp 600 ft], [zO7 rd rl rdd rg u0_25 u1_26 tp v_1 y3 y4 y5 y6 y7 y8], z3] _ _ := G
    have G := G.sub (bs' := [[zO7 rd rl rdd rg u0_25 u1_26 tp v_1 y3 y4 y5 y6 y7 y8], [zAr T 1 tp 600 ft], z3, [(rdd, .inr (2, [.int 0, .ref a1_11, .ref a2_12, .ref a3_13])), zAr T 0 a1_11 40 d1, zAr T 0 a2_12 40 d2, zAr T 0 a3_13 40 d3], [(rg, .inr (5, [.int 0, .ref a1_14, .ref a2_15])), zAr T 0 a1_14 8 e1, zAr T 0 a2_15 8 e2]]) [3, 2, 4, 0, 1] rfl
    exact z_back hQ9 (z_vret C hr hlocks G (Nat.le_of_ble_eq_true rfl) (Nat.le_of_ble_eq_true rfl) dX7_read_111 ⟨v_1, u0_25, u1_26, y3, y4, y5, y6, y7, y8, z3, cc_, ci_, x1, x2, x3, x4, ([(rdd, .inr (2, [.int 0, .ref a1_11, .ref a2_12, .ref a3_13])), zAr T 0 a1_11 40 d1, zAr T 0 a2_12 40 d2, zAr T 0 a3_13 40 d3]), ([(rg, .inr (5, [.int 0, .ref a1_14, .ref a2_15])), zAr T 0 a1_14 8 e1, zAr T 0 a2_15 8 e2]), rfl, hz3, hI2, hw_22, hw_23, (by rw [hRd]; exact h_27), (by rw [hRd]; exact h_28), (by rw [hRd]; exact zLc_fin hCC)⟩)
  · have c_24n : ¬ 600 < j := fun q => c_24 ((nI_ltI (a := 600) (b := j) (by omega) (by omega)).mpr q)
    refine lv_aload_n hx hb dX7_read_78 rfl (lv_at hl 1 rfl) ?_
    refine z_get C G clX7 3 rfl 11 (by decide) m_fl_RX7_55 rfl dX7_read_79 ?_
    refine lv_if_ne (tgt := 103) hx hb dX7_read_82 (by decide) (fun c_30 => ?_) (fun c_30 => ?_)
    · have c_30n : ¬ y7.toInt = (0 : Int) := fun q => c_30 ((fa_eq _ _).mpr q)
      have hX := pLines_o hj (by first | exact Or.inl (by omega) | exact Or.inr (Or.inl (by rw [← hA6A]; omega)) | exact Or.inr (Or.inr (pTk_0.mpr (by omega)))) hEq
      have hRd := pRead_e (n := N) hX
      refine lv_iload_n hx hb dX7_read_103 rfl (lv_at hl 2 rfl) ?_
      refine lv_if_ne (tgt := 111) hx hb dX7_read_104 (by decide) (fun q => absurd (by decide) q) (fun _ => ?_)
      refine lv_aload_n hx hb dX7_read_107 rfl (lv_at hl 1 rfl) ?_
      refine z_Vv (bc := [[zO7 rd rl rdd rg y0 y1 tp v_1 y3 y4 y5 y6 y7 y8], z3]) (br := [[(rdd, .inr (2, [.int 0, .ref a1_11, .ref a2_12, .ref a3_13])), zAr T 0 a1_11 40 d1, zAr T 0 a2_12 40 d2, zAr T 0 a3_13 40 d3], [(rg, .inr (5, [.int 0, .ref a1_14, .ref a2_15])), zAr T 0 a1_14 8 e1, zAr T 0 a2_15 8 e2], [zAr T 1 tp 600 ft]]) (As := []) (rest := []) C G (c_f_lookAtWhole l T rd rl rdd rg tp y0 y1 v_1 y3 y4 y5 y6 y7 y8 cc_ ci_ x1 x2 x3 x4 z3 ft k N A9 fr hz3 hI2 hBA hCC) (kV_RX7_81 C.2.2.2.2 (Nat.le_of_ble_eq_true rfl) (Nat.le_of_ble_eq_true rfl)) [3, 2] [2, 0] rfl rfl (ci := 7) (qc := (RX7, TX7, 13)) rfl rfl (List.mem_flatten.mpr ⟨_, List.mem_of_getElem? (i := 0) rfl, List.mem_cons_self⟩) rfl rfl hl.1 dX7_read_108 (Nat.le_of_ble_eq_true rfl) (Nat.le_of_ble_eq_true rfl) (fun b1 H locs hw G => ?_)
      refine zEx2 hw ?_
      intro u0_31 u1_32
      refine zCu3 ?_
      intro hbs9 h_33 h_34
      clear hw
      subst hbs9
      have G : zS T A s.heap s [[(rdd, .inr (2, [.int 0, .ref a1_11, .ref a2_12, .ref a3_13])), zAr T 0 a1_11 40 d1, zAr T 0 a2_12 40 d2, zAr T 0 a3_13 40 d3], [(rg, .inr (5, [.int 0, .ref a1_14, .ref a2_15])), zAr T 0 a1_14 8 e1, zAr T 0 a2_15 8 e2], [zAr T 1 tp 600 ft], [zO7 rd rl rdd rg u0_31 u1_32 tp v_1 y3 y4 y5 y6 y7 y8], z3] _ _ := G
      have G := G.sub (bs' := [[zO7 rd rl rdd rg u0_31 u1_32 tp v_1 y3 y4 y5 y6 y7 y8], [zAr T 1 tp 600 ft], z3, [(rdd, .inr (2, [.int 0, .ref a1_11, .ref a2_12, .ref a3_13])), zAr T 0 a1_11 40 d1, zAr T 0 a2_12 40 d2, zAr T 0 a3_13 40 d3], [(rg, .inr (5, [.int 0, .ref a1_14, .ref a2_15])), zAr T 0 a1_14 8 e1, zAr T 0 a2_15 8 e2]]) [3, 2, 4, 0, 1] rfl
      exact z_back hQ9 (z_vret C hr hlocks G (Nat.le_of_ble_eq_true rfl) (Nat.le_of_ble_eq_true rfl) dX7_read_111 ⟨v_1, u0_31, u1_32, y3, y4, y5, y6, y7, y8, z3, cc_, ci_, x1, x2, x3, x4, ([(rdd, .inr (2, [.int 0, .ref a1_11, .ref a2_12, .ref a3_13])), zAr T 0 a1_11 40 d1, zAr T 0 a2_12 40 d2, zAr T 0 a3_13 40 d3]), ([(rg, .inr (5, [.int 0, .ref a1_14, .ref a2_15])), zAr T 0 a1_14 8 e1, zAr T 0 a2_15 8 e2]), rfl, hz3, hI2, hw_22, hw_23, (by rw [hRd]; exact h_33), (by rw [hRd]; exact h_34), (by rw [hRd]; exact zLc_fin hCC)⟩)
    · have c_30n : y7.toInt = (0 : Int) := (fa_eq _ _).mp c_30
      have hwA : A9.2.1.toInt = 0 := by rw [← hA6A]; omega
      obtain ⟨t3A, t4A, t5A, t6A⟩ := hA7A hwA
      have t4iA : y4.toInt = (pCl k A9.1 : Int) := by rw [t4A]; exact nI_toInt (by omega)
      refine lv_aload_n hx hb dX7_read_85 rfl (lv_at hl 1 rfl) ?_
      refine z_get C G clX7 3 rfl 8 (by decide) m_fl_RX7_74 rfl dX7_read_86 ?_
      refine lv_if_eq (tgt := 103) hx hb dX7_read_89 (by decide) (fun c_36 => ?_) (fun c_36 => ?_)
      · have c_36n : y4.toInt = (0 : Int) := (fa_eq _ _).mp c_36
        have hX := pLines_o hj (by first | exact Or.inl (by omega) | exact Or.inr (Or.inl (by rw [← hA6A]; omega)) | exact Or.inr (Or.inr (pTk_0.mpr (by omega)))) hEq
        have hRd := pRead_e (n := N) hX
        refine lv_iload_n hx hb dX7_read_103 rfl (lv_at hl 2 rfl) ?_
        refine lv_if_ne (tgt := 111) hx hb dX7_read_104 (by decide) (fun q => absurd (by decide) q) (fun _ => ?_)
        refine lv_aload_n hx hb dX7_read_107 rfl (lv_at hl 1 rfl) ?_
        refine z_Vv (bc := [[zO7 rd rl rdd rg y0 y1 tp v_1 y3 y4 y5 y6 y7 y8], z3]) (br := [[(rdd, .inr (2, [.int 0, .ref a1_11, .ref a2_12, .ref a3_13])), zAr T 0 a1_11 40 d1, zAr T 0 a2_12 40 d2, zAr T 0 a3_13 40 d3], [(rg, .inr (5, [.int 0, .ref a1_14, .ref a2_15])), zAr T 0 a1_14 8 e1, zAr T 0 a2_15 8 e2], [zAr T 1 tp 600 ft]]) (As := []) (rest := []) C G (c_f_lookAtWhole l T rd rl rdd rg tp y0 y1 v_1 y3 y4 y5 y6 y7 y8 cc_ ci_ x1 x2 x3 x4 z3 ft k N A9 fr hz3 hI2 hBA hCC) (kV_RX7_81 C.2.2.2.2 (Nat.le_of_ble_eq_true rfl) (Nat.le_of_ble_eq_true rfl)) [3, 2] [2, 0] rfl rfl (ci := 7) (qc := (RX7, TX7, 13)) rfl rfl (List.mem_flatten.mpr ⟨_, List.mem_of_getElem? (i := 0) rfl, List.mem_cons_self⟩) rfl rfl hl.1 dX7_read_108 (Nat.le_of_ble_eq_true rfl) (Nat.le_of_ble_eq_true rfl) (fun b1 H locs hw G => ?_)
        refine zEx2 hw ?_
        intro u0_37 u1_38
        refine zCu3 ?_
        intro hbs9 h_39 h_40
        clear hw
        subst hbs9
        have G : zS T A s.heap s [[(rdd, .inr (2, [.int 0, .ref a1_11, .ref a2_12, .ref a3_13])), zAr T 0 a1_11 40 d1, zAr T 0 a2_12 40 d2, zAr T 0 a3_13 40 d3], [(rg, .inr (5, [.int 0, .ref a1_14, .ref a2_15])), zAr T 0 a1_14 8 e1, zAr T 0 a2_15 8 e2], [zAr T 1 tp 600 ft], [zO7 rd rl rdd rg u0_37 u1_38 tp v_1 y3 y4 y5 y6 y7 y8], z3] _ _ := G
        have G := G.sub (bs' := [[zO7 rd rl rdd rg u0_37 u1_38 tp v_1 y3 y4 y5 y6 y7 y8], [zAr T 1 tp 600 ft], z3, [(rdd, .inr (2, [.int 0, .ref a1_11, .ref a2_12, .ref a3_13])), zAr T 0 a1_11 40 d1, zAr T 0 a2_12 40 d2, zAr T 0 a3_13 40 d3], [(rg, .inr (5, [.int 0, .ref a1_14, .ref a2_15])), zAr T 0 a1_14 8 e1, zAr T 0 a2_15 8 e2]]) [3, 2, 4, 0, 1] rfl
        exact z_back hQ9 (z_vret C hr hlocks G (Nat.le_of_ble_eq_true rfl) (Nat.le_of_ble_eq_true rfl) dX7_read_111 ⟨v_1, u0_37, u1_38, y3, y4, y5, y6, y7, y8, z3, cc_, ci_, x1, x2, x3, x4, ([(rdd, .inr (2, [.int 0, .ref a1_11, .ref a2_12, .ref a3_13])), zAr T 0 a1_11 40 d1, zAr T 0 a2_12 40 d2, zAr T 0 a3_13 40 d3]), ([(rg, .inr (5, [.int 0, .ref a1_14, .ref a2_15])), zAr T 0 a1_14 8 e1, zAr T 0 a2_15 8 e2]), rfl, hz3, hI2, hw_22, hw_23, (by rw [hRd]; exact h_39), (by rw [hRd]; exact h_40), (by rw [hRd]; exact zLc_fin hCC)⟩)
      · have c_36n : ¬ y4.toInt = (0 : Int) := fun q => c_36 ((fa_eq _ _).mpr q)
        have htA : ¬ pTk k A9.1 = 0 := fun z9 => by have := pTk_0.mp z9; omega
        refine lv_aload_n hx hb dX7_read_92 rfl (lv_at hl 1 rfl) ?_
        refine lv_iload_n hx hb dX7_read_93 rfl (lv_at hl 2 rfl) ?_
        refine z_Vv (bc := [[zO7 rd rl rdd rg y0 y1 tp v_1 y3 y4 y5 y6 y7 y8], [zAr T 1 tp 600 ft], z3]) (br := [[(rdd, .inr (2, [.int 0, .ref a1_11, .ref a2_12, .ref a3_13])), zAr T 0 a1_11 40 d1, zAr T 0 a2_12 40 d2, zAr T 0 a3_13 40 d3], [(rg, .inr (5, [.int 0, .ref a1_14, .ref a2_15])), zAr T 0 a1_14 8 e1, zAr T 0 a2_15 8 e2]]) (As := [.int 0]) (rest := []) C G (c_f_readLine0 l T rd rl rdd rg tp y0 y1 v_1 y3 y4 y5 y6 y7 y8 ft cc_ ci_ x1 x2 x3 x4 z3 k N A9 fr hBA hwA hz3 hI2 hCC) (kV_RX7_77 C.2.2.2.2 (Nat.le_of_ble_eq_true rfl) (Nat.le_of_ble_eq_true rfl)) [3, 4, 2] [2, 0, 0] rfl rfl (ci := 7) (qc := (RX7, TX7, 13)) rfl rfl (List.mem_flatten.mpr ⟨_, List.mem_of_getElem? (i := 0) rfl, List.mem_cons_self⟩) rfl rfl hl.1 dX7_read_94 (Nat.le_of_ble_eq_true rfl) (Nat.le_of_ble_eq_true rfl) (fun b1 H locs hw G => ?_)
        refine zEx15 hw ?_
        intro u0_42 u1_43 u3_44 u4_45 u5_46 u6_47 u7_48 u8_49 z2_50 c2_51 i2_52 j1_53 j2_54 j3_55 j4_56
        refine zCu5 ?_
        intro hbs9 h_57 h_58 h_59 h_60
        clear hw
        subst hbs9
        have G : zS T A s.heap s [[(rdd, .inr (2, [.int 0, .ref a1_11, .ref a2_12, .ref a3_13])), zAr T 0 a1_11 40 d1, zAr T 0 a2_12 40 d2, zAr T 0 a3_13 40 d3], [(rg, .inr (5, [.int 0, .ref a1_14, .ref a2_15])), zAr T 0 a1_14 8 e1, zAr T 0 a2_15 8 e2], [zO7 rd rl rdd rg u0_42 u1_43 tp v_1 u3_44 u4_45 u5_46 u6_47 u7_48 u8_49], [zAr T 1 tp 600 ft], z2_50] _ _ := G
        have hnR := h_59
        have hnC := h_60
        have hnI := h_58
        refine lv_iinc (v := nI (j + 1)) (lv' := [(4, .int (nI (j + 1))), (0, .ref rd), (3, .int 0)]) hx hb dX7_read_97 hl (k := 0) rfl (z_inc j 1) (by decide) rfl (fun ls hl => ?_)
        refine lv_goto (tgt := 70) hx hb dX7_read_100 (by decide) ?_
        have G := G.sub (bs' := [[(rdd, .inr (2, [.int 0, .ref a1_11, .ref a2_12, .ref a3_13])), zAr T 0 a1_11 40 d1, zAr T 0 a2_12 40 d2, zAr T 0 a3_13 40 d3], [(rg, .inr (5, [.int 0, .ref a1_14, .ref a2_15])), zAr T 0 a1_14 8 e1, zAr T 0 a2_15 8 e2], z2_50, [zO7 rd rl rdd rg u0_42 u1_43 tp v_1 u3_44 u4_45 u5_46 u6_47 u7_48 u8_49], [zAr T 1 tp 600 ft]]) [0, 1, 4, 2, 3] rfl
        exact ih_70 (j + 1) ((pLine k 0 A9 fr).1) ((pLine k 0 A9 fr).2) u0_42 u1_43 u3_44 u4_45 u5_46 u6_47 u7_48 u8_49 z2_50 c2_51 i2_52 j1_53 j2_54 j3_55 j4_56 (show bLand T rl c2_51 i2_52 j1_53 j2_54 j3_55 j4_56 z2_50 ∧ (j + 1) ≤ 601 ∧ zRc k N ft u0_42 u1_43 v_1 u3_44 u4_45 u5_46 u6_47 u7_48 ((pLine k 0 A9 fr).1) ∧ pLines k 0 (601 - (j + 1)) ((pLine k 0 A9 fr).1) ((pLine k 0 A9 fr).2) = pLines k 0 601 (0, 0, 0, -1, -1) (fun _ => 0) ∧ zLc c2_51 i2_52 j1_53 j2_54 j3_55 j4_56 u8_49 ((pLine k 0 A9 fr).1) ((pLine k 0 A9 fr).2) ∧ zLI c2_51 j1_53 j3_55 from ⟨h_57, by omega, hnR, (pLines_n (by omega) hwA htA hEq), hnC, hnI⟩) (show 601 - (j + 1) < 601 - j from by omega) _ _ ls G (lv_sub hl [0, 1, 2] rfl)
set_option maxHeartbeats 4000000 in
set_option maxRecDepth 100000 in
/-- c_f_read1 -/
theorem c_f_read1 (l : Launch) (T : zTy) (rd : Nat) (rl : Nat) (rdd : Nat) (rg : Nat) (tp : Nat) (r0 : Int32) (r1 : Int32) (r2 : Int32) (r3 : Int32) (r4 : Int32) (r5 : Int32) (r6 : Int32) (r7 : Int32) (r8 : Int32) (tq : Nat) (ft : Nat → Int32) (cr : Int32) (inn : Int32) (k1 : Nat → Int32) (k2 : Nat → Int32) (k3 : Nat → Int32) (k4 : Nat → Int32) (z : va_W) (dd : Int32) (d1 : Nat → Int32) (d2 : Nat → Int32) (d3 : Nat → Int32) (wd : va_W) (gg : Int32) (e1 : Nat → Int32) (e2 : Nat → Int32) (wg : va_W) (n : Int32) (k : pT) (N : Nat) (hz : bLand T rl cr inn k1 k2 k3 k4 z) (hd : bDay T rdd dd d1 d2 d3 wd) (hg : bLog T rg gg e1 e2 wg) (hN : n = nI N) (hN6 : N ≤ 600) (hk : k = tkT ft N) : zMv l T yX7_read cX7_read 5 8 0 0 [.ref rd, .ref tp, .int n, .int 1] [[zO7 rd rl rdd rg r0 r1 tq r2 r3 r4 r5 r6 r7 r8], [zAr T 1 tp 600 ft], z, wd, wg] (fun bs => ∃ (u2 : Int32) (u0 : Int32) (u1 : Int32) (u3 : Int32) (u4 : Int32) (u5 : Int32) (u6 : Int32) (u7 : Int32) (u8 : Int32) (z2 : va_W) (j1 : Nat → Int32) (j2 : Nat → Int32) (j3 : Nat → Int32) (j4 : Nat → Int32) (wd2 : va_W) (dd2 : Int32) (b1 : Nat → Int32) (b2 : Nat → Int32) (b3 : Nat → Int32) (wg2 : va_W), bs = [[zO7 rd rl rdd rg u0 u1 tp u2 u3 u4 u5 u6 u7 u8], [zAr T 1 tp 600 ft], z2, wd2, wg2] ∧ bLand T rl 0 0 j1 j2 j3 j4 z2 ∧ zLI 0 j1 j3 ∧ bDay T rdd dd2 b1 b2 b3 wd2 ∧ bLog T rg 0 e1 e2 wg2 ∧ u0 = (pRead k N 1).1.2.2.1 ∧ u1 = (pRead k N 1).1.2.2.2.1 ∧ zDc dd2 b1 b2 b3 (pRead k N 1).1 (pRead k N 1).2) := by
  refine zMv_of (own := RX7) (by decide) rfl (Nat.le_of_ble_eq_true rfl) ?_
  intro p e s m args below meth c A ls C hr hlocks hnm hAe G hl
  refine zHide (fun Q9 hQ9 => ?_)
  have hx := C.1
  have hb := C.2.1
  have hl : lv_has ls 5 [(0, .ref rd), (1, .ref tp), (2, .int n), (3, .int 1)] := hl
  refine lv_aload_n hx hb dX7_read_0 rfl (lv_at hl 0 rfl) ?_
  refine lv_aload_n hx hb dX7_read_1 rfl (lv_at hl 1 rfl) ?_
  refine z_put C G clX7 0 rfl 5 (by decide) m_fl_RX7_32 rfl rfl rfl (Nat.le_of_ble_eq_true rfl) dX7_read_2 (fun H locs G => ?_)
  have G : zS T A s.heap s [[zO7 rd rl rdd rg r0 r1 tp r2 r3 r4 r5 r6 r7 r8], [zAr T 1 tp 600 ft], z, wd, wg] _ _ := G
  refine lv_aload_n hx hb dX7_read_5 rfl (lv_at hl 0 rfl) ?_
  refine lv_iload_n hx hb dX7_read_6 rfl (lv_at hl 2 rfl) ?_
  refine lv_aload_n hx hb dX7_read_7 rfl (lv_at hl 1 rfl) ?_
  refine z_alen C G 1 1 rfl (v := 600) rfl rfl dX7_read_8 ?_
  refine va_mmin hx hb (C.2.2.1.trans hl.1.symm) C.2.2.2.1 (C.2.2.2.2 _ m_ml_RX7_36) (C.2.2.2.2 _ m_st_math_min) (C.2.2.2.2 _ m_ii_math) (C.2.2.2.2 _ m_co_math_min) (Nat.le_of_ble_eq_true rfl) (Nat.le_of_ble_eq_true rfl) (Nat.le_of_ble_eq_true rfl) (Nat.le_of_ble_eq_true rfl) dX7_read_9 ?_
  refine lv_topi (fun v_1 ev_1 => ?_)
  have hlen : v_1 = nI N := by rw [ev_1, if_neg (fun z9 => by have z8 := (fa_lt _ _).mp z9; rw [hN, nI_toInt (by omega)] at z8; have z7 : (600 : Int32).toInt = 600 := rfl; omega)]; exact hN
  refine z_put C G clX7 0 rfl 6 (by decide) m_fl_RX7_42 rfl rfl rfl (Nat.le_of_ble_eq_true rfl) dX7_read_12 (fun H locs G => ?_)
  have G : zS T A s.heap s [[zO7 rd rl rdd rg r0 r1 tp v_1 r3 r4 r5 r6 r7 r8], [zAr T 1 tp 600 ft], z, wd, wg] _ _ := G
  refine lv_aload_n hx hb dX7_read_15 rfl (lv_at hl 0 rfl) ?_
  refine lv_iconst (v := 0) hx hb dX7_read_16 (by decide) ?_
  refine z_put C G clX7 0 rfl 7 (by decide) m_fl_RX7_46 rfl rfl rfl (Nat.le_of_ble_eq_true rfl) dX7_read_17 (fun H locs G => ?_)
  have G : zS T A s.heap s [[zO7 rd rl rdd rg r0 r1 tp v_1 0 r4 r5 r6 r7 r8], [zAr T 1 tp 600 ft], z, wd, wg] _ _ := G
  refine lv_aload_n hx hb dX7_read_20 rfl (lv_at hl 0 rfl) ?_
  refine lv_iconst (v := 0) hx hb dX7_read_21 (by decide) ?_
  refine z_put C G clX7 0 rfl 3 (by decide) m_fl_RX7_49 rfl rfl rfl (Nat.le_of_ble_eq_true rfl) dX7_read_22 (fun H locs G => ?_)
  have G : zS T A s.heap s [[zO7 rd rl rdd rg 0 r1 tp v_1 0 r4 r5 r6 r7 r8], [zAr T 1 tp 600 ft], z, wd, wg] _ _ := G
  refine lv_aload_n hx hb dX7_read_25 rfl (lv_at hl 0 rfl) ?_
  refine lv_iconst (v := (-1)) hx hb dX7_read_26 (by decide) ?_
  refine z_put C G clX7 0 rfl 4 (by decide) m_fl_RX7_52 rfl rfl rfl (Nat.le_of_ble_eq_true rfl) dX7_read_27 (fun H locs G => ?_)
  have G : zS T A s.heap s [[zO7 rd rl rdd rg 0 (-1) tp v_1 0 r4 r5 r6 r7 r8], [zAr T 1 tp 600 ft], z, wd, wg] _ _ := G
  refine lv_aload_n hx hb dX7_read_30 rfl (lv_at hl 0 rfl) ?_
  refine lv_iconst (v := 0) hx hb dX7_read_31 (by decide) ?_
  refine z_put C G clX7 0 rfl 11 (by decide) m_fl_RX7_55 rfl rfl rfl (Nat.le_of_ble_eq_true rfl) dX7_read_32 (fun H locs G => ?_)
  have G : zS T A s.heap s [[zO7 rd rl rdd rg 0 (-1) tp v_1 0 r4 r5 r6 0 r8], [zAr T 1 tp 600 ft], z, wd, wg] _ _ := G
  refine lv_aload_n hx hb dX7_read_35 rfl (lv_at hl 0 rfl) ?_
  refine lv_iconst (v := 0) hx hb dX7_read_36 (by decide) ?_
  refine z_put C G clX7 0 rfl 12 (by decide) m_fl_RX7_59 rfl rfl rfl (Nat.le_of_ble_eq_true rfl) dX7_read_37 (fun H locs G => ?_)
  have G : zS T A s.heap s [[zO7 rd rl rdd rg 0 (-1) tp v_1 0 r4 r5 r6 0 0], [zAr T 1 tp 600 ft], z, wd, wg] _ _ := G
  refine lv_aload_n hx hb dX7_read_40 rfl (lv_at hl 0 rfl) ?_
  refine z_get C G clX7 0 rfl 0 (by decide) m_fl_RX7_12 rfl dX7_read_41 ?_
  refine z_Vv (bc := [z]) (br := [[zO7 rd rl rdd rg 0 (-1) tp v_1 0 r4 r5 r6 0 0], [zAr T 1 tp 600 ft], wd, wg]) (As := []) (rest := []) C G (c_Land_clear l T rl cr inn k1 k2 k3 k4 z hz) (kV_RX7_62 C.2.2.2.2 (Nat.le_of_ble_eq_true rfl) (Nat.le_of_ble_eq_true rfl)) [2] [2] rfl rfl (ci := 4) (qc := (RX4, TX4, 6)) rfl rfl (List.mem_flatten.mpr ⟨_, List.mem_of_getElem? (i := 0) rfl, (bLand_mem hz).choose_spec⟩) rfl rfl hl.1 dX7_read_44 (Nat.le_of_ble_eq_true rfl) (Nat.le_of_ble_eq_true rfl) (fun b1 H locs hw G => ?_)
  refine zEx4 hw ?_
  intro w2_2 g1_3 g3_4 g4_5
  refine zCu5 ?_
  intro hbs9 h_6 h_7 h_8 h_9
  clear hw
  subst hbs9
  have G : zS T A s.heap s [[zO7 rd rl rdd rg 0 (-1) tp v_1 0 r4 r5 r6 0 0], [zAr T 1 tp 600 ft], wd, wg, w2_2] _ _ := G
  have hI : zLI 0 g1_3 g3_4 := zLI_zero h_7 h_8
  refine lv_aload_n hx hb dX7_read_47 rfl (lv_at hl 0 rfl) ?_
  refine z_get C G clX7 0 rfl 1 (by decide) m_fl_RX7_21 rfl dX7_read_48 ?_
  refine lv_iconst (v := 0) hx hb dX7_read_51 (by decide) ?_
  refine zEx3 hd ?_
  intro a1_11 a2_12 a3_13 hbs9
  clear hd
  subst hbs9
  have G : zS T A s.heap s [[zO7 rd rl rdd rg 0 (-1) tp v_1 0 r4 r5 r6 0 0], [zAr T 1 tp 600 ft], [(rdd, .inr (2, [.int dd, .ref a1_11, .ref a2_12, .ref a3_13]))], [zAr T 0 a1_11 40 d1], [zAr T 0 a2_12 40 d2], [zAr T 0 a3_13 40 d3], wg, w2_2] _ _ := G.re rfl
  refine z_put C G clX2 2 rfl 0 (by decide) m_fl_RX7_65 rfl rfl rfl (Nat.le_of_ble_eq_true rfl) dX7_read_52 (fun H locs G => ?_)
  have G : zS T A s.heap s [[zO7 rd rl rdd rg 0 (-1) tp v_1 0 r4 r5 r6 0 0], [zAr T 1 tp 600 ft], [(rdd, .inr (2, [.int 0, .ref a1_11, .ref a2_12, .ref a3_13]))], [zAr T 0 a1_11 40 d1], [zAr T 0 a2_12 40 d2], [zAr T 0 a3_13 40 d3], wg, w2_2] _ _ := G
  refine lv_aload_n hx hb dX7_read_55 rfl (lv_at hl 0 rfl) ?_
  refine z_get C G clX7 0 rfl 2 (by decide) m_fl_RX7_28 rfl dX7_read_56 ?_
  refine lv_iconst (v := 0) hx hb dX7_read_59 (by decide) ?_
  refine zEx2 hg ?_
  intro a1_14 a2_15 hbs9
  clear hg
  subst hbs9
  have G : zS T A s.heap s [[zO7 rd rl rdd rg 0 (-1) tp v_1 0 r4 r5 r6 0 0], [zAr T 1 tp 600 ft], [(rdd, .inr (2, [.int 0, .ref a1_11, .ref a2_12, .ref a3_13]))], [zAr T 0 a1_11 40 d1], [zAr T 0 a2_12 40 d2], [zAr T 0 a3_13 40 d3], [(rg, .inr (5, [.int gg, .ref a1_14, .ref a2_15]))], [zAr T 0 a1_14 8 e1], [zAr T 0 a2_15 8 e2], w2_2] _ _ := G.re rfl
  refine z_put C G clX5 6 rfl 0 (by decide) m_fl_RX7_68 rfl rfl rfl (Nat.le_of_ble_eq_true rfl) dX7_read_60 (fun H locs G => ?_)
  have G : zS T A s.heap s [[zO7 rd rl rdd rg 0 (-1) tp v_1 0 r4 r5 r6 0 0], [zAr T 1 tp 600 ft], [(rdd, .inr (2, [.int 0, .ref a1_11, .ref a2_12, .ref a3_13]))], [zAr T 0 a1_11 40 d1], [zAr T 0 a2_12 40 d2], [zAr T 0 a3_13 40 d3], [(rg, .inr (5, [.int 0, .ref a1_14, .ref a2_15]))], [zAr T 0 a1_14 8 e1], [zAr T 0 a2_15 8 e2], w2_2] _ _ := G
  refine lv_aload_n hx hb dX7_read_63 rfl (lv_at hl 0 rfl) ?_
  refine z_Vv (bc := [[zO7 rd rl rdd rg 0 (-1) tp v_1 0 r4 r5 r6 0 0], [zAr T 1 tp 600 ft]]) (br := [[(rdd, .inr (2, [.int 0, .ref a1_11, .ref a2_12, .ref a3_13]))], [zAr T 0 a1_11 40 d1], [zAr T 0 a2_12 40 d2], [zAr T 0 a3_13 40 d3], [(rg, .inr (5, [.int 0, .ref a1_14, .ref a2_15]))], [zAr T 0 a1_14 8 e1], [zAr T 0 a2_15 8 e2], w2_2]) (As := []) (rest := []) C G (c_f_nextToken l T rd rl rdd rg tp 0 (-1) v_1 0 r4 r5 r6 0 0 ft 0 N k rfl (Nat.zero_le _) hk hlen hN6) (kV_RX7_71 C.2.2.2.2 (Nat.le_of_ble_eq_true rfl) (Nat.le_of_ble_eq_true rfl)) [0, 1] [0, 0] rfl rfl (ci := 7) (qc := (RX7, TX7, 13)) rfl rfl (List.mem_flatten.mpr ⟨_, List.mem_of_getElem? (i := 0) rfl, List.mem_cons_self⟩) rfl rfl hl.1 dX7_read_64 (Nat.le_of_ble_eq_true rfl) (Nat.le_of_ble_eq_true rfl) (fun b1 H locs hw G => ?_)
  refine zEx4 hw ?_
  intro u3_16 u4_17 u5_18 u6_19
  refine zCu2 ?_
  intro hbs9 h_20
  clear hw
  subst hbs9
  have G : zS T A s.heap s [[(rdd, .inr (2, [.int 0, .ref a1_11, .ref a2_12, .ref a3_13]))], [zAr T 0 a1_11 40 d1], [zAr T 0 a2_12 40 d2], [zAr T 0 a3_13 40 d3], [(rg, .inr (5, [.int 0, .ref a1_14, .ref a2_15]))], [zAr T 0 a1_14 8 e1], [zAr T 0 a2_15 8 e2], w2_2, [zO7 rd rl rdd rg 0 (-1) tp v_1 u3_16 u4_17 u5_18 u6_19 0 0], [zAr T 1 tp 600 ft]] _ _ := G
  refine lv_iconst (v := 0) hx hb dX7_read_67 (by decide) ?_
  refine lv_istore (lv' := [(4, .int 0), (0, .ref rd), (1, .ref tp), (2, .int n), (3, .int 1)]) hx hb dX7_read_68 hl (by decide) rfl (fun ls hl => ?_)
  have hw_22 : bDay T rdd 0 d1 d2 d3 [(rdd, .inr (2, [.int 0, .ref a1_11, .ref a2_12, .ref a3_13])), zAr T 0 a1_11 40 d1, zAr T 0 a2_12 40 d2, zAr T 0 a3_13 40 d3] := ⟨a1_11, a2_12, a3_13, rfl⟩
  have G : zS T A s.heap s [[(rdd, .inr (2, [.int 0, .ref a1_11, .ref a2_12, .ref a3_13])), zAr T 0 a1_11 40 d1, zAr T 0 a2_12 40 d2, zAr T 0 a3_13 40 d3], [(rg, .inr (5, [.int 0, .ref a1_14, .ref a2_15]))], [zAr T 0 a1_14 8 e1], [zAr T 0 a2_15 8 e2], w2_2, [zO7 rd rl rdd rg 0 (-1) tp v_1 u3_16 u4_17 u5_18 u6_19 0 0], [zAr T 1 tp 600 ft]] _ _ := G.re rfl
  have hw_23 : bLog T rg 0 e1 e2 [(rg, .inr (5, [.int 0, .ref a1_14, .ref a2_15])), zAr T 0 a1_14 8 e1, zAr T 0 a2_15 8 e2] := ⟨a1_14, a2_15, rfl⟩
  have G : zS T A s.heap s [[(rdd, .inr (2, [.int 0, .ref a1_11, .ref a2_12, .ref a3_13])), zAr T 0 a1_11 40 d1, zAr T 0 a2_12 40 d2, zAr T 0 a3_13 40 d3], [(rg, .inr (5, [.int 0, .ref a1_14, .ref a2_15])), zAr T 0 a1_14 8 e1, zAr T 0 a2_15 8 e2], w2_2, [zO7 rd rl rdd rg 0 (-1) tp v_1 u3_16 u4_17 u5_18 u6_19 0 0], [zAr T 1 tp 600 ft]] _ _ := G.re rfl
  refine z_lp16 (T := T) 70 (fun (j : Nat) (A9 : pS) (fr : Nat → Int32) (y0 : Int32) (y1 : Int32) (y3 : Int32) (y4 : Int32) (y5 : Int32) (y6 : Int32) (y7 : Int32) (y8 : Int32) (wd3 : va_W) (dd3 : Int32) (v1 : Nat → Int32) (v2 : Nat → Int32) (v3 : Nat → Int32) => [wd3, [(rg, .inr (5, [.int 0, .ref a1_14, .ref a2_15])), zAr T 0 a1_14 8 e1, zAr T 0 a2_15 8 e2], w2_2, [zO7 rd rl rdd rg y0 y1 tp v_1 y3 y4 y5 y6 y7 y8], [zAr T 1 tp 600 ft]]) (fun (j : Nat) (A9 : pS) (fr : Nat → Int32) (y0 : Int32) (y1 : Int32) (y3 : Int32) (y4 : Int32) (y5 : Int32) (y6 : Int32) (y7 : Int32) (y8 : Int32) (wd3 : va_W) (dd3 : Int32) (v1 : Nat → Int32) (v2 : Nat → Int32) (v3 : Nat → Int32) => [(4, .int (nI j)), (0, .ref rd), (3, .int 1)]) (fun (j : Nat) (A9 : pS) (fr : Nat → Int32) (y0 : Int32) (y1 : Int32) (y3 : Int32) (y4 : Int32) (y5 : Int32) (y6 : Int32) (y7 : Int32) (y8 : Int32) (wd3 : va_W) (dd3 : Int32) (v1 : Nat → Int32) (v2 : Nat → Int32) (v3 : Nat → Int32) => bDay T rdd dd3 v1 v2 v3 wd3 ∧ j ≤ 601 ∧ zRc k N ft y0 y1 v_1 y3 y4 y5 y6 y7 A9 ∧ pLines k 1 (601 - j) A9 fr = pLines k 1 601 (0, 0, 0, -1, -1) (fun _ => 0) ∧ zDc dd3 v1 v2 v3 A9 fr) (fun (j : Nat) (A9 : pS) (fr : Nat → Int32) (y0 : Int32) (y1 : Int32) (y3 : Int32) (y4 : Int32) (y5 : Int32) (y6 : Int32) (y7 : Int32) (y8 : Int32) (wd3 : va_W) (dd3 : Int32) (v1 : Nat → Int32) (v2 : Nat → Int32) (v3 : Nat → Int32) => 601 - j) ?_ 0 (0, 0, 0, -1, -1) (fun _ => 0) 0 (-1) u3_16 u4_17 u5_18 u6_19 0 0 ([(rdd, .inr (2, [.int 0, .ref a1_11, .ref a2_12, .ref a3_13])), zAr T 0 a1_11 40 d1, zAr T 0 a2_12 40 d2, zAr T 0 a3_13 40 d3]) 0 d1 d2 d3 (show bDay T rdd 0 d1 d2 d3 ([(rdd, .inr (2, [.int 0, .ref a1_11, .ref a2_12, .ref a3_13])), zAr T 0 a1_11 40 d1, zAr T 0 a2_12 40 d2, zAr T 0 a3_13 40 d3]) ∧ 0 ≤ 601 ∧ zRc k N ft 0 (-1) v_1 u3_16 u4_17 u5_18 u6_19 0 (0, 0, 0, -1, -1) ∧ pLines k 1 (601 - 0) (0, 0, 0, -1, -1) (fun _ => 0) = pLines k 1 601 (0, 0, 0, -1, -1) (fun _ => 0) ∧ zDc 0 d1 d2 d3 (0, 0, 0, -1, -1) (fun _ => 0) from ⟨hw_22, by omega, (zRc_st hk hN6 hlen h_20), rfl, zDc_st⟩) G (lv_sub hl [0, 1, 4] rfl)
  intro j A9 fr y0 y1 y3 y4 y5 y6 y7 y8 wd3 dd3 v1 v2 v3 hI9 ih_70 H locs ls G hl
  replace hI9 : bDay T rdd dd3 v1 v2 v3 wd3 ∧ j ≤ 601 ∧ zRc k N ft y0 y1 v_1 y3 y4 y5 y6 y7 A9 ∧ pLines k 1 (601 - j) A9 fr = pLines k 1 601 (0, 0, 0, -1, -1) (fun _ => 0) ∧ zDc dd3 v1 v2 v3 A9 fr := hI9
  refine zAn5 hI9 ?_
  intro hd3 hj hBA hEq hCC
  clear hI9
  replace G : zS T A s.heap s [wd3, [(rg, .inr (5, [.int 0, .ref a1_14, .ref a2_15])), zAr T 0 a1_14 8 e1, zAr T 0 a2_15 8 e2], w2_2, [zO7 rd rl rdd rg y0 y1 tp v_1 y3 y4 y5 y6 y7 y8], [zAr T 1 tp 600 ft]] _ _ := G
  replace hl : lv_has ls 5 [(4, .int (nI j)), (0, .ref rd), (3, .int 1)] := hl
  refine lv_iload hx hb dX7_read_70 (lv_at hl 0 rfl) ?_
  have hokA := zRc_ok hBA
  obtain ⟨hA1A, hA6A, hA7A, hA8A, hA9A, hAIA, hAEA⟩ := id hBA
  have hkaA := hokA A9.1 hA1A.2.2.2
  refine lv_sipush (v := 600) hx hb dX7_read_72 (by decide) ?_
  refine lv_icmp_gt (tgt := 103) hx hb dX7_read_75 (by decide) (fun c_24 => ?_) (fun c_24 => ?_)
  · have c_24n : 600 < j := (nI_ltI (a := 600) (b := j) (by omega) (by omega)).mp c_24
    have hX := pLines_o hj (by first | exact Or.inl (by omega) | exact Or.inr (Or.inl (by rw [← hA6A]; omega)) | exact Or.inr (Or.inr (pTk_0.mpr (by omega)))) hEq
    have hRd := pRead_e (n := N) hX
    refine lv_iload_n hx hb dX7_read_103 rfl (lv_at hl 2 rfl) ?_
    refine lv_if_ne (tgt := 111) hx hb dX7_read_104 (by decide) (fun _ => ?_) (fun q => absurd q (by decide))
    have G := G.sub (bs' := [[zO7 rd rl rdd rg y0 y1 tp v_1 y3 y4 y5 y6 y7 y8], [zAr T 1 tp 600 ft], w2_2, wd3, [(rg, .inr (5, [.int 0, .ref a1_14, .ref a2_15])), zAr T 0 a1_14 8 e1, zAr T 0 a2_15 8 e2]]) [3, 4, 2, 0, 1] rfl
    exact z_back hQ9 (z_vret C hr hlocks G (Nat.le_of_ble_eq_true rfl) (Nat.le_of_ble_eq_true rfl) dX7_read_111 ⟨v_1, y0, y1, y3, y4, y5, y6, y7, y8, w2_2, g1_3, k2, g3_4, g4_5, wd3, dd3, v1, v2, v3, ([(rg, .inr (5, [.int 0, .ref a1_14, .ref a2_15])), zAr T 0 a1_14 8 e1, zAr T 0 a2_15 8 e2]), rfl, h_6, hI, hd3, hw_23, (by rw [hRd, pFin_s (by decide)]; exact hA8A), (by rw [hRd, pFin_s (by decide)]; exact hA9A), (by rw [hRd, pFin_s (by decide)]; exact hCC)⟩)
  · have c_24n : ¬ 600 < j := fun q => c_24 ((nI_ltI (a := 600) (b := j) (by omega) (by omega)).mpr q)
    refine lv_aload_n hx hb dX7_read_78 rfl (lv_at hl 1 rfl) ?_
    refine z_get C G clX7 3 rfl 11 (by decide) m_fl_RX7_55 rfl dX7_read_79 ?_
    refine lv_if_ne (tgt := 103) hx hb dX7_read_82 (by decide) (fun c_25 => ?_) (fun c_25 => ?_)
    · have c_25n : ¬ y7.toInt = (0 : Int) := fun q => c_25 ((fa_eq _ _).mpr q)
      have hX := pLines_o hj (by first | exact Or.inl (by omega) | exact Or.inr (Or.inl (by rw [← hA6A]; omega)) | exact Or.inr (Or.inr (pTk_0.mpr (by omega)))) hEq
      have hRd := pRead_e (n := N) hX
      refine lv_iload_n hx hb dX7_read_103 rfl (lv_at hl 2 rfl) ?_
      refine lv_if_ne (tgt := 111) hx hb dX7_read_104 (by decide) (fun _ => ?_) (fun q => absurd q (by decide))
      have G := G.sub (bs' := [[zO7 rd rl rdd rg y0 y1 tp v_1 y3 y4 y5 y6 y7 y8], [zAr T 1 tp 600 ft], w2_2, wd3, [(rg, .inr (5, [.int 0, .ref a1_14, .ref a2_15])), zAr T 0 a1_14 8 e1, zAr T 0 a2_15 8 e2]]) [3, 4, 2, 0, 1] rfl
      exact z_back hQ9 (z_vret C hr hlocks G (Nat.le_of_ble_eq_true rfl) (Nat.le_of_ble_eq_true rfl) dX7_read_111 ⟨v_1, y0, y1, y3, y4, y5, y6, y7, y8, w2_2, g1_3, k2, g3_4, g4_5, wd3, dd3, v1, v2, v3, ([(rg, .inr (5, [.int 0, .ref a1_14, .ref a2_15])), zAr T 0 a1_14 8 e1, zAr T 0 a2_15 8 e2]), rfl, h_6, hI, hd3, hw_23, (by rw [hRd, pFin_s (by decide)]; exact hA8A), (by rw [hRd, pFin_s (by decide)]; exact hA9A), (by rw [hRd, pFin_s (by decide)]; exact hCC)⟩)
    · have c_25n : y7.toInt = (0 : Int) := (fa_eq _ _).mp c_25
      have hwA : A9.2.1.toInt = 0 := by rw [← hA6A]; omega
      obtain ⟨t3A, t4A, t5A, t6A⟩ := hA7A hwA
      have t4iA : y4.toInt = (pCl k A9.1 : Int) := by rw [t4A]; exact nI_toInt (by omega)
      refine lv_aload_n hx hb dX7_read_85 rfl (lv_at hl 1 rfl) ?_
      refine z_get C G clX7 3 rfl 8 (by decide) m_fl_RX7_74 rfl dX7_read_86 ?_
      refine lv_if_eq (tgt := 103) hx hb dX7_read_89 (by decide) (fun c_26 => ?_) (fun c_26 => ?_)
      · have c_26n : y4.toInt = (0 : Int) := (fa_eq _ _).mp c_26
        have hX := pLines_o hj (by first | exact Or.inl (by omega) | exact Or.inr (Or.inl (by rw [← hA6A]; omega)) | exact Or.inr (Or.inr (pTk_0.mpr (by omega)))) hEq
        have hRd := pRead_e (n := N) hX
        refine lv_iload_n hx hb dX7_read_103 rfl (lv_at hl 2 rfl) ?_
        refine lv_if_ne (tgt := 111) hx hb dX7_read_104 (by decide) (fun _ => ?_) (fun q => absurd q (by decide))
        have G := G.sub (bs' := [[zO7 rd rl rdd rg y0 y1 tp v_1 y3 y4 y5 y6 y7 y8], [zAr T 1 tp 600 ft], w2_2, wd3, [(rg, .inr (5, [.int 0, .ref a1_14, .ref a2_15])), zAr T 0 a1_14 8 e1, zAr T 0 a2_15 8 e2]]) [3, 4, 2, 0, 1] rfl
        exact z_back hQ9 (z_vret C hr hlocks G (Nat.le_of_ble_eq_true rfl) (Nat.le_of_ble_eq_true rfl) dX7_read_111 ⟨v_1, y0, y1, y3, y4, y5, y6, y7, y8, w2_2, g1_3, k2, g3_4, g4_5, wd3, dd3, v1, v2, v3, ([(rg, .inr (5, [.int 0, .ref a1_14, .ref a2_15])), zAr T 0 a1_14 8 e1, zAr T 0 a2_15 8 e2]), rfl, h_6, hI, hd3, hw_23, (by rw [hRd, pFin_s (by decide)]; exact hA8A), (by rw [hRd, pFin_s (by decide)]; exact hA9A), (by rw [hRd, pFin_s (by decide)]; exact hCC)⟩)
      · have c_26n : ¬ y4.toInt = (0 : Int) := fun q => c_26 ((fa_eq _ _).mpr q)
        have htA : ¬ pTk k A9.1 = 0 := fun z9 => by have := pTk_0.mp z9; omega
        refine lv_aload_n hx hb dX7_read_92 rfl (lv_at hl 1 rfl) ?_
        refine lv_iload_n hx hb dX7_read_93 rfl (lv_at hl 2 rfl) ?_
        refine z_Vv (bc := [[zO7 rd rl rdd rg y0 y1 tp v_1 y3 y4 y5 y6 y7 y8], [zAr T 1 tp 600 ft], wd3]) (br := [[(rg, .inr (5, [.int 0, .ref a1_14, .ref a2_15])), zAr T 0 a1_14 8 e1, zAr T 0 a2_15 8 e2], w2_2]) (As := [.int 1]) (rest := []) C G (c_f_readLine1 l T rd rl rdd rg tp y0 y1 v_1 y3 y4 y5 y6 y7 y8 ft dd3 v1 v2 v3 wd3 k N A9 fr hBA hwA hd3 hCC) (kV_RX7_77 C.2.2.2.2 (Nat.le_of_ble_eq_true rfl) (Nat.le_of_ble_eq_true rfl)) [3, 4, 0] [0, 2, 0] rfl rfl (ci := 7) (qc := (RX7, TX7, 13)) rfl rfl (List.mem_flatten.mpr ⟨_, List.mem_of_getElem? (i := 0) rfl, List.mem_cons_self⟩) rfl rfl hl.1 dX7_read_94 (Nat.le_of_ble_eq_true rfl) (Nat.le_of_ble_eq_true rfl) (fun b1 H locs hw G => ?_)
        refine zEx13 hw ?_
        intro u0_27 u1_28 u3_29 u4_30 u5_31 u6_32 u7_33 u8_34 wd2_35 dd2_36 b1_37 b2_38 b3_39
        refine zCu4 ?_
        intro hbs9 h_40 h_41 h_42
        clear hw
        subst hbs9
        have G : zS T A s.heap s [[(rg, .inr (5, [.int 0, .ref a1_14, .ref a2_15])), zAr T 0 a1_14 8 e1, zAr T 0 a2_15 8 e2], w2_2, [zO7 rd rl rdd rg u0_27 u1_28 tp v_1 u3_29 u4_30 u5_31 u6_32 u7_33 u8_34], [zAr T 1 tp 600 ft], wd2_35] _ _ := G
        have hnR := h_41
        have hnC := h_42
        refine lv_iinc (v := nI (j + 1)) (lv' := [(4, .int (nI (j + 1))), (0, .ref rd), (3, .int 1)]) hx hb dX7_read_97 hl (k := 0) rfl (z_inc j 1) (by decide) rfl (fun ls hl => ?_)
        refine lv_goto (tgt := 70) hx hb dX7_read_100 (by decide) ?_
        have G := G.sub (bs' := [wd2_35, [(rg, .inr (5, [.int 0, .ref a1_14, .ref a2_15])), zAr T 0 a1_14 8 e1, zAr T 0 a2_15 8 e2], w2_2, [zO7 rd rl rdd rg u0_27 u1_28 tp v_1 u3_29 u4_30 u5_31 u6_32 u7_33 u8_34], [zAr T 1 tp 600 ft]]) [4, 0, 1, 2, 3] rfl
        exact ih_70 (j + 1) ((pLine k 1 A9 fr).1) ((pLine k 1 A9 fr).2) u0_27 u1_28 u3_29 u4_30 u5_31 u6_32 u7_33 u8_34 wd2_35 dd2_36 b1_37 b2_38 b3_39 (show bDay T rdd dd2_36 b1_37 b2_38 b3_39 wd2_35 ∧ (j + 1) ≤ 601 ∧ zRc k N ft u0_27 u1_28 v_1 u3_29 u4_30 u5_31 u6_32 u7_33 ((pLine k 1 A9 fr).1) ∧ pLines k 1 (601 - (j + 1)) ((pLine k 1 A9 fr).1) ((pLine k 1 A9 fr).2) = pLines k 1 601 (0, 0, 0, -1, -1) (fun _ => 0) ∧ zDc dd2_36 b1_37 b2_38 b3_39 ((pLine k 1 A9 fr).1) ((pLine k 1 A9 fr).2) from ⟨h_40, by omega, hnR, (pLines_n (by omega) hwA htA hEq), hnC⟩) (show 601 - (j + 1) < 601 - j from by omega) _ _ ls G (lv_sub hl [0, 1, 2] rfl)
set_option maxHeartbeats 4000000 in
set_option maxRecDepth 100000 in
/-- c_f_read2 -/
theorem c_f_read2 (l : Launch) (T : zTy) (rd : Nat) (rl : Nat) (rdd : Nat) (rg : Nat) (tp : Nat) (r0 : Int32) (r1 : Int32) (r2 : Int32) (r3 : Int32) (r4 : Int32) (r5 : Int32) (r6 : Int32) (r7 : Int32) (r8 : Int32) (tq : Nat) (ft : Nat → Int32) (cr : Int32) (inn : Int32) (k1 : Nat → Int32) (k2 : Nat → Int32) (k3 : Nat → Int32) (k4 : Nat → Int32) (z : va_W) (dd : Int32) (d1 : Nat → Int32) (d2 : Nat → Int32) (d3 : Nat → Int32) (wd : va_W) (gg : Int32) (e1 : Nat → Int32) (e2 : Nat → Int32) (wg : va_W) (n : Int32) (k : pT) (N : Nat) (hz : bLand T rl cr inn k1 k2 k3 k4 z) (hd : bDay T rdd dd d1 d2 d3 wd) (hg : bLog T rg gg e1 e2 wg) (hN : n = nI N) (hN6 : N ≤ 600) (hk : k = tkT ft N) : zMv l T yX7_read cX7_read 5 8 0 0 [.ref rd, .ref tp, .int n, .int 2] [[zO7 rd rl rdd rg r0 r1 tq r2 r3 r4 r5 r6 r7 r8], [zAr T 1 tp 600 ft], z, wd, wg] (fun bs => ∃ (u2 : Int32) (u0 : Int32) (u1 : Int32) (u3 : Int32) (u4 : Int32) (u5 : Int32) (u6 : Int32) (u7 : Int32) (u8 : Int32) (z2 : va_W) (j1 : Nat → Int32) (j2 : Nat → Int32) (j3 : Nat → Int32) (j4 : Nat → Int32) (wd2 : va_W) (wg2 : va_W) (gg2 : Int32) (b4 : Nat → Int32) (b5 : Nat → Int32), bs = [[zO7 rd rl rdd rg u0 u1 tp u2 u3 u4 u5 u6 u7 u8], [zAr T 1 tp 600 ft], z2, wd2, wg2] ∧ bLand T rl 0 0 j1 j2 j3 j4 z2 ∧ zLI 0 j1 j3 ∧ bDay T rdd 0 d1 d2 d3 wd2 ∧ bLog T rg gg2 b4 b5 wg2 ∧ u0 = (pRead k N 2).1.2.2.1 ∧ u1 = (pRead k N 2).1.2.2.2.1 ∧ zGc gg2 b4 b5 (pRead k N 2).1 (pRead k N 2).2) := by
  refine zMv_of (own := RX7) (by decide) rfl (Nat.le_of_ble_eq_true rfl) ?_
  intro p e s m args below meth c A ls C hr hlocks hnm hAe G hl
  refine zHide (fun Q9 hQ9 => ?_)
  have hx := C.1
  have hb := C.2.1
  have hl : lv_has ls 5 [(0, .ref rd), (1, .ref tp), (2, .int n), (3, .int 2)] := hl
  refine lv_aload_n hx hb dX7_read_0 rfl (lv_at hl 0 rfl) ?_
  refine lv_aload_n hx hb dX7_read_1 rfl (lv_at hl 1 rfl) ?_
  refine z_put C G clX7 0 rfl 5 (by decide) m_fl_RX7_32 rfl rfl rfl (Nat.le_of_ble_eq_true rfl) dX7_read_2 (fun H locs G => ?_)
  have G : zS T A s.heap s [[zO7 rd rl rdd rg r0 r1 tp r2 r3 r4 r5 r6 r7 r8], [zAr T 1 tp 600 ft], z, wd, wg] _ _ := G
  refine lv_aload_n hx hb dX7_read_5 rfl (lv_at hl 0 rfl) ?_
  refine lv_iload_n hx hb dX7_read_6 rfl (lv_at hl 2 rfl) ?_
  refine lv_aload_n hx hb dX7_read_7 rfl (lv_at hl 1 rfl) ?_
  refine z_alen C G 1 1 rfl (v := 600) rfl rfl dX7_read_8 ?_
  refine va_mmin hx hb (C.2.2.1.trans hl.1.symm) C.2.2.2.1 (C.2.2.2.2 _ m_ml_RX7_36) (C.2.2.2.2 _ m_st_math_min) (C.2.2.2.2 _ m_ii_math) (C.2.2.2.2 _ m_co_math_min) (Nat.le_of_ble_eq_true rfl) (Nat.le_of_ble_eq_true rfl) (Nat.le_of_ble_eq_true rfl) (Nat.le_of_ble_eq_true rfl) dX7_read_9 ?_
  refine lv_topi (fun v_1 ev_1 => ?_)
  have hlen : v_1 = nI N := by rw [ev_1, if_neg (fun z9 => by have z8 := (fa_lt _ _).mp z9; rw [hN, nI_toInt (by omega)] at z8; have z7 : (600 : Int32).toInt = 600 := rfl; omega)]; exact hN
  refine z_put C G clX7 0 rfl 6 (by decide) m_fl_RX7_42 rfl rfl rfl (Nat.le_of_ble_eq_true rfl) dX7_read_12 (fun H locs G => ?_)
  have G : zS T A s.heap s [[zO7 rd rl rdd rg r0 r1 tp v_1 r3 r4 r5 r6 r7 r8], [zAr T 1 tp 600 ft], z, wd, wg] _ _ := G
  refine lv_aload_n hx hb dX7_read_15 rfl (lv_at hl 0 rfl) ?_
  refine lv_iconst (v := 0) hx hb dX7_read_16 (by decide) ?_
  refine z_put C G clX7 0 rfl 7 (by decide) m_fl_RX7_46 rfl rfl rfl (Nat.le_of_ble_eq_true rfl) dX7_read_17 (fun H locs G => ?_)
  have G : zS T A s.heap s [[zO7 rd rl rdd rg r0 r1 tp v_1 0 r4 r5 r6 r7 r8], [zAr T 1 tp 600 ft], z, wd, wg] _ _ := G
  refine lv_aload_n hx hb dX7_read_20 rfl (lv_at hl 0 rfl) ?_
  refine lv_iconst (v := 0) hx hb dX7_read_21 (by decide) ?_
  refine z_put C G clX7 0 rfl 3 (by decide) m_fl_RX7_49 rfl rfl rfl (Nat.le_of_ble_eq_true rfl) dX7_read_22 (fun H locs G => ?_)
  have G : zS T A s.heap s [[zO7 rd rl rdd rg 0 r1 tp v_1 0 r4 r5 r6 r7 r8], [zAr T 1 tp 600 ft], z, wd, wg] _ _ := G
  refine lv_aload_n hx hb dX7_read_25 rfl (lv_at hl 0 rfl) ?_
  refine lv_iconst (v := (-1)) hx hb dX7_read_26 (by decide) ?_
  refine z_put C G clX7 0 rfl 4 (by decide) m_fl_RX7_52 rfl rfl rfl (Nat.le_of_ble_eq_true rfl) dX7_read_27 (fun H locs G => ?_)
  have G : zS T A s.heap s [[zO7 rd rl rdd rg 0 (-1) tp v_1 0 r4 r5 r6 r7 r8], [zAr T 1 tp 600 ft], z, wd, wg] _ _ := G
  refine lv_aload_n hx hb dX7_read_30 rfl (lv_at hl 0 rfl) ?_
  refine lv_iconst (v := 0) hx hb dX7_read_31 (by decide) ?_
  refine z_put C G clX7 0 rfl 11 (by decide) m_fl_RX7_55 rfl rfl rfl (Nat.le_of_ble_eq_true rfl) dX7_read_32 (fun H locs G => ?_)
  have G : zS T A s.heap s [[zO7 rd rl rdd rg 0 (-1) tp v_1 0 r4 r5 r6 0 r8], [zAr T 1 tp 600 ft], z, wd, wg] _ _ := G
  refine lv_aload_n hx hb dX7_read_35 rfl (lv_at hl 0 rfl) ?_
  refine lv_iconst (v := 0) hx hb dX7_read_36 (by decide) ?_
  refine z_put C G clX7 0 rfl 12 (by decide) m_fl_RX7_59 rfl rfl rfl (Nat.le_of_ble_eq_true rfl) dX7_read_37 (fun H locs G => ?_)
  have G : zS T A s.heap s [[zO7 rd rl rdd rg 0 (-1) tp v_1 0 r4 r5 r6 0 0], [zAr T 1 tp 600 ft], z, wd, wg] _ _ := G
  refine lv_aload_n hx hb dX7_read_40 rfl (lv_at hl 0 rfl) ?_
  refine z_get C G clX7 0 rfl 0 (by decide) m_fl_RX7_12 rfl dX7_read_41 ?_
  refine z_Vv (bc := [z]) (br := [[zO7 rd rl rdd rg 0 (-1) tp v_1 0 r4 r5 r6 0 0], [zAr T 1 tp 600 ft], wd, wg]) (As := []) (rest := []) C G (c_Land_clear l T rl cr inn k1 k2 k3 k4 z hz) (kV_RX7_62 C.2.2.2.2 (Nat.le_of_ble_eq_true rfl) (Nat.le_of_ble_eq_true rfl)) [2] [2] rfl rfl (ci := 4) (qc := (RX4, TX4, 6)) rfl rfl (List.mem_flatten.mpr ⟨_, List.mem_of_getElem? (i := 0) rfl, (bLand_mem hz).choose_spec⟩) rfl rfl hl.1 dX7_read_44 (Nat.le_of_ble_eq_true rfl) (Nat.le_of_ble_eq_true rfl) (fun b1 H locs hw G => ?_)
  refine zEx4 hw ?_
  intro w2_2 g1_3 g3_4 g4_5
  refine zCu5 ?_
  intro hbs9 h_6 h_7 h_8 h_9
  clear hw
  subst hbs9
  have G : zS T A s.heap s [[zO7 rd rl rdd rg 0 (-1) tp v_1 0 r4 r5 r6 0 0], [zAr T 1 tp 600 ft], wd, wg, w2_2] _ _ := G
  have hI : zLI 0 g1_3 g3_4 := zLI_zero h_7 h_8
  refine lv_aload_n hx hb dX7_read_47 rfl (lv_at hl 0 rfl) ?_
  refine z_get C G clX7 0 rfl 1 (by decide) m_fl_RX7_21 rfl dX7_read_48 ?_
  refine lv_iconst (v := 0) hx hb dX7_read_51 (by decide) ?_
  refine zEx3 hd ?_
  intro a1_11 a2_12 a3_13 hbs9
  clear hd
  subst hbs9
  have G : zS T A s.heap s [[zO7 rd rl rdd rg 0 (-1) tp v_1 0 r4 r5 r6 0 0], [zAr T 1 tp 600 ft], [(rdd, .inr (2, [.int dd, .ref a1_11, .ref a2_12, .ref a3_13]))], [zAr T 0 a1_11 40 d1], [zAr T 0 a2_12 40 d2], [zAr T 0 a3_13 40 d3], wg, w2_2] _ _ := G.re rfl
  refine z_put C G clX2 2 rfl 0 (by decide) m_fl_RX7_65 rfl rfl rfl (Nat.le_of_ble_eq_true rfl) dX7_read_52 (fun H locs G => ?_)
  have G : zS T A s.heap s [[zO7 rd rl rdd rg 0 (-1) tp v_1 0 r4 r5 r6 0 0], [zAr T 1 tp 600 ft], [(rdd, .inr (2, [.int 0, .ref a1_11, .ref a2_12, .ref a3_13]))], [zAr T 0 a1_11 40 d1], [zAr T 0 a2_12 40 d2], [zAr T 0 a3_13 40 d3], wg, w2_2] _ _ := G
  refine lv_aload_n hx hb dX7_read_55 rfl (lv_at hl 0 rfl) ?_
  refine z_get C G clX7 0 rfl 2 (by decide) m_fl_RX7_28 rfl dX7_read_56 ?_
  refine lv_iconst (v := 0) hx hb dX7_read_59 (by decide) ?_
  refine zEx2 hg ?_
  intro a1_14 a2_15 hbs9
  clear hg
  subst hbs9
  have G : zS T A s.heap s [[zO7 rd rl rdd rg 0 (-1) tp v_1 0 r4 r5 r6 0 0], [zAr T 1 tp 600 ft], [(rdd, .inr (2, [.int 0, .ref a1_11, .ref a2_12, .ref a3_13]))], [zAr T 0 a1_11 40 d1], [zAr T 0 a2_12 40 d2], [zAr T 0 a3_13 40 d3], [(rg, .inr (5, [.int gg, .ref a1_14, .ref a2_15]))], [zAr T 0 a1_14 8 e1], [zAr T 0 a2_15 8 e2], w2_2] _ _ := G.re rfl
  refine z_put C G clX5 6 rfl 0 (by decide) m_fl_RX7_68 rfl rfl rfl (Nat.le_of_ble_eq_true rfl) dX7_read_60 (fun H locs G => ?_)
  have G : zS T A s.heap s [[zO7 rd rl rdd rg 0 (-1) tp v_1 0 r4 r5 r6 0 0], [zAr T 1 tp 600 ft], [(rdd, .inr (2, [.int 0, .ref a1_11, .ref a2_12, .ref a3_13]))], [zAr T 0 a1_11 40 d1], [zAr T 0 a2_12 40 d2], [zAr T 0 a3_13 40 d3], [(rg, .inr (5, [.int 0, .ref a1_14, .ref a2_15]))], [zAr T 0 a1_14 8 e1], [zAr T 0 a2_15 8 e2], w2_2] _ _ := G
  refine lv_aload_n hx hb dX7_read_63 rfl (lv_at hl 0 rfl) ?_
  refine z_Vv (bc := [[zO7 rd rl rdd rg 0 (-1) tp v_1 0 r4 r5 r6 0 0], [zAr T 1 tp 600 ft]]) (br := [[(rdd, .inr (2, [.int 0, .ref a1_11, .ref a2_12, .ref a3_13]))], [zAr T 0 a1_11 40 d1], [zAr T 0 a2_12 40 d2], [zAr T 0 a3_13 40 d3], [(rg, .inr (5, [.int 0, .ref a1_14, .ref a2_15]))], [zAr T 0 a1_14 8 e1], [zAr T 0 a2_15 8 e2], w2_2]) (As := []) (rest := []) C G (c_f_nextToken l T rd rl rdd rg tp 0 (-1) v_1 0 r4 r5 r6 0 0 ft 0 N k rfl (Nat.zero_le _) hk hlen hN6) (kV_RX7_71 C.2.2.2.2 (Nat.le_of_ble_eq_true rfl) (Nat.le_of_ble_eq_true rfl)) [0, 1] [0, 0] rfl rfl (ci := 7) (qc := (RX7, TX7, 13)) rfl rfl (List.mem_flatten.mpr ⟨_, List.mem_of_getElem? (i := 0) rfl, List.mem_cons_self⟩) rfl rfl hl.1 dX7_read_64 (Nat.le_of_ble_eq_true rfl) (Nat.le_of_ble_eq_true rfl) (fun b1 H locs hw G => ?_)
  refine zEx4 hw ?_
  intro u3_16 u4_17 u5_18 u6_19
  refine zCu2 ?_
  intro hbs9 h_20
  clear hw
  subst hbs9
  have G : zS T A s.heap s [[(rdd, .inr (2, [.int 0, .ref a1_11, .ref a2_12, .ref a3_13]))], [zAr T 0 a1_11 40 d1], [zAr T 0 a2_12 40 d2], [zAr T 0 a3_13 40 d3], [(rg, .inr (5, [.int 0, .ref a1_14, .ref a2_15]))], [zAr T 0 a1_14 8 e1], [zAr T 0 a2_15 8 e2], w2_2, [zO7 rd rl rdd rg 0 (-1) tp v_1 u3_16 u4_17 u5_18 u6_19 0 0], [zAr T 1 tp 600 ft]] _ _ := G
  refine lv_iconst (v := 0) hx hb dX7_read_67 (by decide) ?_
  refine lv_istore (lv' := [(4, .int 0), (0, .ref rd), (1, .ref tp), (2, .int n), (3, .int 2)]) hx hb dX7_read_68 hl (by decide) rfl (fun ls hl => ?_)
  have hw_22 : bDay T rdd 0 d1 d2 d3 [(rdd, .inr (2, [.int 0, .ref a1_11, .ref a2_12, .ref a3_13])), zAr T 0 a1_11 40 d1, zAr T 0 a2_12 40 d2, zAr T 0 a3_13 40 d3] := ⟨a1_11, a2_12, a3_13, rfl⟩
  have G : zS T A s.heap s [[(rdd, .inr (2, [.int 0, .ref a1_11, .ref a2_12, .ref a3_13])), zAr T 0 a1_11 40 d1, zAr T 0 a2_12 40 d2, zAr T 0 a3_13 40 d3], [(rg, .inr (5, [.int 0, .ref a1_14, .ref a2_15]))], [zAr T 0 a1_14 8 e1], [zAr T 0 a2_15 8 e2], w2_2, [zO7 rd rl rdd rg 0 (-1) tp v_1 u3_16 u4_17 u5_18 u6_19 0 0], [zAr T 1 tp 600 ft]] _ _ := G.re rfl
  have hw_23 : bLog T rg 0 e1 e2 [(rg, .inr (5, [.int 0, .ref a1_14, .ref a2_15])), zAr T 0 a1_14 8 e1, zAr T 0 a2_15 8 e2] := ⟨a1_14, a2_15, rfl⟩
  have G : zS T A s.heap s [[(rdd, .inr (2, [.int 0, .ref a1_11, .ref a2_12, .ref a3_13])), zAr T 0 a1_11 40 d1, zAr T 0 a2_12 40 d2, zAr T 0 a3_13 40 d3], [(rg, .inr (5, [.int 0, .ref a1_14, .ref a2_15])), zAr T 0 a1_14 8 e1, zAr T 0 a2_15 8 e2], w2_2, [zO7 rd rl rdd rg 0 (-1) tp v_1 u3_16 u4_17 u5_18 u6_19 0 0], [zAr T 1 tp 600 ft]] _ _ := G.re rfl
  refine z_lp15 (T := T) 70 (fun (j : Nat) (A9 : pS) (fr : Nat → Int32) (y0 : Int32) (y1 : Int32) (y3 : Int32) (y4 : Int32) (y5 : Int32) (y6 : Int32) (y7 : Int32) (y8 : Int32) (wg3 : va_W) (gg3 : Int32) (v4 : Nat → Int32) (v5 : Nat → Int32) => [[(rdd, .inr (2, [.int 0, .ref a1_11, .ref a2_12, .ref a3_13])), zAr T 0 a1_11 40 d1, zAr T 0 a2_12 40 d2, zAr T 0 a3_13 40 d3], wg3, w2_2, [zO7 rd rl rdd rg y0 y1 tp v_1 y3 y4 y5 y6 y7 y8], [zAr T 1 tp 600 ft]]) (fun (j : Nat) (A9 : pS) (fr : Nat → Int32) (y0 : Int32) (y1 : Int32) (y3 : Int32) (y4 : Int32) (y5 : Int32) (y6 : Int32) (y7 : Int32) (y8 : Int32) (wg3 : va_W) (gg3 : Int32) (v4 : Nat → Int32) (v5 : Nat → Int32) => [(4, .int (nI j)), (0, .ref rd), (3, .int 2)]) (fun (j : Nat) (A9 : pS) (fr : Nat → Int32) (y0 : Int32) (y1 : Int32) (y3 : Int32) (y4 : Int32) (y5 : Int32) (y6 : Int32) (y7 : Int32) (y8 : Int32) (wg3 : va_W) (gg3 : Int32) (v4 : Nat → Int32) (v5 : Nat → Int32) => bLog T rg gg3 v4 v5 wg3 ∧ j ≤ 601 ∧ zRc k N ft y0 y1 v_1 y3 y4 y5 y6 y7 A9 ∧ pLines k 2 (601 - j) A9 fr = pLines k 2 601 (0, 0, 0, -1, -1) (fun _ => 0) ∧ zGc gg3 v4 v5 A9 fr) (fun (j : Nat) (A9 : pS) (fr : Nat → Int32) (y0 : Int32) (y1 : Int32) (y3 : Int32) (y4 : Int32) (y5 : Int32) (y6 : Int32) (y7 : Int32) (y8 : Int32) (wg3 : va_W) (gg3 : Int32) (v4 : Nat → Int32) (v5 : Nat → Int32) => 601 - j) ?_ 0 (0, 0, 0, -1, -1) (fun _ => 0) 0 (-1) u3_16 u4_17 u5_18 u6_19 0 0 ([(rg, .inr (5, [.int 0, .ref a1_14, .ref a2_15])), zAr T 0 a1_14 8 e1, zAr T 0 a2_15 8 e2]) 0 e1 e2 (show bLog T rg 0 e1 e2 ([(rg, .inr (5, [.int 0, .ref a1_14, .ref a2_15])), zAr T 0 a1_14 8 e1, zAr T 0 a2_15 8 e2]) ∧ 0 ≤ 601 ∧ zRc k N ft 0 (-1) v_1 u3_16 u4_17 u5_18 u6_19 0 (0, 0, 0, -1, -1) ∧ pLines k 2 (601 - 0) (0, 0, 0, -1, -1) (fun _ => 0) = pLines k 2 601 (0, 0, 0, -1, -1) (fun _ => 0) ∧ zGc 0 e1 e2 (0, 0, 0, -1, -1) (fun _ => 0) from ⟨hw_23, by omega, (zRc_st hk hN6 hlen h_20), rfl, zGc_st⟩) G (lv_sub hl [0, 1, 4] rfl)
  intro j A9 fr y0 y1 y3 y4 y5 y6 y7 y8 wg3 gg3 v4 v5 hI9 ih_70 H locs ls G hl
  replace hI9 : bLog T rg gg3 v4 v5 wg3 ∧ j ≤ 601 ∧ zRc k N ft y0 y1 v_1 y3 y4 y5 y6 y7 A9 ∧ pLines k 2 (601 - j) A9 fr = pLines k 2 601 (0, 0, 0, -1, -1) (fun _ => 0) ∧ zGc gg3 v4 v5 A9 fr := hI9
  refine zAn5 hI9 ?_
  intro hg3 hj hBA hEq hCC
  clear hI9
  replace G : zS T A s.heap s [[(rdd, .inr (2, [.int 0, .ref a1_11, .ref a2_12, .ref a3_13])), zAr T 0 a1_11 40 d1, zAr T 0 a2_12 40 d2, zAr T 0 a3_13 40 d3], wg3, w2_2, [zO7 rd rl rdd rg y0 y1 tp v_1 y3 y4 y5 y6 y7 y8], [zAr T 1 tp 600 ft]] _ _ := G
  replace hl : lv_has ls 5 [(4, .int (nI j)), (0, .ref rd), (3, .int 2)] := hl
  refine lv_iload hx hb dX7_read_70 (lv_at hl 0 rfl) ?_
  have hokA := zRc_ok hBA
  obtain ⟨hA1A, hA6A, hA7A, hA8A, hA9A, hAIA, hAEA⟩ := id hBA
  have hkaA := hokA A9.1 hA1A.2.2.2
  refine lv_sipush (v := 600) hx hb dX7_read_72 (by decide) ?_
  refine lv_icmp_gt (tgt := 103) hx hb dX7_read_75 (by decide) (fun c_24 => ?_) (fun c_24 => ?_)
  · have c_24n : 600 < j := (nI_ltI (a := 600) (b := j) (by omega) (by omega)).mp c_24
    have hX := pLines_o hj (by first | exact Or.inl (by omega) | exact Or.inr (Or.inl (by rw [← hA6A]; omega)) | exact Or.inr (Or.inr (pTk_0.mpr (by omega)))) hEq
    have hRd := pRead_e (n := N) hX
    refine lv_iload_n hx hb dX7_read_103 rfl (lv_at hl 2 rfl) ?_
    refine lv_if_ne (tgt := 111) hx hb dX7_read_104 (by decide) (fun _ => ?_) (fun q => absurd q (by decide))
    have G := G.sub (bs' := [[zO7 rd rl rdd rg y0 y1 tp v_1 y3 y4 y5 y6 y7 y8], [zAr T 1 tp 600 ft], w2_2, [(rdd, .inr (2, [.int 0, .ref a1_11, .ref a2_12, .ref a3_13])), zAr T 0 a1_11 40 d1, zAr T 0 a2_12 40 d2, zAr T 0 a3_13 40 d3], wg3]) [3, 4, 2, 0, 1] rfl
    exact z_back hQ9 (z_vret C hr hlocks G (Nat.le_of_ble_eq_true rfl) (Nat.le_of_ble_eq_true rfl) dX7_read_111 ⟨v_1, y0, y1, y3, y4, y5, y6, y7, y8, w2_2, g1_3, k2, g3_4, g4_5, ([(rdd, .inr (2, [.int 0, .ref a1_11, .ref a2_12, .ref a3_13])), zAr T 0 a1_11 40 d1, zAr T 0 a2_12 40 d2, zAr T 0 a3_13 40 d3]), wg3, gg3, v4, v5, rfl, h_6, hI, hw_22, hg3, (by rw [hRd, pFin_s (by decide)]; exact hA8A), (by rw [hRd, pFin_s (by decide)]; exact hA9A), (by rw [hRd, pFin_s (by decide)]; exact hCC)⟩)
  · have c_24n : ¬ 600 < j := fun q => c_24 ((nI_ltI (a := 600) (b := j) (by omega) (by omega)).mpr q)
    refine lv_aload_n hx hb dX7_read_78 rfl (lv_at hl 1 rfl) ?_
    refine z_get C G clX7 3 rfl 11 (by decide) m_fl_RX7_55 rfl dX7_read_79 ?_
    refine lv_if_ne (tgt := 103) hx hb dX7_read_82 (by decide) (fun c_25 => ?_) (fun c_25 => ?_)
    · have c_25n : ¬ y7.toInt = (0 : Int) := fun q => c_25 ((fa_eq _ _).mpr q)
      have hX := pLines_o hj (by first | exact Or.inl (by omega) | exact Or.inr (Or.inl (by rw [← hA6A]; omega)) | exact Or.inr (Or.inr (pTk_0.mpr (by omega)))) hEq
      have hRd := pRead_e (n := N) hX
      refine lv_iload_n hx hb dX7_read_103 rfl (lv_at hl 2 rfl) ?_
      refine lv_if_ne (tgt := 111) hx hb dX7_read_104 (by decide) (fun _ => ?_) (fun q => absurd q (by decide))
      have G := G.sub (bs' := [[zO7 rd rl rdd rg y0 y1 tp v_1 y3 y4 y5 y6 y7 y8], [zAr T 1 tp 600 ft], w2_2, [(rdd, .inr (2, [.int 0, .ref a1_11, .ref a2_12, .ref a3_13])), zAr T 0 a1_11 40 d1, zAr T 0 a2_12 40 d2, zAr T 0 a3_13 40 d3], wg3]) [3, 4, 2, 0, 1] rfl
      exact z_back hQ9 (z_vret C hr hlocks G (Nat.le_of_ble_eq_true rfl) (Nat.le_of_ble_eq_true rfl) dX7_read_111 ⟨v_1, y0, y1, y3, y4, y5, y6, y7, y8, w2_2, g1_3, k2, g3_4, g4_5, ([(rdd, .inr (2, [.int 0, .ref a1_11, .ref a2_12, .ref a3_13])), zAr T 0 a1_11 40 d1, zAr T 0 a2_12 40 d2, zAr T 0 a3_13 40 d3]), wg3, gg3, v4, v5, rfl, h_6, hI, hw_22, hg3, (by rw [hRd, pFin_s (by decide)]; exact hA8A), (by rw [hRd, pFin_s (by decide)]; exact hA9A), (by rw [hRd, pFin_s (by decide)]; exact hCC)⟩)
    · have c_25n : y7.toInt = (0 : Int) := (fa_eq _ _).mp c_25
      have hwA : A9.2.1.toInt = 0 := by rw [← hA6A]; omega
      obtain ⟨t3A, t4A, t5A, t6A⟩ := hA7A hwA
      have t4iA : y4.toInt = (pCl k A9.1 : Int) := by rw [t4A]; exact nI_toInt (by omega)
      refine lv_aload_n hx hb dX7_read_85 rfl (lv_at hl 1 rfl) ?_
      refine z_get C G clX7 3 rfl 8 (by decide) m_fl_RX7_74 rfl dX7_read_86 ?_
      refine lv_if_eq (tgt := 103) hx hb dX7_read_89 (by decide) (fun c_26 => ?_) (fun c_26 => ?_)
      · have c_26n : y4.toInt = (0 : Int) := (fa_eq _ _).mp c_26
        have hX := pLines_o hj (by first | exact Or.inl (by omega) | exact Or.inr (Or.inl (by rw [← hA6A]; omega)) | exact Or.inr (Or.inr (pTk_0.mpr (by omega)))) hEq
        have hRd := pRead_e (n := N) hX
        refine lv_iload_n hx hb dX7_read_103 rfl (lv_at hl 2 rfl) ?_
        refine lv_if_ne (tgt := 111) hx hb dX7_read_104 (by decide) (fun _ => ?_) (fun q => absurd q (by decide))
        have G := G.sub (bs' := [[zO7 rd rl rdd rg y0 y1 tp v_1 y3 y4 y5 y6 y7 y8], [zAr T 1 tp 600 ft], w2_2, [(rdd, .inr (2, [.int 0, .ref a1_11, .ref a2_12, .ref a3_13])), zAr T 0 a1_11 40 d1, zAr T 0 a2_12 40 d2, zAr T 0 a3_13 40 d3], wg3]) [3, 4, 2, 0, 1] rfl
        exact z_back hQ9 (z_vret C hr hlocks G (Nat.le_of_ble_eq_true rfl) (Nat.le_of_ble_eq_true rfl) dX7_read_111 ⟨v_1, y0, y1, y3, y4, y5, y6, y7, y8, w2_2, g1_3, k2, g3_4, g4_5, ([(rdd, .inr (2, [.int 0, .ref a1_11, .ref a2_12, .ref a3_13])), zAr T 0 a1_11 40 d1, zAr T 0 a2_12 40 d2, zAr T 0 a3_13 40 d3]), wg3, gg3, v4, v5, rfl, h_6, hI, hw_22, hg3, (by rw [hRd, pFin_s (by decide)]; exact hA8A), (by rw [hRd, pFin_s (by decide)]; exact hA9A), (by rw [hRd, pFin_s (by decide)]; exact hCC)⟩)
      · have c_26n : ¬ y4.toInt = (0 : Int) := fun q => c_26 ((fa_eq _ _).mpr q)
        have htA : ¬ pTk k A9.1 = 0 := fun z9 => by have := pTk_0.mp z9; omega
        refine lv_aload_n hx hb dX7_read_92 rfl (lv_at hl 1 rfl) ?_
        refine lv_iload_n hx hb dX7_read_93 rfl (lv_at hl 2 rfl) ?_
        refine z_Vv (bc := [[zO7 rd rl rdd rg y0 y1 tp v_1 y3 y4 y5 y6 y7 y8], [zAr T 1 tp 600 ft], wg3]) (br := [[(rdd, .inr (2, [.int 0, .ref a1_11, .ref a2_12, .ref a3_13])), zAr T 0 a1_11 40 d1, zAr T 0 a2_12 40 d2, zAr T 0 a3_13 40 d3], w2_2]) (As := [.int 2]) (rest := []) C G (c_f_readLine2 l T rd rl rdd rg tp y0 y1 v_1 y3 y4 y5 y6 y7 y8 ft gg3 v4 v5 wg3 k N A9 fr hBA hwA hg3 hCC) (kV_RX7_77 C.2.2.2.2 (Nat.le_of_ble_eq_true rfl) (Nat.le_of_ble_eq_true rfl)) [3, 4, 1] [1, 1, 0] rfl rfl (ci := 7) (qc := (RX7, TX7, 13)) rfl rfl (List.mem_flatten.mpr ⟨_, List.mem_of_getElem? (i := 0) rfl, List.mem_cons_self⟩) rfl rfl hl.1 dX7_read_94 (Nat.le_of_ble_eq_true rfl) (Nat.le_of_ble_eq_true rfl) (fun b1 H locs hw G => ?_)
        refine zEx12 hw ?_
        intro u0_27 u1_28 u3_29 u4_30 u5_31 u6_32 u7_33 u8_34 wg2_35 gg2_36 b4_37 b5_38
        refine zCu4 ?_
        intro hbs9 h_39 h_40 h_41
        clear hw
        subst hbs9
        have G : zS T A s.heap s [[(rdd, .inr (2, [.int 0, .ref a1_11, .ref a2_12, .ref a3_13])), zAr T 0 a1_11 40 d1, zAr T 0 a2_12 40 d2, zAr T 0 a3_13 40 d3], w2_2, [zO7 rd rl rdd rg u0_27 u1_28 tp v_1 u3_29 u4_30 u5_31 u6_32 u7_33 u8_34], [zAr T 1 tp 600 ft], wg2_35] _ _ := G
        have hnR := h_40
        have hnC := h_41
        refine lv_iinc (v := nI (j + 1)) (lv' := [(4, .int (nI (j + 1))), (0, .ref rd), (3, .int 2)]) hx hb dX7_read_97 hl (k := 0) rfl (z_inc j 1) (by decide) rfl (fun ls hl => ?_)
        refine lv_goto (tgt := 70) hx hb dX7_read_100 (by decide) ?_
        have G := G.sub (bs' := [[(rdd, .inr (2, [.int 0, .ref a1_11, .ref a2_12, .ref a3_13])), zAr T 0 a1_11 40 d1, zAr T 0 a2_12 40 d2, zAr T 0 a3_13 40 d3], wg2_35, w2_2, [zO7 rd rl rdd rg u0_27 u1_28 tp v_1 u3_29 u4_30 u5_31 u6_32 u7_33 u8_34], [zAr T 1 tp 600 ft]]) [0, 4, 1, 2, 3] rfl
        exact ih_70 (j + 1) ((pLine k 2 A9 fr).1) ((pLine k 2 A9 fr).2) u0_27 u1_28 u3_29 u4_30 u5_31 u6_32 u7_33 u8_34 wg2_35 gg2_36 b4_37 b5_38 (show bLog T rg gg2_36 b4_37 b5_38 wg2_35 ∧ (j + 1) ≤ 601 ∧ zRc k N ft u0_27 u1_28 v_1 u3_29 u4_30 u5_31 u6_32 u7_33 ((pLine k 2 A9 fr).1) ∧ pLines k 2 (601 - (j + 1)) ((pLine k 2 A9 fr).1) ((pLine k 2 A9 fr).2) = pLines k 2 601 (0, 0, 0, -1, -1) (fun _ => 0) ∧ zGc gg2_36 b4_37 b5_38 ((pLine k 2 A9 fr).1) ((pLine k 2 A9 fr).2) from ⟨h_39, by omega, hnR, (pLines_n (by omega) hwA htA hEq), hnC⟩) (show 601 - (j + 1) < 601 - j from by omega) _ _ ls G (lv_sub hl [0, 1, 2] rfl)
/-! the reference's words: letters five bits each -/
def zVal (g : Nat → Int32) (w : Nat) : Nat → Int
  | 0 => 0
  | k + 1 => 32 * zVal g w k + ((g (w + k)).toInt - 96)
theorem zVal_bd {g : Nat → Int32} {w : Nat} : ∀ k : Nat, (∀ j, j < k → tkL (g (w + j)) = true) → 0 ≤ zVal g w k ∧ zVal g w k < 32 ^ k
  | 0, h => by unfold zVal; exact ⟨by omega, by decide⟩
  | k + 1, h => by
    have h1 := zVal_bd (g := g) (w := w) k (fun j hj => h j (by omega))
    have h2 := tkL_iff.mp (h k (by omega))
    unfold zVal
    rw [Int.pow_succ]
    omega
theorem zVal_inj {g g' : Nat → Int32} {w w' : Nat} : ∀ k k' : Nat, (∀ j, j < k → tkL (g (w + j)) = true) → (∀ j, j < k' → tkL (g' (w' + j)) = true) → zVal g w k = zVal g' w' k' → k = k' ∧ ∀ j, j < k → g (w + j) = g' (w' + j)
  | 0, 0, _, _, _ => ⟨rfl, fun j hj => absurd hj (by omega)⟩
  | 0, k' + 1, _, h', e => by
    have h1 := zVal_bd (g := g') (w := w') k' (fun j hj => h' j (by omega))
    have h2 := tkL_iff.mp (h' k' (by omega))
    unfold zVal at e
    omega
  | k + 1, 0, h, _, e => by
    have h1 := zVal_bd (g := g) (w := w) k (fun j hj => h j (by omega))
    have h2 := tkL_iff.mp (h k (by omega))
    unfold zVal at e
    omega
  | k + 1, k' + 1, h, h', e => by
    have h2 := tkL_iff.mp (h k (by omega))
    have h3 := tkL_iff.mp (h' k' (by omega))
    unfold zVal at e
    obtain ⟨q1, q2⟩ := zVal_inj k k' (fun j hj => h j (by omega)) (fun j hj => h' j (by omega)) (by omega)
    refine ⟨by omega, fun j hj => ?_⟩
    by_cases c : j = k
    · subst q1
      subst c
      exact Int32.toInt_inj.mp (by omega)
    · exact q2 j (by omega)
def zWq (i : Nat) : Nat → Int32 := fun j => (zByt.getD i []).getD j 0
theorem zWq_let : ∀ i, i < 12 → ∀ j, j < zLen.getD i 0 → tkL (zWq i j) = true := by decide +kernel
theorem zVal_word {g : Nat → Int32} {w e i : Nat} (hi : i < 12) (hw : w ≤ e) (hl : ∀ j, w ≤ j → j < e → tkL (g j) = true) : (zVal g w (e - w) = zVal (zWq i) 0 (zLen.getD i 0)) ↔ zWI g w e i = true := by
  unfold zWI
  rw [decide_eq_true_iff]
  constructor
  · intro h
    obtain ⟨q1, q2⟩ := zVal_inj _ _ (fun j hj => hl (w + j) (by omega) (by omega)) (fun j hj => by rw [Nat.zero_add]; exact zWq_let i hi j hj) h
    refine ⟨q1, fun j hj => ?_⟩
    have := q2 j (by omega)
    rw [Nat.zero_add] at this
    exact this
  · rintro ⟨h1, h2⟩
    rw [h1]
    have key : ∀ k, k ≤ zLen.getD i 0 → zVal g w k = zVal (zWq i) 0 k := by
      intro k
      induction k with
      | zero => intro _; rfl
      | succ k ih =>
        intro hk
        unfold zVal
        rw [ih (by omega), h2 k (by omega), Nat.zero_add]
        rfl
    exact key _ (Nat.le_refl _)
def zKon : List Int64 := [zEight 0 0 0 3 18 15 19 19, zFour 16 15 19 20, zEight 0 23 1 12 11 5 18 19, zFour 0 9 14 14, zFour 3 1 13 5, zEight 0 0 0 14 5 22 5 18, zFour 0 0 7 15, zFour 0 18 21 14, zFour 20 21 18 14, zFour 0 1 4 4, zFour 19 8 21 20, zFour 15 16 5 14]
theorem zKon_val : ∀ i, i < 12 → (zKon.getD i 0).toInt = zVal (zWq i) 0 (zLen.getD i 0) := by decide +kernel
theorem zWord_at {g : Nat → Int32} {w e : Nat} {v : Int64} (hw : w ≤ e) (hl : ∀ j, w ≤ j → j < e → tkL (g j) = true) (hv : v.toInt = zVal g w (e - w)) : (zWord v).toInt = (zWordAt g w e : Int) := by
  have c : ∀ i, i < 12 → ((v = zKon.getD i 0) ↔ zWI g w e i = true) := fun i hi => by
    rw [← zVal_word hi hw hl, ← zKon_val i hi, ← hv]
    exact Int64.toInt_inj.symm
  have c0 : (v = zEight 0 0 0 3 18 15 19 19) ↔ zWI g w e 0 = true := c 0 (by decide)
  have c1 : (v = zFour 16 15 19 20) ↔ zWI g w e 1 = true := c 1 (by decide)
  have c2 : (v = zEight 0 23 1 12 11 5 18 19) ↔ zWI g w e 2 = true := c 2 (by decide)
  have c3 : (v = zFour 0 9 14 14) ↔ zWI g w e 3 = true := c 3 (by decide)
  have c4 : (v = zFour 3 1 13 5) ↔ zWI g w e 4 = true := c 4 (by decide)
  have c5 : (v = zEight 0 0 0 14 5 22 5 18) ↔ zWI g w e 5 = true := c 5 (by decide)
  have c6 : (v = zFour 0 0 7 15) ↔ zWI g w e 6 = true := c 6 (by decide)
  have c7 : (v = zFour 0 18 21 14) ↔ zWI g w e 7 = true := c 7 (by decide)
  have c8 : (v = zFour 20 21 18 14) ↔ zWI g w e 8 = true := c 8 (by decide)
  have c9 : (v = zFour 0 1 4 4) ↔ zWI g w e 9 = true := c 9 (by decide)
  have c10 : (v = zFour 19 8 21 20) ↔ zWI g w e 10 = true := c 10 (by decide)
  have c11 : (v = zFour 15 16 5 14) ↔ zWI g w e 11 = true := c 11 (by decide)
  unfold zWord zWordAt
  simp only [c0, c1, c2, c3, c4, c5, c6, c7, c8, c9, c10, c11]
  by_cases h0 : zWI g w e 0 = true
  · rw [if_pos h0, if_pos h0]; rfl
  rw [if_neg h0, if_neg h0]
  by_cases h1 : zWI g w e 1 = true
  · rw [if_pos h1, if_pos h1]; rfl
  rw [if_neg h1, if_neg h1]
  by_cases h2 : zWI g w e 2 = true
  · rw [if_pos h2, if_pos h2]; rfl
  rw [if_neg h2, if_neg h2]
  by_cases h3 : zWI g w e 3 = true
  · rw [if_pos h3, if_pos h3]; rfl
  rw [if_neg h3, if_neg h3]
  by_cases h6 : zWI g w e 6 = true
  · rw [if_pos h6, if_pos h6]; rfl
  rw [if_neg h6, if_neg h6]
  by_cases h7 : zWI g w e 7 = true
  · rw [if_pos h7, if_pos h7]; rfl
  rw [if_neg h7, if_neg h7]
  by_cases h8 : zWI g w e 8 = true
  · rw [if_pos h8, if_pos h8]; rfl
  rw [if_neg h8, if_neg h8]
  by_cases h9 : zWI g w e 9 = true
  · rw [if_pos h9, if_pos h9]; rfl
  rw [if_neg h9, if_neg h9]
  by_cases h10 : zWI g w e 10 = true
  · rw [if_pos h10, if_pos h10]; rfl
  rw [if_neg h10, if_neg h10]
  by_cases h11 : zWI g w e 11 = true
  · rw [if_pos h11, if_pos h11]; rfl
  rw [if_neg h11, if_neg h11]
  by_cases h4 : zWI g w e 4 = true
  · rw [if_pos h4, if_pos h4]; rfl
  rw [if_neg h4, if_neg h4]
  by_cases h5 : zWI g w e 5 = true
  · rw [if_pos h5, if_pos h5]; rfl
  rw [if_neg h5, if_neg h5]
  rfl
theorem zWd_long {g : Nat → Int32} {w e : Nat} (h : 7 < e - w) : zWordAt g w e = 99 := by
  rcases zWd_c g w e with ⟨i, hi, a, -⟩ | b
  · unfold zWI at a
    have q := (of_decide_eq_true a).1
    have := zLen_le i hi
    omega
  · exact b
def zBt (f : Nat → Int32) (n q : Nat) : Int32 := if q < n then f (10 + q) else -1
theorem zBt_lt {f : Nat → Int32} {n q : Nat} (h : ¬ (zBt f n q).toInt = -1) : q < n := by
  by_cases c : q < n
  · exact c
  · exact absurd (by unfold zBt; rw [if_neg c]; rfl) h
theorem zBt_e {f : Nat → Int32} {n q : Nat} (h : q < n) : zBt f n q = f (10 + q) := if_pos h
theorem zBt_neg {f : Nat → Int32} {n q : Nat} (hb : ∀ j, j < n → 0 ≤ (f (10 + j)).toInt) (h : (zBt f n q).toInt < 0) : n ≤ q := by
  by_cases c : q < n
  · rw [zBt_e c] at h
    have := hb q c
    omega
  · omega
theorem zBt_B {f : Nat → Int32} {n q : Nat} (h : (zBt f n q).toInt = 10 ∨ (zBt f n q).toInt = 32) : q < n ∧ tkB (f (10 + q)) = true := by
  have c : q < n := zBt_lt (f := f) (by omega)
  rw [zBt_e c] at h
  exact ⟨c, tkB_iff.mpr h⟩
theorem zBt_nB {f : Nat → Int32} {n q : Nat} (c : q < n) (h1 : ¬ (zBt f n q).toInt = 10) (h2 : ¬ (zBt f n q).toInt = 32) : tkB (f (10 + q)) = false := by
  rw [zBt_e c] at h1 h2
  exact tkB_f h1 h2
theorem zBt_L {f : Nat → Int32} {n q : Nat} (h1 : 97 ≤ (zBt f n q).toInt) (h2 : (zBt f n q).toInt ≤ 122) : q < n ∧ tkL (f (10 + q)) = true := by
  have c : q < n := zBt_lt (f := f) (by omega)
  rw [zBt_e c] at h1 h2
  exact ⟨c, tkL_iff.mpr ⟨h1, h2⟩⟩
theorem zBt_nL {f : Nat → Int32} {n q : Nat} (c : q < n) (h : (zBt f n q).toInt < 97 ∨ 122 < (zBt f n q).toInt) : tkL (f (10 + q)) = false := by
  rw [zBt_e c] at h
  exact tkL_f h
theorem zBt_D {f : Nat → Int32} {n q : Nat} (h1 : 48 ≤ (zBt f n q).toInt) (h2 : (zBt f n q).toInt ≤ 57) : q < n ∧ tkD (f (10 + q)) = true := by
  have c : q < n := zBt_lt (f := f) (by omega)
  rw [zBt_e c] at h1 h2
  exact ⟨c, tkD_iff.mpr ⟨h1, h2⟩⟩
theorem zBt_nD {f : Nat → Int32} {n q : Nat} (c : q < n) (h : (zBt f n q).toInt < 48 ∨ 57 < (zBt f n q).toInt) : tkD (f (10 + q)) = false := by
  rw [zBt_e c] at h
  exact tkD_f h
theorem zVal_0 {g : Nat → Int32} {w : Nat} : (0 : Int64).toInt = zVal g w (min (w - w) 8) := by rw [Nat.sub_self]; rfl
theorem z_l32 {v : Int64} {x : Int32} (h0 : 0 ≤ v.toInt) (h1 : v.toInt < 1099511627776) (hx : 97 ≤ x.toInt ∧ x.toInt ≤ 122) : (32 * v + x.toInt64 - 96).toInt = 32 * v.toInt + (x.toInt - 96) := by
  have e32 : (32 : Int64).toInt = 32 := rfl
  have e96 : (96 : Int64).toInt = 96 := rfl
  rw [Int64.toInt_sub, Int64.toInt_add, Int64.toInt_mul, Int32.toInt_toInt64, e32, e96]
  rw [Int.bmod_eq_of_le (n := 32 * v.toInt) (by omega) (by omega), Int.bmod_eq_of_le (n := 32 * v.toInt + x.toInt) (by omega) (by omega), Int.bmod_eq_of_le (by omega) (by omega)]
  omega
theorem zVal_p {g : Nat → Int32} {w y : Nat} {v : Int64} (hall : ∀ j, w ≤ j → j < y → tkL (g j) = true) (hv : v.toInt = zVal g w (min (y - w) 8)) : 0 ≤ v.toInt ∧ v.toInt < 1099511627776 := by
  have h := zVal_bd (g := g) (w := w) (min (y - w) 8) (fun j hj => hall (w + j) (by omega) (by omega))
  have p : ∀ k, k ≤ 8 → (32 : Int) ^ k ≤ 32 ^ 8 := by decide
  have q := p (min (y - w) 8) (by omega)
  rw [hv]
  have e : (32 : Int) ^ 8 = 1099511627776 := rfl
  omega
theorem zVal_a {g : Nat → Int32} {w y : Nat} {v : Int64} {x : Int32} (hw : w ≤ y) (hall : ∀ j, w ≤ j → j < y → tkL (g j) = true) (hx : x = g y) (hl : tkL (g y) = true) (hv : v.toInt = zVal g w (min (y - w) 8)) (h8 : y - w < 8) : (32 * v + x.toInt64 - 96).toInt = zVal g w (min (y + 1 - w) 8) := by
  have b := zVal_p hall hv
  have c := tkL_iff.mp hl
  rw [z_l32 b.1 b.2 (by rw [hx]; exact c), hv, show min (y + 1 - w) 8 = min (y - w) 8 + 1 by omega]
  conv => rhs; unfold zVal
  rw [show w + min (y - w) 8 = y by omega, hx]
theorem zVal_b {g : Nat → Int32} {w y : Nat} {v : Int64} (hv : v.toInt = zVal g w (min (y - w) 8)) (h8 : 8 ≤ y - w) : v.toInt = zVal g w (min (y + 1 - w) 8) := by
  rw [hv, show min (y - w) 8 = min (y + 1 - w) 8 by omega]
theorem zTokR_old {k : pT} {n p : Nat} {nx wh tk nu wo : Int32} (hk : pOk k n) (hp : p ≤ n) (hn : n ≤ 600) (h : zTokR k p nx wh tk nu wo) : 0 ≤ nx.toInt ∧ nx.toInt ≤ (nI n).toInt ∧ (nI p).toInt ≤ nx.toInt ∧ (tk.toInt = 0 ∨ (nI p).toInt < nx.toInt) ∧ 0 ≤ tk.toInt ∧ tk.toInt ≤ 4 := by
  obtain ⟨h1, h2, h3, -, -⟩ := h
  have q := hk p hp
  have t := pTk_le hk hp
  have e1 : nx.toInt = (pEn k p : Int) := by rw [h1]; exact nI_toInt (by omega)
  have e3 : tk.toInt = (pTk k p : Int) := by rw [h3]; exact nI_toInt (by omega)
  have e4 : (nI n).toInt = (n : Int) := nI_toInt (by omega)
  have e5 : (nI p).toInt = (p : Int) := nI_toInt (by omega)
  rw [e1, e3, e4, e5]
  refine ⟨by omega, by omega, by omega, ?_, by omega, by omega⟩
  by_cases c : pTk k p = 0
  · exact Or.inl (by omega)
  · have := q.2.2.2.1 (fun z => c (pTk_0.mpr z))
    exact Or.inr (by omega)
theorem tkV_m {g : Nat → Int32} {x z : Nat} {nu y : Int32} (hx : x ≤ z) (hz : z < x + 2) (hnu : nu.toInt = tkV g x (min z (x + 2))) (e : y.toInt = 10 * nu.toInt + (g z).toInt - 48) : y.toInt = tkV g x (min (z + 1) (x + 2)) := by
  rw [show min (z + 1) (x + 2) = z + 1 by omega, tkV_s hx hz, e, hnu, show min z (x + 2) = z by omega]
  omega
theorem tkV_b2 {g : Nat → Int32} {x z : Nat} {nu : Int32} (hx : x ≤ z) (hall : ∀ j, x ≤ j → j < z → tkD (g j) = true) (hnu : nu.toInt = tkV g x (min z (x + 2))) : 0 ≤ nu.toInt ∧ nu.toInt ≤ 99 := by
  rw [hnu]
  exact tkV_bd (fun j h1 h2 => hall j h1 (by omega)) (by omega) (by omega)

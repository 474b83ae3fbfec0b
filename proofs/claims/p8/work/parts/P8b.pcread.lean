theorem zRc_st {k : pT} {n : Nat} {ft : Nat → Int32} {r2 r3 r4 r5 r6 : Int32} (hk : k = tkT ft n) (hn : n ≤ 600) (h2 : r2 = nI n) (hT : zTokC k 0 r3 r4 r5 r6) : zRc k n ft 0 (-1) r2 r3 r4 r5 r6 0 (0, 0, 0, -1, -1) := by
  have ho : pOk k n := by rw [hk]; exact tkT_ok _ _
  exact ⟨⟨hk, hn, h2, Nat.zero_le _⟩, rfl, fun _ => hT, rfl, rfl, Or.inl ⟨by show (0 : Int32).toInt = 0; rfl, fun q => absurd (show (0 : Int32).toInt = 0 from rfl) q⟩, _, (ho 0 (Nat.zero_le _)).1.2.2, hT.1⟩
theorem zLc_st {k1 k2 k3 k4 : Nat → Int32} (h1 : ∀ j, j < 7 → k1 j = 0) (h3 : ∀ j, j < 7 → k3 j = 0) (h4 : ∀ j, j < 7 → k4 j = 0) : zLc 0 0 k1 k2 k3 k4 0 (0, 0, 0, -1, -1) (fun _ => 0) := fun _ => ⟨rfl, by decide, rfl, fun j hj => ⟨h1 j hj, h3 j hj, h4 j hj⟩, fun j hj _ => h1 j hj, fun j r hj _ hr => by rw [h1 j hj] at hr; have : (0 : Int32).toInt = 0 := rfl; omega, zTof_0⟩
theorem zDc_st {d1 d2 d3 : Nat → Int32} : zDc 0 d1 d2 d3 (0, 0, 0, -1, -1) (fun _ => 0) := fun _ => ⟨rfl, by decide, fun j hj => by have hj : (j : Int) < (0 : Int32).toInt := hj; have : (0 : Int32).toInt = 0 := rfl; omega⟩
theorem zGc_st {d1 d2 : Nat → Int32} : zGc 0 d1 d2 (0, 0, 0, -1, -1) (fun _ => 0) := fun _ => ⟨rfl, by decide, fun j hj => by have hj : (j : Int) < (0 : Int32).toInt := hj; have : (0 : Int32).toInt = 0 := rfl; omega⟩
theorem pLines_n {k : pT} {s j : Nat} {a : pS} {f : Nat → Int32} {X : pS × (Nat → Int32)} (hj : j ≤ 600) (hw : a.2.1.toInt = 0) (ht : ¬ pTk k a.1 = 0) (h : pLines k s (601 - j) a f = X) : pLines k s (601 - (j + 1)) (pLine k s a f).1 (pLine k s a f).2 = X := by
  rw [show 601 - j = (601 - (j + 1)) + 1 by omega, pLines_s ⟨hw, ht⟩] at h
  exact h
theorem pLines_o {k : pT} {s j : Nat} {a : pS} {f : Nat → Int32} {X : pS × (Nat → Int32)} (hj : j ≤ 601) (h : 600 < j ∨ ¬ a.2.1.toInt = 0 ∨ pTk k a.1 = 0) (hE : pLines k s (601 - j) a f = X) : X = (a, f) := by
  rw [← hE]
  rcases h with h | h | h
  · rw [show 601 - j = 0 by omega]; rfl
  · exact pLines_x (fun z => h z.1)
  · exact pLines_x (fun z => z.2 h)
theorem pRead_e {k : pT} {n s : Nat} {a : pS} {f : Nat → Int32} (h : pLines k s 601 (0, 0, 0, -1, -1) (fun _ => 0) = (a, f)) : pRead k n s = pFin n s (a, f) := congrArg (pFin n s) h
theorem zLc_fin {cr inn tof : Int32} {k1 k2 k3 k4 f : Nat → Int32} {a : pS} {n : Nat} (h : zLc cr inn k1 k2 k3 k4 tof a f) : zLc cr inn k1 k2 k3 k4 tof (pFin n 0 (a, f)).1 (pFin n 0 (a, f)).2 := by
  intro q
  have e := pFin_f q
  rw [e] at q ⊢
  exact h q
set_option maxHeartbeats 4000000 in
set_option maxRecDepth 100000 in
/-- c_f_read0 -/
theorem c_f_read0 (l : Launch) (T : zTy) (rd : Nat) (rl : Nat) (rdd : Nat) (rg : Nat) (tp : Nat) (r0 : Int32) (r1 : Int32) (r2 : Int32) (r3 : Int32) (r4 : Int32) (r5 : Int32) (r6 : Int32) (r7 : Int32) (r8 : Int32) (tq : Nat) (ft : Nat → Int32) (cr : Int32) (inn : Int32) (k1 : Nat → Int32) (k2 : Nat → Int32) (k3 : Nat → Int32) (k4 : Nat → Int32) (z : va_W) (dd : Int32) (d1 : Nat → Int32) (d2 : Nat → Int32) (d3 : Nat → Int32) (wd : va_W) (gg : Int32) (e1 : Nat → Int32) (e2 : Nat → Int32) (wg : va_W) (n : Int32) (k : pT) (N : Nat) (hz : bLand T rl cr inn k1 k2 k3 k4 z) (hd : bDay T rdd dd d1 d2 d3 wd) (hg : bLog T rg gg e1 e2 wg) (hN : n = nI N) (hN6 : N ≤ 600) (hk : k = tkT ft N) : zMv l T yX7_read cX7_read 5 8 0 0 [.ref rd, .ref tp, .int n, .int 0] [[(rd, .inr (7, [.ref rl, .ref rdd, .ref rg, .int r0, .int r1, .ref tq, .int r2, .int r3, .int r4, .int r5, .int r6, .int r7, .int r8]))], [(tp, .inl (T.2 1, 600, .inl ft))], z, wd, wg] (fun bs => ∃ (u2 : Int32) (u0 : Int32) (u1 : Int32) (u3 : Int32) (u4 : Int32) (u5 : Int32) (u6 : Int32) (u7 : Int32) (u8 : Int32) (z2 : va_W) (c2 : Int32) (i2 : Int32) (j1 : Nat → Int32) (j2 : Nat → Int32) (j3 : Nat → Int32) (j4 : Nat → Int32) (wd2 : va_W) (wg2 : va_W), bs = [[(rd, .inr (7, [.ref rl, .ref rdd, .ref rg, .int u0, .int u1, .ref tp, .int u2, .int u3, .int u4, .int u5, .int u6, .int u7, .int u8]))], [(tp, .inl (T.2 1, 600, .inl ft))], z2, wd2, wg2] ∧ bLand T rl c2 i2 j1 j2 j3 j4 z2 ∧ zLI c2 j1 j3 ∧ bDay T rdd 0 d1 d2 d3 wd2 ∧ bLog T rg 0 e1 e2 wg2 ∧ u0 = (pRead k N 0).1.2.2.1 ∧ u1 = (pRead k N 0).1.2.2.2.1 ∧ zLc c2 i2 j1 j2 j3 j4 u8 (pRead k N 0).1 (pRead k N 0).2) := by
  refine zMv_of (own := RX7) (by decide) rfl (Nat.le_of_ble_eq_true rfl) ?_
  intro p e s m args below meth c A ls C hr hlocks hnm hAe G hl
  have hx := C.1
  have hb := C.2.1
  have hl : lv_has ls 5 [(0, .ref rd), (1, .ref tp), (2, .int n), (3, .int 0)] := hl
  refine lv_aload_n hx hb dX7_read_0 rfl (lv_at hl 0 rfl) ?_
  refine lv_aload_n hx hb dX7_read_1 rfl (lv_at hl 1 rfl) ?_
  refine z_put C G clX7 0 rfl 5 (by decide) m_fl_RX7_32 rfl rfl rfl (Nat.le_of_ble_eq_true rfl) dX7_read_2 (fun H locs G => ?_)
  have G : zS T A s.heap s [[(rd, .inr (7, [.ref rl, .ref rdd, .ref rg, .int r0, .int r1, .ref tp, .int r2, .int r3, .int r4, .int r5, .int r6, .int r7, .int r8]))], [(tp, .inl (T.2 1, 600, .inl ft))], z, wd, wg] _ _ := G
  refine lv_aload_n hx hb dX7_read_5 rfl (lv_at hl 0 rfl) ?_
  refine lv_iload_n hx hb dX7_read_6 rfl (lv_at hl 2 rfl) ?_
  refine lv_aload_n hx hb dX7_read_7 rfl (lv_at hl 1 rfl) ?_
  refine z_alen C G 1 1 rfl (v := 600) rfl rfl dX7_read_8 ?_
  refine va_mmin hx hb (C.2.2.1.trans hl.1.symm) C.2.2.2.1 (C.2.2.2.2 _ m_ml_RX7_36) (C.2.2.2.2 _ m_st_math_min) (C.2.2.2.2 _ m_ii_math) (C.2.2.2.2 _ m_co_math_min) (Nat.le_of_ble_eq_true rfl) (Nat.le_of_ble_eq_true rfl) (Nat.le_of_ble_eq_true rfl) (Nat.le_of_ble_eq_true rfl) dX7_read_9 ?_
  refine lv_topi (fun v_1 ev_1 => ?_)
  have hlen : v_1 = nI N := by rw [ev_1, if_neg (fun z9 => by have z8 := (fa_lt _ _).mp z9; rw [hN, nI_toInt (by omega)] at z8; have z7 : (600 : Int32).toInt = 600 := rfl; omega)]; exact hN
  refine z_put C G clX7 0 rfl 6 (by decide) m_fl_RX7_42 rfl rfl rfl (Nat.le_of_ble_eq_true rfl) dX7_read_12 (fun H locs G => ?_)
  have G : zS T A s.heap s [[(rd, .inr (7, [.ref rl, .ref rdd, .ref rg, .int r0, .int r1, .ref tp, .int v_1, .int r3, .int r4, .int r5, .int r6, .int r7, .int r8]))], [(tp, .inl (T.2 1, 600, .inl ft))], z, wd, wg] _ _ := G
  refine lv_aload_n hx hb dX7_read_15 rfl (lv_at hl 0 rfl) ?_
  refine lv_iconst (v := 0) hx hb dX7_read_16 (by decide) ?_
  refine z_put C G clX7 0 rfl 7 (by decide) m_fl_RX7_46 rfl rfl rfl (Nat.le_of_ble_eq_true rfl) dX7_read_17 (fun H locs G => ?_)
  have G : zS T A s.heap s [[(rd, .inr (7, [.ref rl, .ref rdd, .ref rg, .int r0, .int r1, .ref tp, .int v_1, .int 0, .int r4, .int r5, .int r6, .int r7, .int r8]))], [(tp, .inl (T.2 1, 600, .inl ft))], z, wd, wg] _ _ := G
  refine lv_aload_n hx hb dX7_read_20 rfl (lv_at hl 0 rfl) ?_
  refine lv_iconst (v := 0) hx hb dX7_read_21 (by decide) ?_
  refine z_put C G clX7 0 rfl 3 (by decide) m_fl_RX7_49 rfl rfl rfl (Nat.le_of_ble_eq_true rfl) dX7_read_22 (fun H locs G => ?_)
  have G : zS T A s.heap s [[(rd, .inr (7, [.ref rl, .ref rdd, .ref rg, .int 0, .int r1, .ref tp, .int v_1, .int 0, .int r4, .int r5, .int r6, .int r7, .int r8]))], [(tp, .inl (T.2 1, 600, .inl ft))], z, wd, wg] _ _ := G
  refine lv_aload_n hx hb dX7_read_25 rfl (lv_at hl 0 rfl) ?_
  refine lv_iconst (v := (-1)) hx hb dX7_read_26 (by decide) ?_
  refine z_put C G clX7 0 rfl 4 (by decide) m_fl_RX7_52 rfl rfl rfl (Nat.le_of_ble_eq_true rfl) dX7_read_27 (fun H locs G => ?_)
  have G : zS T A s.heap s [[(rd, .inr (7, [.ref rl, .ref rdd, .ref rg, .int 0, .int (-1), .ref tp, .int v_1, .int 0, .int r4, .int r5, .int r6, .int r7, .int r8]))], [(tp, .inl (T.2 1, 600, .inl ft))], z, wd, wg] _ _ := G
  refine lv_aload_n hx hb dX7_read_30 rfl (lv_at hl 0 rfl) ?_
  refine lv_iconst (v := 0) hx hb dX7_read_31 (by decide) ?_
  refine z_put C G clX7 0 rfl 11 (by decide) m_fl_RX7_55 rfl rfl rfl (Nat.le_of_ble_eq_true rfl) dX7_read_32 (fun H locs G => ?_)
  have G : zS T A s.heap s [[(rd, .inr (7, [.ref rl, .ref rdd, .ref rg, .int 0, .int (-1), .ref tp, .int v_1, .int 0, .int r4, .int r5, .int r6, .int 0, .int r8]))], [(tp, .inl (T.2 1, 600, .inl ft))], z, wd, wg] _ _ := G
  refine lv_aload_n hx hb dX7_read_35 rfl (lv_at hl 0 rfl) ?_
  refine lv_iconst (v := 0) hx hb dX7_read_36 (by decide) ?_
  refine z_put C G clX7 0 rfl 12 (by decide) m_fl_RX7_59 rfl rfl rfl (Nat.le_of_ble_eq_true rfl) dX7_read_37 (fun H locs G => ?_)
  have G : zS T A s.heap s [[(rd, .inr (7, [.ref rl, .ref rdd, .ref rg, .int 0, .int (-1), .ref tp, .int v_1, .int 0, .int r4, .int r5, .int r6, .int 0, .int 0]))], [(tp, .inl (T.2 1, 600, .inl ft))], z, wd, wg] _ _ := G
  refine lv_aload_n hx hb dX7_read_40 rfl (lv_at hl 0 rfl) ?_
  refine z_get C G clX7 0 rfl 0 (by decide) m_fl_RX7_12 rfl dX7_read_41 ?_
  refine z_Vv (bc := [z]) (br := [[(rd, .inr (7, [.ref rl, .ref rdd, .ref rg, .int 0, .int (-1), .ref tp, .int v_1, .int 0, .int r4, .int r5, .int r6, .int 0, .int 0]))], [(tp, .inl (T.2 1, 600, .inl ft))], wd, wg]) (As := []) (rest := []) C G (c_Land_clear l T rl cr inn k1 k2 k3 k4 z hz) (kV_RX7_62 C.2.2.2.2 (Nat.le_of_ble_eq_true rfl) (Nat.le_of_ble_eq_true rfl)) [2] [0, 1, 3, 4] rfl rfl (ci := 4) (qc := (RX4, TX4, 6)) rfl rfl (List.mem_flatten.mpr ⟨_, List.mem_of_getElem? (i := 0) rfl, (bLand_mem hz).choose_spec⟩) rfl rfl hl.1 dX7_read_44 (Nat.le_of_ble_eq_true rfl) (Nat.le_of_ble_eq_true rfl) (fun b1 H locs hw G => ?_)
  obtain ⟨w2_2, g1_3, g3_4, g4_5, rfl, h_6, h_7, h_8, h_9⟩ := hw
  have G : zS T A s.heap s [[(rd, .inr (7, [.ref rl, .ref rdd, .ref rg, .int 0, .int (-1), .ref tp, .int v_1, .int 0, .int r4, .int r5, .int r6, .int 0, .int 0]))], [(tp, .inl (T.2 1, 600, .inl ft))], wd, wg, w2_2] _ _ := G
  have hI : zLI 0 g1_3 g3_4 := zLI_zero h_7 h_8
  refine lv_aload_n hx hb dX7_read_47 rfl (lv_at hl 0 rfl) ?_
  refine z_get C G clX7 0 rfl 1 (by decide) m_fl_RX7_21 rfl dX7_read_48 ?_
  refine lv_iconst (v := 0) hx hb dX7_read_51 (by decide) ?_
  obtain ⟨a1_11, a2_12, a3_13, rfl⟩ := hd
  have G : zS T A s.heap s [[(rd, .inr (7, [.ref rl, .ref rdd, .ref rg, .int 0, .int (-1), .ref tp, .int v_1, .int 0, .int r4, .int r5, .int r6, .int 0, .int 0]))], [(tp, .inl (T.2 1, 600, .inl ft))], [(rdd, .inr (2, [.int dd, .ref a1_11, .ref a2_12, .ref a3_13]))], [(a1_11, .inl (T.2 0, 40, .inl d1))], [(a2_12, .inl (T.2 0, 40, .inl d2))], [(a3_13, .inl (T.2 0, 40, .inl d3))], wg, w2_2] _ _ := G.re rfl
  refine z_put C G clX2 2 rfl 0 (by decide) m_fl_RX7_65 rfl rfl rfl (Nat.le_of_ble_eq_true rfl) dX7_read_52 (fun H locs G => ?_)
  have G : zS T A s.heap s [[(rd, .inr (7, [.ref rl, .ref rdd, .ref rg, .int 0, .int (-1), .ref tp, .int v_1, .int 0, .int r4, .int r5, .int r6, .int 0, .int 0]))], [(tp, .inl (T.2 1, 600, .inl ft))], [(rdd, .inr (2, [.int 0, .ref a1_11, .ref a2_12, .ref a3_13]))], [(a1_11, .inl (T.2 0, 40, .inl d1))], [(a2_12, .inl (T.2 0, 40, .inl d2))], [(a3_13, .inl (T.2 0, 40, .inl d3))], wg, w2_2] _ _ := G
  refine lv_aload_n hx hb dX7_read_55 rfl (lv_at hl 0 rfl) ?_
  refine z_get C G clX7 0 rfl 2 (by decide) m_fl_RX7_28 rfl dX7_read_56 ?_
  refine lv_iconst (v := 0) hx hb dX7_read_59 (by decide) ?_
  obtain ⟨a1_14, a2_15, rfl⟩ := hg
  have G : zS T A s.heap s [[(rd, .inr (7, [.ref rl, .ref rdd, .ref rg, .int 0, .int (-1), .ref tp, .int v_1, .int 0, .int r4, .int r5, .int r6, .int 0, .int 0]))], [(tp, .inl (T.2 1, 600, .inl ft))], [(rdd, .inr (2, [.int 0, .ref a1_11, .ref a2_12, .ref a3_13]))], [(a1_11, .inl (T.2 0, 40, .inl d1))], [(a2_12, .inl (T.2 0, 40, .inl d2))], [(a3_13, .inl (T.2 0, 40, .inl d3))], [(rg, .inr (5, [.int gg, .ref a1_14, .ref a2_15]))], [(a1_14, .inl (T.2 0, 8, .inl e1))], [(a2_15, .inl (T.2 0, 8, .inl e2))], w2_2] _ _ := G.re rfl
  refine z_put C G clX5 6 rfl 0 (by decide) m_fl_RX7_68 rfl rfl rfl (Nat.le_of_ble_eq_true rfl) dX7_read_60 (fun H locs G => ?_)
  have G : zS T A s.heap s [[(rd, .inr (7, [.ref rl, .ref rdd, .ref rg, .int 0, .int (-1), .ref tp, .int v_1, .int 0, .int r4, .int r5, .int r6, .int 0, .int 0]))], [(tp, .inl (T.2 1, 600, .inl ft))], [(rdd, .inr (2, [.int 0, .ref a1_11, .ref a2_12, .ref a3_13]))], [(a1_11, .inl (T.2 0, 40, .inl d1))], [(a2_12, .inl (T.2 0, 40, .inl d2))], [(a3_13, .inl (T.2 0, 40, .inl d3))], [(rg, .inr (5, [.int 0, .ref a1_14, .ref a2_15]))], [(a1_14, .inl (T.2 0, 8, .inl e1))], [(a2_15, .inl (T.2 0, 8, .inl e2))], w2_2] _ _ := G
  refine lv_aload_n hx hb dX7_read_63 rfl (lv_at hl 0 rfl) ?_
  refine z_Vv (bc := [[(rd, .inr (7, [.ref rl, .ref rdd, .ref rg, .int 0, .int (-1), .ref tp, .int v_1, .int 0, .int r4, .int r5, .int r6, .int 0, .int 0]))], [(tp, .inl (T.2 1, 600, .inl ft))]]) (br := [[(rdd, .inr (2, [.int 0, .ref a1_11, .ref a2_12, .ref a3_13]))], [(a1_11, .inl (T.2 0, 40, .inl d1))], [(a2_12, .inl (T.2 0, 40, .inl d2))], [(a3_13, .inl (T.2 0, 40, .inl d3))], [(rg, .inr (5, [.int 0, .ref a1_14, .ref a2_15]))], [(a1_14, .inl (T.2 0, 8, .inl e1))], [(a2_15, .inl (T.2 0, 8, .inl e2))], w2_2]) (As := []) (rest := []) C G (c_f_nextToken l T rd rl rdd rg tp 0 (-1) v_1 0 r4 r5 r6 0 0 ft 0 N k rfl (Nat.zero_le _) hk hlen hN6) (kV_RX7_71 C.2.2.2.2 (Nat.le_of_ble_eq_true rfl) (Nat.le_of_ble_eq_true rfl)) [0, 1] [2, 3, 4, 5, 6, 7, 8, 9] rfl rfl (ci := 7) (qc := (RX7, TX7, 13)) rfl rfl (List.mem_flatten.mpr ⟨_, List.mem_of_getElem? (i := 0) rfl, List.mem_cons_self⟩) rfl rfl hl.1 dX7_read_64 (Nat.le_of_ble_eq_true rfl) (Nat.le_of_ble_eq_true rfl) (fun b1 H locs hw G => ?_)
  obtain ⟨u3_16, u4_17, u5_18, u6_19, rfl, h_20⟩ := hw
  have G : zS T A s.heap s [[(rdd, .inr (2, [.int 0, .ref a1_11, .ref a2_12, .ref a3_13]))], [(a1_11, .inl (T.2 0, 40, .inl d1))], [(a2_12, .inl (T.2 0, 40, .inl d2))], [(a3_13, .inl (T.2 0, 40, .inl d3))], [(rg, .inr (5, [.int 0, .ref a1_14, .ref a2_15]))], [(a1_14, .inl (T.2 0, 8, .inl e1))], [(a2_15, .inl (T.2 0, 8, .inl e2))], w2_2, [(rd, .inr (7, [.ref rl, .ref rdd, .ref rg, .int 0, .int (-1), .ref tp, .int v_1, .int u3_16, .int u4_17, .int u5_18, .int u6_19, .int 0, .int 0]))], [(tp, .inl (T.2 1, 600, .inl ft))]] _ _ := G
  refine lv_iconst (v := 0) hx hb dX7_read_67 (by decide) ?_
  refine lv_istore (lv' := [(4, .int 0), (0, .ref rd), (1, .ref tp), (2, .int n), (3, .int 0)]) hx hb dX7_read_68 hl (by decide) rfl (fun ls hl => ?_)
  have hw_22 : bDay T rdd 0 d1 d2 d3 [(rdd, .inr (2, [.int 0, .ref a1_11, .ref a2_12, .ref a3_13])), (a1_11, .inl (T.2 0, 40, .inl d1)), (a2_12, .inl (T.2 0, 40, .inl d2)), (a3_13, .inl (T.2 0, 40, .inl d3))] := ⟨a1_11, a2_12, a3_13, rfl⟩
  have G : zS T A s.heap s [[(rdd, .inr (2, [.int 0, .ref a1_11, .ref a2_12, .ref a3_13])), (a1_11, .inl (T.2 0, 40, .inl d1)), (a2_12, .inl (T.2 0, 40, .inl d2)), (a3_13, .inl (T.2 0, 40, .inl d3))], [(rg, .inr (5, [.int 0, .ref a1_14, .ref a2_15]))], [(a1_14, .inl (T.2 0, 8, .inl e1))], [(a2_15, .inl (T.2 0, 8, .inl e2))], w2_2, [(rd, .inr (7, [.ref rl, .ref rdd, .ref rg, .int 0, .int (-1), .ref tp, .int v_1, .int u3_16, .int u4_17, .int u5_18, .int u6_19, .int 0, .int 0]))], [(tp, .inl (T.2 1, 600, .inl ft))]] _ _ := G.re rfl
  have hw_23 : bLog T rg 0 e1 e2 [(rg, .inr (5, [.int 0, .ref a1_14, .ref a2_15])), (a1_14, .inl (T.2 0, 8, .inl e1)), (a2_15, .inl (T.2 0, 8, .inl e2))] := ⟨a1_14, a2_15, rfl⟩
  have G : zS T A s.heap s [[(rdd, .inr (2, [.int 0, .ref a1_11, .ref a2_12, .ref a3_13])), (a1_11, .inl (T.2 0, 40, .inl d1)), (a2_12, .inl (T.2 0, 40, .inl d2)), (a3_13, .inl (T.2 0, 40, .inl d3))], [(rg, .inr (5, [.int 0, .ref a1_14, .ref a2_15])), (a1_14, .inl (T.2 0, 8, .inl e1)), (a2_15, .inl (T.2 0, 8, .inl e2))], w2_2, [(rd, .inr (7, [.ref rl, .ref rdd, .ref rg, .int 0, .int (-1), .ref tp, .int v_1, .int u3_16, .int u4_17, .int u5_18, .int u6_19, .int 0, .int 0]))], [(tp, .inl (T.2 1, 600, .inl ft))]] _ _ := G.re rfl
  refine z_loop (T := T) (α := Nat × pS × (Nat → Int32) × Int32 × Int32 × Int32 × Int32 × Int32 × Int32 × Int32 × Int32 × va_W × Int32 × Int32 × (Nat → Int32) × (Nat → Int32) × (Nat → Int32) × (Nat → Int32)) 70 (fun (j, A9, fr, y0, y1, y3, y4, y5, y6, y7, y8, z3, cc_, ci_, x1, x2, x3, x4) => [[(rdd, .inr (2, [.int 0, .ref a1_11, .ref a2_12, .ref a3_13])), (a1_11, .inl (T.2 0, 40, .inl d1)), (a2_12, .inl (T.2 0, 40, .inl d2)), (a3_13, .inl (T.2 0, 40, .inl d3))], [(rg, .inr (5, [.int 0, .ref a1_14, .ref a2_15])), (a1_14, .inl (T.2 0, 8, .inl e1)), (a2_15, .inl (T.2 0, 8, .inl e2))], z3, [(rd, .inr (7, [.ref rl, .ref rdd, .ref rg, .int y0, .int y1, .ref tp, .int v_1, .int y3, .int y4, .int y5, .int y6, .int y7, .int y8]))], [(tp, .inl (T.2 1, 600, .inl ft))]]) (fun (j, A9, fr, y0, y1, y3, y4, y5, y6, y7, y8, z3, cc_, ci_, x1, x2, x3, x4) => [(4, .int (nI j)), (0, .ref rd), (3, .int 0)]) (fun (j, A9, fr, y0, y1, y3, y4, y5, y6, y7, y8, z3, cc_, ci_, x1, x2, x3, x4) => bLand T rl cc_ ci_ x1 x2 x3 x4 z3 ∧ j ≤ 601 ∧ zRc k N ft y0 y1 v_1 y3 y4 y5 y6 y7 A9 ∧ pLines k 0 (601 - j) A9 fr = pLines k 0 601 (0, 0, 0, -1, -1) (fun _ => 0) ∧ zLc cc_ ci_ x1 x2 x3 x4 y8 A9 fr ∧ zLI cc_ x1 x3) (fun (j, A9, fr, y0, y1, y3, y4, y5, y6, y7, y8, z3, cc_, ci_, x1, x2, x3, x4) => 601 - j) ?_ (0, (0, 0, 0, -1, -1), (fun _ => 0), 0, (-1), u3_16, u4_17, u5_18, u6_19, 0, 0, w2_2, 0, 0, g1_3, k2, g3_4, g4_5) (show bLand T rl 0 0 g1_3 k2 g3_4 g4_5 w2_2 ∧ 0 ≤ 601 ∧ zRc k N ft 0 (-1) v_1 u3_16 u4_17 u5_18 u6_19 0 (0, 0, 0, -1, -1) ∧ pLines k 0 (601 - 0) (0, 0, 0, -1, -1) (fun _ => 0) = pLines k 0 601 (0, 0, 0, -1, -1) (fun _ => 0) ∧ zLc 0 0 g1_3 k2 g3_4 g4_5 0 (0, 0, 0, -1, -1) (fun _ => 0) ∧ zLI 0 g1_3 g3_4 from ⟨h_6, by omega, (zRc_st hk hN6 hlen h_20), rfl, (zLc_st h_7 h_8 h_9), hI⟩) G (lv_sub hl [0, 1, 4] rfl)
  rintro ⟨j, A9, fr, y0, y1, y3, y4, y5, y6, y7, y8, z3, cc_, ci_, x1, x2, x3, x4⟩ ⟨hz3, hj, hBA, hEq, hCC, hI2⟩ ih_70 H locs ls G hl
  replace hz3 : bLand T rl cc_ ci_ x1 x2 x3 x4 z3 := hz3
  replace hj : j ≤ 601 := hj
  replace hBA : zRc k N ft y0 y1 v_1 y3 y4 y5 y6 y7 A9 := hBA
  replace hEq : pLines k 0 (601 - j) A9 fr = pLines k 0 601 (0, 0, 0, -1, -1) (fun _ => 0) := hEq
  replace hCC : zLc cc_ ci_ x1 x2 x3 x4 y8 A9 fr := hCC
  replace hI2 : zLI cc_ x1 x3 := hI2
  replace G : zS T A s.heap s [[(rdd, .inr (2, [.int 0, .ref a1_11, .ref a2_12, .ref a3_13])), (a1_11, .inl (T.2 0, 40, .inl d1)), (a2_12, .inl (T.2 0, 40, .inl d2)), (a3_13, .inl (T.2 0, 40, .inl d3))], [(rg, .inr (5, [.int 0, .ref a1_14, .ref a2_15])), (a1_14, .inl (T.2 0, 8, .inl e1)), (a2_15, .inl (T.2 0, 8, .inl e2))], z3, [(rd, .inr (7, [.ref rl, .ref rdd, .ref rg, .int y0, .int y1, .ref tp, .int v_1, .int y3, .int y4, .int y5, .int y6, .int y7, .int y8]))], [(tp, .inl (T.2 1, 600, .inl ft))]] _ _ := G
  replace hl : lv_has ls 5 [(4, .int (nI j)), (0, .ref rd), (3, .int 0)] := hl
  refine lv_iload hx hb dX7_read_70 (lv_at hl 0 rfl) ?_
  have hokA := zRc_ok hBA
  obtain ⟨hA1A, hA6A, hA7A, hA8A, hA9A, hAIA, hAEA⟩ := id hBA
  have hkaA := hokA A9.1 hA1A.2.2.2
  refine lv_sipush (v := 600) hx hb dX7_read_72 (by decide) ?_
  refine lv_icmp_gt (tgt := 103) hx hb dX7_read_75 (by decide) (fun c_24 => ?_) (fun c_24 => ?_)
  · have c_24n : 600 < j := (nI_ltI (a := 600) (b := j) (by omega) (by omega)).mp c_24
    have hX := pLines_o hj (by first | exact Or.inl (by omega) | exact Or.inr (Or.inl (by rw [← hA6A]; omega)) | exact Or.inr (Or.inr (pTk_0.mpr (by omega)))) hEq
    have hRd := pRead_e (n := N) hX
    refine lv_iload_n hx hb dX7_read_103 rfl (lv_at hl 2 rfl) ?_
    refine lv_if_ne (tgt := 111) hx hb dX7_read_104 (by decide) (fun q => absurd (by decide) q) (fun _ => ?_)
    refine lv_aload_n hx hb dX7_read_107 rfl (lv_at hl 1 rfl) ?_
    refine z_Vv (bc := [[(rd, .inr (7, [.ref rl, .ref rdd, .ref rg, .int y0, .int y1, .ref tp, .int v_1, .int y3, .int y4, .int y5, .int y6, .int y7, .int y8]))], z3]) (br := [[(rdd, .inr (2, [.int 0, .ref a1_11, .ref a2_12, .ref a3_13])), (a1_11, .inl (T.2 0, 40, .inl d1)), (a2_12, .inl (T.2 0, 40, .inl d2)), (a3_13, .inl (T.2 0, 40, .inl d3))], [(rg, .inr (5, [.int 0, .ref a1_14, .ref a2_15])), (a1_14, .inl (T.2 0, 8, .inl e1)), (a2_15, .inl (T.2 0, 8, .inl e2))], [(tp, .inl (T.2 1, 600, .inl ft))]]) (As := []) (rest := []) C G (c_f_lookAtWhole l T rd rl rdd rg tp y0 y1 v_1 y3 y4 y5 y6 y7 y8 cc_ ci_ x1 x2 x3 x4 z3 ft k N A9 fr hz3 hI2 hBA hCC) (kV_RX7_81 C.2.2.2.2 (Nat.le_of_ble_eq_true rfl) (Nat.le_of_ble_eq_true rfl)) [3, 2] [0, 1, 4] rfl rfl (ci := 7) (qc := (RX7, TX7, 13)) rfl rfl (List.mem_flatten.mpr ⟨_, List.mem_of_getElem? (i := 0) rfl, List.mem_cons_self⟩) rfl rfl hl.1 dX7_read_108 (Nat.le_of_ble_eq_true rfl) (Nat.le_of_ble_eq_true rfl) (fun b1 H locs hw G => ?_)
    obtain ⟨u0_25, u1_26, rfl, h_27, h_28⟩ := hw
    have G : zS T A s.heap s [[(rdd, .inr (2, [.int 0, .ref a1_11, .ref a2_12, .ref a3_13])), (a1_11, .inl (T.2 0, 40, .inl d1)), (a2_12, .inl (T.2 0, 40, .inl d2)), (a3_13, .inl (T.2 0, 40, .inl d3))], [(rg, .inr (5, [.int 0, .ref a1_14, .ref a2_15])), (a1_14, .inl (T.2 0, 8, .inl e1)), (a2_15, .inl (T.2 0, 8, .inl e2))], [(tp, .inl (T.2 1, 600, .inl ft))], [(rd, .inr (7, [.ref rl, .ref rdd, .ref rg, .int u0_25, .int u1_26, .ref tp, .int v_1, .int y3, .int y4, .int y5, .int y6, .int y7, .int y8]))], z3] _ _ := G
    have G := G.sub (bs' := [[(rd, .inr (7, [.ref rl, .ref rdd, .ref rg, .int u0_25, .int u1_26, .ref tp, .int v_1, .int y3, .int y4, .int y5, .int y6, .int y7, .int y8]))], [(tp, .inl (T.2 1, 600, .inl ft))], z3, [(rdd, .inr (2, [.int 0, .ref a1_11, .ref a2_12, .ref a3_13])), (a1_11, .inl (T.2 0, 40, .inl d1)), (a2_12, .inl (T.2 0, 40, .inl d2)), (a3_13, .inl (T.2 0, 40, .inl d3))], [(rg, .inr (5, [.int 0, .ref a1_14, .ref a2_15])), (a1_14, .inl (T.2 0, 8, .inl e1)), (a2_15, .inl (T.2 0, 8, .inl e2))]]) [3, 2, 4, 0, 1] rfl
    exact z_vret C hr hlocks G (Nat.le_of_ble_eq_true rfl) (Nat.le_of_ble_eq_true rfl) dX7_read_111 ⟨v_1, u0_25, u1_26, y3, y4, y5, y6, y7, y8, z3, cc_, ci_, x1, x2, x3, x4, ([(rdd, .inr (2, [.int 0, .ref a1_11, .ref a2_12, .ref a3_13])), (a1_11, .inl (T.2 0, 40, .inl d1)), (a2_12, .inl (T.2 0, 40, .inl d2)), (a3_13, .inl (T.2 0, 40, .inl d3))]), ([(rg, .inr (5, [.int 0, .ref a1_14, .ref a2_15])), (a1_14, .inl (T.2 0, 8, .inl e1)), (a2_15, .inl (T.2 0, 8, .inl e2))]), rfl, hz3, hI2, hw_22, hw_23, (by rw [hRd]; exact h_27), (by rw [hRd]; exact h_28), (by rw [hRd]; exact zLc_fin hCC)⟩
  · have c_24n : ¬ 600 < j := fun q => c_24 ((nI_ltI (a := 600) (b := j) (by omega) (by omega)).mpr q)
    refine lv_aload_n hx hb dX7_read_78 rfl (lv_at hl 1 rfl) ?_
    refine z_get C G clX7 3 rfl 11 (by decide) m_fl_RX7_55 rfl dX7_read_79 ?_
    refine lv_if_ne (tgt := 103) hx hb dX7_read_82 (by decide) (fun c_30 => ?_) (fun c_30 => ?_)
    · have c_30n : ¬ y7.toInt = (0 : Int) := fun q => c_30 ((fa_eq _ _).mpr q)
      have hX := pLines_o hj (by first | exact Or.inl (by omega) | exact Or.inr (Or.inl (by rw [← hA6A]; omega)) | exact Or.inr (Or.inr (pTk_0.mpr (by omega)))) hEq
      have hRd := pRead_e (n := N) hX
      refine lv_iload_n hx hb dX7_read_103 rfl (lv_at hl 2 rfl) ?_
      refine lv_if_ne (tgt := 111) hx hb dX7_read_104 (by decide) (fun q => absurd (by decide) q) (fun _ => ?_)
      refine lv_aload_n hx hb dX7_read_107 rfl (lv_at hl 1 rfl) ?_
      refine z_Vv (bc := [[(rd, .inr (7, [.ref rl, .ref rdd, .ref rg, .int y0, .int y1, .ref tp, .int v_1, .int y3, .int y4, .int y5, .int y6, .int y7, .int y8]))], z3]) (br := [[(rdd, .inr (2, [.int 0, .ref a1_11, .ref a2_12, .ref a3_13])), (a1_11, .inl (T.2 0, 40, .inl d1)), (a2_12, .inl (T.2 0, 40, .inl d2)), (a3_13, .inl (T.2 0, 40, .inl d3))], [(rg, .inr (5, [.int 0, .ref a1_14, .ref a2_15])), (a1_14, .inl (T.2 0, 8, .inl e1)), (a2_15, .inl (T.2 0, 8, .inl e2))], [(tp, .inl (T.2 1, 600, .inl ft))]]) (As := []) (rest := []) C G (c_f_lookAtWhole l T rd rl rdd rg tp y0 y1 v_1 y3 y4 y5 y6 y7 y8 cc_ ci_ x1 x2 x3 x4 z3 ft k N A9 fr hz3 hI2 hBA hCC) (kV_RX7_81 C.2.2.2.2 (Nat.le_of_ble_eq_true rfl) (Nat.le_of_ble_eq_true rfl)) [3, 2] [0, 1, 4] rfl rfl (ci := 7) (qc := (RX7, TX7, 13)) rfl rfl (List.mem_flatten.mpr ⟨_, List.mem_of_getElem? (i := 0) rfl, List.mem_cons_self⟩) rfl rfl hl.1 dX7_read_108 (Nat.le_of_ble_eq_true rfl) (Nat.le_of_ble_eq_true rfl) (fun b1 H locs hw G => ?_)
      obtain ⟨u0_31, u1_32, rfl, h_33, h_34⟩ := hw
      have G : zS T A s.heap s [[(rdd, .inr (2, [.int 0, .ref a1_11, .ref a2_12, .ref a3_13])), (a1_11, .inl (T.2 0, 40, .inl d1)), (a2_12, .inl (T.2 0, 40, .inl d2)), (a3_13, .inl (T.2 0, 40, .inl d3))], [(rg, .inr (5, [.int 0, .ref a1_14, .ref a2_15])), (a1_14, .inl (T.2 0, 8, .inl e1)), (a2_15, .inl (T.2 0, 8, .inl e2))], [(tp, .inl (T.2 1, 600, .inl ft))], [(rd, .inr (7, [.ref rl, .ref rdd, .ref rg, .int u0_31, .int u1_32, .ref tp, .int v_1, .int y3, .int y4, .int y5, .int y6, .int y7, .int y8]))], z3] _ _ := G
      have G := G.sub (bs' := [[(rd, .inr (7, [.ref rl, .ref rdd, .ref rg, .int u0_31, .int u1_32, .ref tp, .int v_1, .int y3, .int y4, .int y5, .int y6, .int y7, .int y8]))], [(tp, .inl (T.2 1, 600, .inl ft))], z3, [(rdd, .inr (2, [.int 0, .ref a1_11, .ref a2_12, .ref a3_13])), (a1_11, .inl (T.2 0, 40, .inl d1)), (a2_12, .inl (T.2 0, 40, .inl d2)), (a3_13, .inl (T.2 0, 40, .inl d3))], [(rg, .inr (5, [.int 0, .ref a1_14, .ref a2_15])), (a1_14, .inl (T.2 0, 8, .inl e1)), (a2_15, .inl (T.2 0, 8, .inl e2))]]) [3, 2, 4, 0, 1] rfl
      exact z_vret C hr hlocks G (Nat.le_of_ble_eq_true rfl) (Nat.le_of_ble_eq_true rfl) dX7_read_111 ⟨v_1, u0_31, u1_32, y3, y4, y5, y6, y7, y8, z3, cc_, ci_, x1, x2, x3, x4, ([(rdd, .inr (2, [.int 0, .ref a1_11, .ref a2_12, .ref a3_13])), (a1_11, .inl (T.2 0, 40, .inl d1)), (a2_12, .inl (T.2 0, 40, .inl d2)), (a3_13, .inl (T.2 0, 40, .inl d3))]), ([(rg, .inr (5, [.int 0, .ref a1_14, .ref a2_15])), (a1_14, .inl (T.2 0, 8, .inl e1)), (a2_15, .inl (T.2 0, 8, .inl e2))]), rfl, hz3, hI2, hw_22, hw_23, (by rw [hRd]; exact h_33), (by rw [hRd]; exact h_34), (by rw [hRd]; exact zLc_fin hCC)⟩
    · have c_30n : y7.toInt = (0 : Int) := (fa_eq _ _).mp c_30
      have hwA : A9.2.1.toInt = 0 := by rw [← hA6A]; omega
      obtain ⟨t3A, t4A, t5A, t6A⟩ := hA7A hwA
      have t4iA : y4.toInt = (pCl k A9.1 : Int) := by rw [t4A]; exact nI_toInt (by omega)
      refine lv_aload_n hx hb dX7_read_85 rfl (lv_at hl 1 rfl) ?_
      refine z_get C G clX7 3 rfl 8 (by decide) m_fl_RX7_74 rfl dX7_read_86 ?_
      refine lv_if_eq (tgt := 103) hx hb dX7_read_89 (by decide) (fun c_36 => ?_) (fun c_36 => ?_)
      · have c_36n : y4.toInt = (0 : Int) := (fa_eq _ _).mp c_36
        have hX := pLines_o hj (by first | exact Or.inl (by omega) | exact Or.inr (Or.inl (by rw [← hA6A]; omega)) | exact Or.inr (Or.inr (pTk_0.mpr (by omega)))) hEq
        have hRd := pRead_e (n := N) hX
        refine lv_iload_n hx hb dX7_read_103 rfl (lv_at hl 2 rfl) ?_
        refine lv_if_ne (tgt := 111) hx hb dX7_read_104 (by decide) (fun q => absurd (by decide) q) (fun _ => ?_)
        refine lv_aload_n hx hb dX7_read_107 rfl (lv_at hl 1 rfl) ?_
        refine z_Vv (bc := [[(rd, .inr (7, [.ref rl, .ref rdd, .ref rg, .int y0, .int y1, .ref tp, .int v_1, .int y3, .int y4, .int y5, .int y6, .int y7, .int y8]))], z3]) (br := [[(rdd, .inr (2, [.int 0, .ref a1_11, .ref a2_12, .ref a3_13])), (a1_11, .inl (T.2 0, 40, .inl d1)), (a2_12, .inl (T.2 0, 40, .inl d2)), (a3_13, .inl (T.2 0, 40, .inl d3))], [(rg, .inr (5, [.int 0, .ref a1_14, .ref a2_15])), (a1_14, .inl (T.2 0, 8, .inl e1)), (a2_15, .inl (T.2 0, 8, .inl e2))], [(tp, .inl (T.2 1, 600, .inl ft))]]) (As := []) (rest := []) C G (c_f_lookAtWhole l T rd rl rdd rg tp y0 y1 v_1 y3 y4 y5 y6 y7 y8 cc_ ci_ x1 x2 x3 x4 z3 ft k N A9 fr hz3 hI2 hBA hCC) (kV_RX7_81 C.2.2.2.2 (Nat.le_of_ble_eq_true rfl) (Nat.le_of_ble_eq_true rfl)) [3, 2] [0, 1, 4] rfl rfl (ci := 7) (qc := (RX7, TX7, 13)) rfl rfl (List.mem_flatten.mpr ⟨_, List.mem_of_getElem? (i := 0) rfl, List.mem_cons_self⟩) rfl rfl hl.1 dX7_read_108 (Nat.le_of_ble_eq_true rfl) (Nat.le_of_ble_eq_true rfl) (fun b1 H locs hw G => ?_)
        obtain ⟨u0_37, u1_38, rfl, h_39, h_40⟩ := hw
        have G : zS T A s.heap s [[(rdd, .inr (2, [.int 0, .ref a1_11, .ref a2_12, .ref a3_13])), (a1_11, .inl (T.2 0, 40, .inl d1)), (a2_12, .inl (T.2 0, 40, .inl d2)), (a3_13, .inl (T.2 0, 40, .inl d3))], [(rg, .inr (5, [.int 0, .ref a1_14, .ref a2_15])), (a1_14, .inl (T.2 0, 8, .inl e1)), (a2_15, .inl (T.2 0, 8, .inl e2))], [(tp, .inl (T.2 1, 600, .inl ft))], [(rd, .inr (7, [.ref rl, .ref rdd, .ref rg, .int u0_37, .int u1_38, .ref tp, .int v_1, .int y3, .int y4, .int y5, .int y6, .int y7, .int y8]))], z3] _ _ := G
        have G := G.sub (bs' := [[(rd, .inr (7, [.ref rl, .ref rdd, .ref rg, .int u0_37, .int u1_38, .ref tp, .int v_1, .int y3, .int y4, .int y5, .int y6, .int y7, .int y8]))], [(tp, .inl (T.2 1, 600, .inl ft))], z3, [(rdd, .inr (2, [.int 0, .ref a1_11, .ref a2_12, .ref a3_13])), (a1_11, .inl (T.2 0, 40, .inl d1)), (a2_12, .inl (T.2 0, 40, .inl d2)), (a3_13, .inl (T.2 0, 40, .inl d3))], [(rg, .inr (5, [.int 0, .ref a1_14, .ref a2_15])), (a1_14, .inl (T.2 0, 8, .inl e1)), (a2_15, .inl (T.2 0, 8, .inl e2))]]) [3, 2, 4, 0, 1] rfl
        exact z_vret C hr hlocks G (Nat.le_of_ble_eq_true rfl) (Nat.le_of_ble_eq_true rfl) dX7_read_111 ⟨v_1, u0_37, u1_38, y3, y4, y5, y6, y7, y8, z3, cc_, ci_, x1, x2, x3, x4, ([(rdd, .inr (2, [.int 0, .ref a1_11, .ref a2_12, .ref a3_13])), (a1_11, .inl (T.2 0, 40, .inl d1)), (a2_12, .inl (T.2 0, 40, .inl d2)), (a3_13, .inl (T.2 0, 40, .inl d3))]), ([(rg, .inr (5, [.int 0, .ref a1_14, .ref a2_15])), (a1_14, .inl (T.2 0, 8, .inl e1)), (a2_15, .inl (T.2 0, 8, .inl e2))]), rfl, hz3, hI2, hw_22, hw_23, (by rw [hRd]; exact h_39), (by rw [hRd]; exact h_40), (by rw [hRd]; exact zLc_fin hCC)⟩
      · have c_36n : ¬ y4.toInt = (0 : Int) := fun q => c_36 ((fa_eq _ _).mpr q)
        have htA : ¬ pTk k A9.1 = 0 := fun z9 => by have := pTk_0.mp z9; omega
        refine lv_aload_n hx hb dX7_read_92 rfl (lv_at hl 1 rfl) ?_
        refine lv_iload_n hx hb dX7_read_93 rfl (lv_at hl 2 rfl) ?_
        refine z_Vv (bc := [[(rd, .inr (7, [.ref rl, .ref rdd, .ref rg, .int y0, .int y1, .ref tp, .int v_1, .int y3, .int y4, .int y5, .int y6, .int y7, .int y8]))], [(tp, .inl (T.2 1, 600, .inl ft))], z3]) (br := [[(rdd, .inr (2, [.int 0, .ref a1_11, .ref a2_12, .ref a3_13])), (a1_11, .inl (T.2 0, 40, .inl d1)), (a2_12, .inl (T.2 0, 40, .inl d2)), (a3_13, .inl (T.2 0, 40, .inl d3))], [(rg, .inr (5, [.int 0, .ref a1_14, .ref a2_15])), (a1_14, .inl (T.2 0, 8, .inl e1)), (a2_15, .inl (T.2 0, 8, .inl e2))]]) (As := [.int 0]) (rest := []) C G (c_f_readLine0 l T rd rl rdd rg tp y0 y1 v_1 y3 y4 y5 y6 y7 y8 ft cc_ ci_ x1 x2 x3 x4 z3 k N A9 fr hBA hwA hz3 hI2 hCC) (kV_RX7_77 C.2.2.2.2 (Nat.le_of_ble_eq_true rfl) (Nat.le_of_ble_eq_true rfl)) [3, 4, 2] [0, 1] rfl rfl (ci := 7) (qc := (RX7, TX7, 13)) rfl rfl (List.mem_flatten.mpr ⟨_, List.mem_of_getElem? (i := 0) rfl, List.mem_cons_self⟩) rfl rfl hl.1 dX7_read_94 (Nat.le_of_ble_eq_true rfl) (Nat.le_of_ble_eq_true rfl) (fun b1 H locs hw G => ?_)
        obtain ⟨u0_42, u1_43, u3_44, u4_45, u5_46, u6_47, u7_48, u8_49, z2_50, c2_51, i2_52, j1_53, j2_54, j3_55, j4_56, rfl, h_57, h_58, h_59, h_60⟩ := hw
        have G : zS T A s.heap s [[(rdd, .inr (2, [.int 0, .ref a1_11, .ref a2_12, .ref a3_13])), (a1_11, .inl (T.2 0, 40, .inl d1)), (a2_12, .inl (T.2 0, 40, .inl d2)), (a3_13, .inl (T.2 0, 40, .inl d3))], [(rg, .inr (5, [.int 0, .ref a1_14, .ref a2_15])), (a1_14, .inl (T.2 0, 8, .inl e1)), (a2_15, .inl (T.2 0, 8, .inl e2))], [(rd, .inr (7, [.ref rl, .ref rdd, .ref rg, .int u0_42, .int u1_43, .ref tp, .int v_1, .int u3_44, .int u4_45, .int u5_46, .int u6_47, .int u7_48, .int u8_49]))], [(tp, .inl (T.2 1, 600, .inl ft))], z2_50] _ _ := G
        have hnR := h_59
        have hnC := h_60
        have hnI := h_58
        refine lv_iinc (v := nI (j + 1)) (lv' := [(4, .int (nI (j + 1))), (0, .ref rd), (3, .int 0)]) hx hb dX7_read_97 hl (k := 0) rfl (z_inc j 1) (by decide) rfl (fun ls hl => ?_)
        refine lv_goto (tgt := 70) hx hb dX7_read_100 (by decide) ?_
        have G := G.sub (bs' := [[(rdd, .inr (2, [.int 0, .ref a1_11, .ref a2_12, .ref a3_13])), (a1_11, .inl (T.2 0, 40, .inl d1)), (a2_12, .inl (T.2 0, 40, .inl d2)), (a3_13, .inl (T.2 0, 40, .inl d3))], [(rg, .inr (5, [.int 0, .ref a1_14, .ref a2_15])), (a1_14, .inl (T.2 0, 8, .inl e1)), (a2_15, .inl (T.2 0, 8, .inl e2))], z2_50, [(rd, .inr (7, [.ref rl, .ref rdd, .ref rg, .int u0_42, .int u1_43, .ref tp, .int v_1, .int u3_44, .int u4_45, .int u5_46, .int u6_47, .int u7_48, .int u8_49]))], [(tp, .inl (T.2 1, 600, .inl ft))]]) [0, 1, 4, 2, 3] rfl
        exact ih_70 ((j + 1), ((pLine k 0 A9 fr).1), ((pLine k 0 A9 fr).2), u0_42, u1_43, u3_44, u4_45, u5_46, u6_47, u7_48, u8_49, z2_50, c2_51, i2_52, j1_53, j2_54, j3_55, j4_56) (show bLand T rl c2_51 i2_52 j1_53 j2_54 j3_55 j4_56 z2_50 ∧ (j + 1) ≤ 601 ∧ zRc k N ft u0_42 u1_43 v_1 u3_44 u4_45 u5_46 u6_47 u7_48 ((pLine k 0 A9 fr).1) ∧ pLines k 0 (601 - (j + 1)) ((pLine k 0 A9 fr).1) ((pLine k 0 A9 fr).2) = pLines k 0 601 (0, 0, 0, -1, -1) (fun _ => 0) ∧ zLc c2_51 i2_52 j1_53 j2_54 j3_55 j4_56 u8_49 ((pLine k 0 A9 fr).1) ((pLine k 0 A9 fr).2) ∧ zLI c2_51 j1_53 j3_55 from ⟨h_57, by omega, hnR, (pLines_n (by omega) hwA htA hEq), hnC, hnI⟩) (show 601 - (j + 1) < 601 - j from by omega) _ _ ls G (lv_sub hl [0, 1, 2] rfl)
set_option maxHeartbeats 4000000 in
set_option maxRecDepth 100000 in
/-- c_f_read1 -/
theorem c_f_read1 (l : Launch) (T : zTy) (rd : Nat) (rl : Nat) (rdd : Nat) (rg : Nat) (tp : Nat) (r0 : Int32) (r1 : Int32) (r2 : Int32) (r3 : Int32) (r4 : Int32) (r5 : Int32) (r6 : Int32) (r7 : Int32) (r8 : Int32) (tq : Nat) (ft : Nat → Int32) (cr : Int32) (inn : Int32) (k1 : Nat → Int32) (k2 : Nat → Int32) (k3 : Nat → Int32) (k4 : Nat → Int32) (z : va_W) (dd : Int32) (d1 : Nat → Int32) (d2 : Nat → Int32) (d3 : Nat → Int32) (wd : va_W) (gg : Int32) (e1 : Nat → Int32) (e2 : Nat → Int32) (wg : va_W) (n : Int32) (k : pT) (N : Nat) (hz : bLand T rl cr inn k1 k2 k3 k4 z) (hd : bDay T rdd dd d1 d2 d3 wd) (hg : bLog T rg gg e1 e2 wg) (hN : n = nI N) (hN6 : N ≤ 600) (hk : k = tkT ft N) : zMv l T yX7_read cX7_read 5 8 0 0 [.ref rd, .ref tp, .int n, .int 1] [[(rd, .inr (7, [.ref rl, .ref rdd, .ref rg, .int r0, .int r1, .ref tq, .int r2, .int r3, .int r4, .int r5, .int r6, .int r7, .int r8]))], [(tp, .inl (T.2 1, 600, .inl ft))], z, wd, wg] (fun bs => ∃ (u2 : Int32) (u0 : Int32) (u1 : Int32) (u3 : Int32) (u4 : Int32) (u5 : Int32) (u6 : Int32) (u7 : Int32) (u8 : Int32) (z2 : va_W) (j1 : Nat → Int32) (j2 : Nat → Int32) (j3 : Nat → Int32) (j4 : Nat → Int32) (wd2 : va_W) (dd2 : Int32) (b1 : Nat → Int32) (b2 : Nat → Int32) (b3 : Nat → Int32) (wg2 : va_W), bs = [[(rd, .inr (7, [.ref rl, .ref rdd, .ref rg, .int u0, .int u1, .ref tp, .int u2, .int u3, .int u4, .int u5, .int u6, .int u7, .int u8]))], [(tp, .inl (T.2 1, 600, .inl ft))], z2, wd2, wg2] ∧ bLand T rl 0 0 j1 j2 j3 j4 z2 ∧ zLI 0 j1 j3 ∧ bDay T rdd dd2 b1 b2 b3 wd2 ∧ bLog T rg 0 e1 e2 wg2 ∧ u0 = (pRead k N 1).1.2.2.1 ∧ u1 = (pRead k N 1).1.2.2.2.1 ∧ zDc dd2 b1 b2 b3 (pRead k N 1).1 (pRead k N 1).2) := by
  refine zMv_of (own := RX7) (by decide) rfl (Nat.le_of_ble_eq_true rfl) ?_
  intro p e s m args below meth c A ls C hr hlocks hnm hAe G hl
  have hx := C.1
  have hb := C.2.1
  have hl : lv_has ls 5 [(0, .ref rd), (1, .ref tp), (2, .int n), (3, .int 1)] := hl
  refine lv_aload_n hx hb dX7_read_0 rfl (lv_at hl 0 rfl) ?_
  refine lv_aload_n hx hb dX7_read_1 rfl (lv_at hl 1 rfl) ?_
  refine z_put C G clX7 0 rfl 5 (by decide) m_fl_RX7_32 rfl rfl rfl (Nat.le_of_ble_eq_true rfl) dX7_read_2 (fun H locs G => ?_)
  have G : zS T A s.heap s [[(rd, .inr (7, [.ref rl, .ref rdd, .ref rg, .int r0, .int r1, .ref tp, .int r2, .int r3, .int r4, .int r5, .int r6, .int r7, .int r8]))], [(tp, .inl (T.2 1, 600, .inl ft))], z, wd, wg] _ _ := G
  refine lv_aload_n hx hb dX7_read_5 rfl (lv_at hl 0 rfl) ?_
  refine lv_iload_n hx hb dX7_read_6 rfl (lv_at hl 2 rfl) ?_
  refine lv_aload_n hx hb dX7_read_7 rfl (lv_at hl 1 rfl) ?_
  refine z_alen C G 1 1 rfl (v := 600) rfl rfl dX7_read_8 ?_
  refine va_mmin hx hb (C.2.2.1.trans hl.1.symm) C.2.2.2.1 (C.2.2.2.2 _ m_ml_RX7_36) (C.2.2.2.2 _ m_st_math_min) (C.2.2.2.2 _ m_ii_math) (C.2.2.2.2 _ m_co_math_min) (Nat.le_of_ble_eq_true rfl) (Nat.le_of_ble_eq_true rfl) (Nat.le_of_ble_eq_true rfl) (Nat.le_of_ble_eq_true rfl) dX7_read_9 ?_
  refine lv_topi (fun v_1 ev_1 => ?_)
  have hlen : v_1 = nI N := by rw [ev_1, if_neg (fun z9 => by have z8 := (fa_lt _ _).mp z9; rw [hN, nI_toInt (by omega)] at z8; have z7 : (600 : Int32).toInt = 600 := rfl; omega)]; exact hN
  refine z_put C G clX7 0 rfl 6 (by decide) m_fl_RX7_42 rfl rfl rfl (Nat.le_of_ble_eq_true rfl) dX7_read_12 (fun H locs G => ?_)
  have G : zS T A s.heap s [[(rd, .inr (7, [.ref rl, .ref rdd, .ref rg, .int r0, .int r1, .ref tp, .int v_1, .int r3, .int r4, .int r5, .int r6, .int r7, .int r8]))], [(tp, .inl (T.2 1, 600, .inl ft))], z, wd, wg] _ _ := G
  refine lv_aload_n hx hb dX7_read_15 rfl (lv_at hl 0 rfl) ?_
  refine lv_iconst (v := 0) hx hb dX7_read_16 (by decide) ?_
  refine z_put C G clX7 0 rfl 7 (by decide) m_fl_RX7_46 rfl rfl rfl (Nat.le_of_ble_eq_true rfl) dX7_read_17 (fun H locs G => ?_)
  have G : zS T A s.heap s [[(rd, .inr (7, [.ref rl, .ref rdd, .ref rg, .int r0, .int r1, .ref tp, .int v_1, .int 0, .int r4, .int r5, .int r6, .int r7, .int r8]))], [(tp, .inl (T.2 1, 600, .inl ft))], z, wd, wg] _ _ := G
  refine lv_aload_n hx hb dX7_read_20 rfl (lv_at hl 0 rfl) ?_
  refine lv_iconst (v := 0) hx hb dX7_read_21 (by decide) ?_
  refine z_put C G clX7 0 rfl 3 (by decide) m_fl_RX7_49 rfl rfl rfl (Nat.le_of_ble_eq_true rfl) dX7_read_22 (fun H locs G => ?_)
  have G : zS T A s.heap s [[(rd, .inr (7, [.ref rl, .ref rdd, .ref rg, .int 0, .int r1, .ref tp, .int v_1, .int 0, .int r4, .int r5, .int r6, .int r7, .int r8]))], [(tp, .inl (T.2 1, 600, .inl ft))], z, wd, wg] _ _ := G
  refine lv_aload_n hx hb dX7_read_25 rfl (lv_at hl 0 rfl) ?_
  refine lv_iconst (v := (-1)) hx hb dX7_read_26 (by decide) ?_
  refine z_put C G clX7 0 rfl 4 (by decide) m_fl_RX7_52 rfl rfl rfl (Nat.le_of_ble_eq_true rfl) dX7_read_27 (fun H locs G => ?_)
  have G : zS T A s.heap s [[(rd, .inr (7, [.ref rl, .ref rdd, .ref rg, .int 0, .int (-1), .ref tp, .int v_1, .int 0, .int r4, .int r5, .int r6, .int r7, .int r8]))], [(tp, .inl (T.2 1, 600, .inl ft))], z, wd, wg] _ _ := G
  refine lv_aload_n hx hb dX7_read_30 rfl (lv_at hl 0 rfl) ?_
  refine lv_iconst (v := 0) hx hb dX7_read_31 (by decide) ?_
  refine z_put C G clX7 0 rfl 11 (by decide) m_fl_RX7_55 rfl rfl rfl (Nat.le_of_ble_eq_true rfl) dX7_read_32 (fun H locs G => ?_)
  have G : zS T A s.heap s [[(rd, .inr (7, [.ref rl, .ref rdd, .ref rg, .int 0, .int (-1), .ref tp, .int v_1, .int 0, .int r4, .int r5, .int r6, .int 0, .int r8]))], [(tp, .inl (T.2 1, 600, .inl ft))], z, wd, wg] _ _ := G
  refine lv_aload_n hx hb dX7_read_35 rfl (lv_at hl 0 rfl) ?_
  refine lv_iconst (v := 0) hx hb dX7_read_36 (by decide) ?_
  refine z_put C G clX7 0 rfl 12 (by decide) m_fl_RX7_59 rfl rfl rfl (Nat.le_of_ble_eq_true rfl) dX7_read_37 (fun H locs G => ?_)
  have G : zS T A s.heap s [[(rd, .inr (7, [.ref rl, .ref rdd, .ref rg, .int 0, .int (-1), .ref tp, .int v_1, .int 0, .int r4, .int r5, .int r6, .int 0, .int 0]))], [(tp, .inl (T.2 1, 600, .inl ft))], z, wd, wg] _ _ := G
  refine lv_aload_n hx hb dX7_read_40 rfl (lv_at hl 0 rfl) ?_
  refine z_get C G clX7 0 rfl 0 (by decide) m_fl_RX7_12 rfl dX7_read_41 ?_
  refine z_Vv (bc := [z]) (br := [[(rd, .inr (7, [.ref rl, .ref rdd, .ref rg, .int 0, .int (-1), .ref tp, .int v_1, .int 0, .int r4, .int r5, .int r6, .int 0, .int 0]))], [(tp, .inl (T.2 1, 600, .inl ft))], wd, wg]) (As := []) (rest := []) C G (c_Land_clear l T rl cr inn k1 k2 k3 k4 z hz) (kV_RX7_62 C.2.2.2.2 (Nat.le_of_ble_eq_true rfl) (Nat.le_of_ble_eq_true rfl)) [2] [0, 1, 3, 4] rfl rfl (ci := 4) (qc := (RX4, TX4, 6)) rfl rfl (List.mem_flatten.mpr ⟨_, List.mem_of_getElem? (i := 0) rfl, (bLand_mem hz).choose_spec⟩) rfl rfl hl.1 dX7_read_44 (Nat.le_of_ble_eq_true rfl) (Nat.le_of_ble_eq_true rfl) (fun b1 H locs hw G => ?_)
  obtain ⟨w2_2, g1_3, g3_4, g4_5, rfl, h_6, h_7, h_8, h_9⟩ := hw
  have G : zS T A s.heap s [[(rd, .inr (7, [.ref rl, .ref rdd, .ref rg, .int 0, .int (-1), .ref tp, .int v_1, .int 0, .int r4, .int r5, .int r6, .int 0, .int 0]))], [(tp, .inl (T.2 1, 600, .inl ft))], wd, wg, w2_2] _ _ := G
  have hI : zLI 0 g1_3 g3_4 := zLI_zero h_7 h_8
  refine lv_aload_n hx hb dX7_read_47 rfl (lv_at hl 0 rfl) ?_
  refine z_get C G clX7 0 rfl 1 (by decide) m_fl_RX7_21 rfl dX7_read_48 ?_
  refine lv_iconst (v := 0) hx hb dX7_read_51 (by decide) ?_
  obtain ⟨a1_11, a2_12, a3_13, rfl⟩ := hd
  have G : zS T A s.heap s [[(rd, .inr (7, [.ref rl, .ref rdd, .ref rg, .int 0, .int (-1), .ref tp, .int v_1, .int 0, .int r4, .int r5, .int r6, .int 0, .int 0]))], [(tp, .inl (T.2 1, 600, .inl ft))], [(rdd, .inr (2, [.int dd, .ref a1_11, .ref a2_12, .ref a3_13]))], [(a1_11, .inl (T.2 0, 40, .inl d1))], [(a2_12, .inl (T.2 0, 40, .inl d2))], [(a3_13, .inl (T.2 0, 40, .inl d3))], wg, w2_2] _ _ := G.re rfl
  refine z_put C G clX2 2 rfl 0 (by decide) m_fl_RX7_65 rfl rfl rfl (Nat.le_of_ble_eq_true rfl) dX7_read_52 (fun H locs G => ?_)
  have G : zS T A s.heap s [[(rd, .inr (7, [.ref rl, .ref rdd, .ref rg, .int 0, .int (-1), .ref tp, .int v_1, .int 0, .int r4, .int r5, .int r6, .int 0, .int 0]))], [(tp, .inl (T.2 1, 600, .inl ft))], [(rdd, .inr (2, [.int 0, .ref a1_11, .ref a2_12, .ref a3_13]))], [(a1_11, .inl (T.2 0, 40, .inl d1))], [(a2_12, .inl (T.2 0, 40, .inl d2))], [(a3_13, .inl (T.2 0, 40, .inl d3))], wg, w2_2] _ _ := G
  refine lv_aload_n hx hb dX7_read_55 rfl (lv_at hl 0 rfl) ?_
  refine z_get C G clX7 0 rfl 2 (by decide) m_fl_RX7_28 rfl dX7_read_56 ?_
  refine lv_iconst (v := 0) hx hb dX7_read_59 (by decide) ?_
  obtain ⟨a1_14, a2_15, rfl⟩ := hg
  have G : zS T A s.heap s [[(rd, .inr (7, [.ref rl, .ref rdd, .ref rg, .int 0, .int (-1), .ref tp, .int v_1, .int 0, .int r4, .int r5, .int r6, .int 0, .int 0]))], [(tp, .inl (T.2 1, 600, .inl ft))], [(rdd, .inr (2, [.int 0, .ref a1_11, .ref a2_12, .ref a3_13]))], [(a1_11, .inl (T.2 0, 40, .inl d1))], [(a2_12, .inl (T.2 0, 40, .inl d2))], [(a3_13, .inl (T.2 0, 40, .inl d3))], [(rg, .inr (5, [.int gg, .ref a1_14, .ref a2_15]))], [(a1_14, .inl (T.2 0, 8, .inl e1))], [(a2_15, .inl (T.2 0, 8, .inl e2))], w2_2] _ _ := G.re rfl
  refine z_put C G clX5 6 rfl 0 (by decide) m_fl_RX7_68 rfl rfl rfl (Nat.le_of_ble_eq_true rfl) dX7_read_60 (fun H locs G => ?_)
  have G : zS T A s.heap s [[(rd, .inr (7, [.ref rl, .ref rdd, .ref rg, .int 0, .int (-1), .ref tp, .int v_1, .int 0, .int r4, .int r5, .int r6, .int 0, .int 0]))], [(tp, .inl (T.2 1, 600, .inl ft))], [(rdd, .inr (2, [.int 0, .ref a1_11, .ref a2_12, .ref a3_13]))], [(a1_11, .inl (T.2 0, 40, .inl d1))], [(a2_12, .inl (T.2 0, 40, .inl d2))], [(a3_13, .inl (T.2 0, 40, .inl d3))], [(rg, .inr (5, [.int 0, .ref a1_14, .ref a2_15]))], [(a1_14, .inl (T.2 0, 8, .inl e1))], [(a2_15, .inl (T.2 0, 8, .inl e2))], w2_2] _ _ := G
  refine lv_aload_n hx hb dX7_read_63 rfl (lv_at hl 0 rfl) ?_
  refine z_Vv (bc := [[(rd, .inr (7, [.ref rl, .ref rdd, .ref rg, .int 0, .int (-1), .ref tp, .int v_1, .int 0, .int r4, .int r5, .int r6, .int 0, .int 0]))], [(tp, .inl (T.2 1, 600, .inl ft))]]) (br := [[(rdd, .inr (2, [.int 0, .ref a1_11, .ref a2_12, .ref a3_13]))], [(a1_11, .inl (T.2 0, 40, .inl d1))], [(a2_12, .inl (T.2 0, 40, .inl d2))], [(a3_13, .inl (T.2 0, 40, .inl d3))], [(rg, .inr (5, [.int 0, .ref a1_14, .ref a2_15]))], [(a1_14, .inl (T.2 0, 8, .inl e1))], [(a2_15, .inl (T.2 0, 8, .inl e2))], w2_2]) (As := []) (rest := []) C G (c_f_nextToken l T rd rl rdd rg tp 0 (-1) v_1 0 r4 r5 r6 0 0 ft 0 N k rfl (Nat.zero_le _) hk hlen hN6) (kV_RX7_71 C.2.2.2.2 (Nat.le_of_ble_eq_true rfl) (Nat.le_of_ble_eq_true rfl)) [0, 1] [2, 3, 4, 5, 6, 7, 8, 9] rfl rfl (ci := 7) (qc := (RX7, TX7, 13)) rfl rfl (List.mem_flatten.mpr ⟨_, List.mem_of_getElem? (i := 0) rfl, List.mem_cons_self⟩) rfl rfl hl.1 dX7_read_64 (Nat.le_of_ble_eq_true rfl) (Nat.le_of_ble_eq_true rfl) (fun b1 H locs hw G => ?_)
  obtain ⟨u3_16, u4_17, u5_18, u6_19, rfl, h_20⟩ := hw
  have G : zS T A s.heap s [[(rdd, .inr (2, [.int 0, .ref a1_11, .ref a2_12, .ref a3_13]))], [(a1_11, .inl (T.2 0, 40, .inl d1))], [(a2_12, .inl (T.2 0, 40, .inl d2))], [(a3_13, .inl (T.2 0, 40, .inl d3))], [(rg, .inr (5, [.int 0, .ref a1_14, .ref a2_15]))], [(a1_14, .inl (T.2 0, 8, .inl e1))], [(a2_15, .inl (T.2 0, 8, .inl e2))], w2_2, [(rd, .inr (7, [.ref rl, .ref rdd, .ref rg, .int 0, .int (-1), .ref tp, .int v_1, .int u3_16, .int u4_17, .int u5_18, .int u6_19, .int 0, .int 0]))], [(tp, .inl (T.2 1, 600, .inl ft))]] _ _ := G
  refine lv_iconst (v := 0) hx hb dX7_read_67 (by decide) ?_
  refine lv_istore (lv' := [(4, .int 0), (0, .ref rd), (1, .ref tp), (2, .int n), (3, .int 1)]) hx hb dX7_read_68 hl (by decide) rfl (fun ls hl => ?_)
  have hw_22 : bDay T rdd 0 d1 d2 d3 [(rdd, .inr (2, [.int 0, .ref a1_11, .ref a2_12, .ref a3_13])), (a1_11, .inl (T.2 0, 40, .inl d1)), (a2_12, .inl (T.2 0, 40, .inl d2)), (a3_13, .inl (T.2 0, 40, .inl d3))] := ⟨a1_11, a2_12, a3_13, rfl⟩
  have G : zS T A s.heap s [[(rdd, .inr (2, [.int 0, .ref a1_11, .ref a2_12, .ref a3_13])), (a1_11, .inl (T.2 0, 40, .inl d1)), (a2_12, .inl (T.2 0, 40, .inl d2)), (a3_13, .inl (T.2 0, 40, .inl d3))], [(rg, .inr (5, [.int 0, .ref a1_14, .ref a2_15]))], [(a1_14, .inl (T.2 0, 8, .inl e1))], [(a2_15, .inl (T.2 0, 8, .inl e2))], w2_2, [(rd, .inr (7, [.ref rl, .ref rdd, .ref rg, .int 0, .int (-1), .ref tp, .int v_1, .int u3_16, .int u4_17, .int u5_18, .int u6_19, .int 0, .int 0]))], [(tp, .inl (T.2 1, 600, .inl ft))]] _ _ := G.re rfl
  have hw_23 : bLog T rg 0 e1 e2 [(rg, .inr (5, [.int 0, .ref a1_14, .ref a2_15])), (a1_14, .inl (T.2 0, 8, .inl e1)), (a2_15, .inl (T.2 0, 8, .inl e2))] := ⟨a1_14, a2_15, rfl⟩
  have G : zS T A s.heap s [[(rdd, .inr (2, [.int 0, .ref a1_11, .ref a2_12, .ref a3_13])), (a1_11, .inl (T.2 0, 40, .inl d1)), (a2_12, .inl (T.2 0, 40, .inl d2)), (a3_13, .inl (T.2 0, 40, .inl d3))], [(rg, .inr (5, [.int 0, .ref a1_14, .ref a2_15])), (a1_14, .inl (T.2 0, 8, .inl e1)), (a2_15, .inl (T.2 0, 8, .inl e2))], w2_2, [(rd, .inr (7, [.ref rl, .ref rdd, .ref rg, .int 0, .int (-1), .ref tp, .int v_1, .int u3_16, .int u4_17, .int u5_18, .int u6_19, .int 0, .int 0]))], [(tp, .inl (T.2 1, 600, .inl ft))]] _ _ := G.re rfl
  refine z_loop (T := T) (α := Nat × pS × (Nat → Int32) × Int32 × Int32 × Int32 × Int32 × Int32 × Int32 × Int32 × Int32 × va_W × Int32 × (Nat → Int32) × (Nat → Int32) × (Nat → Int32)) 70 (fun (j, A9, fr, y0, y1, y3, y4, y5, y6, y7, y8, wd3, dd3, v1, v2, v3) => [wd3, [(rg, .inr (5, [.int 0, .ref a1_14, .ref a2_15])), (a1_14, .inl (T.2 0, 8, .inl e1)), (a2_15, .inl (T.2 0, 8, .inl e2))], w2_2, [(rd, .inr (7, [.ref rl, .ref rdd, .ref rg, .int y0, .int y1, .ref tp, .int v_1, .int y3, .int y4, .int y5, .int y6, .int y7, .int y8]))], [(tp, .inl (T.2 1, 600, .inl ft))]]) (fun (j, A9, fr, y0, y1, y3, y4, y5, y6, y7, y8, wd3, dd3, v1, v2, v3) => [(4, .int (nI j)), (0, .ref rd), (3, .int 1)]) (fun (j, A9, fr, y0, y1, y3, y4, y5, y6, y7, y8, wd3, dd3, v1, v2, v3) => bDay T rdd dd3 v1 v2 v3 wd3 ∧ j ≤ 601 ∧ zRc k N ft y0 y1 v_1 y3 y4 y5 y6 y7 A9 ∧ pLines k 1 (601 - j) A9 fr = pLines k 1 601 (0, 0, 0, -1, -1) (fun _ => 0) ∧ zDc dd3 v1 v2 v3 A9 fr) (fun (j, A9, fr, y0, y1, y3, y4, y5, y6, y7, y8, wd3, dd3, v1, v2, v3) => 601 - j) ?_ (0, (0, 0, 0, -1, -1), (fun _ => 0), 0, (-1), u3_16, u4_17, u5_18, u6_19, 0, 0, ([(rdd, .inr (2, [.int 0, .ref a1_11, .ref a2_12, .ref a3_13])), (a1_11, .inl (T.2 0, 40, .inl d1)), (a2_12, .inl (T.2 0, 40, .inl d2)), (a3_13, .inl (T.2 0, 40, .inl d3))]), 0, d1, d2, d3) (show bDay T rdd 0 d1 d2 d3 ([(rdd, .inr (2, [.int 0, .ref a1_11, .ref a2_12, .ref a3_13])), (a1_11, .inl (T.2 0, 40, .inl d1)), (a2_12, .inl (T.2 0, 40, .inl d2)), (a3_13, .inl (T.2 0, 40, .inl d3))]) ∧ 0 ≤ 601 ∧ zRc k N ft 0 (-1) v_1 u3_16 u4_17 u5_18 u6_19 0 (0, 0, 0, -1, -1) ∧ pLines k 1 (601 - 0) (0, 0, 0, -1, -1) (fun _ => 0) = pLines k 1 601 (0, 0, 0, -1, -1) (fun _ => 0) ∧ zDc 0 d1 d2 d3 (0, 0, 0, -1, -1) (fun _ => 0) from ⟨hw_22, by omega, (zRc_st hk hN6 hlen h_20), rfl, zDc_st⟩) G (lv_sub hl [0, 1, 4] rfl)
  rintro ⟨j, A9, fr, y0, y1, y3, y4, y5, y6, y7, y8, wd3, dd3, v1, v2, v3⟩ ⟨hd3, hj, hBA, hEq, hCC⟩ ih_70 H locs ls G hl
  replace hd3 : bDay T rdd dd3 v1 v2 v3 wd3 := hd3
  replace hj : j ≤ 601 := hj
  replace hBA : zRc k N ft y0 y1 v_1 y3 y4 y5 y6 y7 A9 := hBA
  replace hEq : pLines k 1 (601 - j) A9 fr = pLines k 1 601 (0, 0, 0, -1, -1) (fun _ => 0) := hEq
  replace hCC : zDc dd3 v1 v2 v3 A9 fr := hCC
  replace G : zS T A s.heap s [wd3, [(rg, .inr (5, [.int 0, .ref a1_14, .ref a2_15])), (a1_14, .inl (T.2 0, 8, .inl e1)), (a2_15, .inl (T.2 0, 8, .inl e2))], w2_2, [(rd, .inr (7, [.ref rl, .ref rdd, .ref rg, .int y0, .int y1, .ref tp, .int v_1, .int y3, .int y4, .int y5, .int y6, .int y7, .int y8]))], [(tp, .inl (T.2 1, 600, .inl ft))]] _ _ := G
  replace hl : lv_has ls 5 [(4, .int (nI j)), (0, .ref rd), (3, .int 1)] := hl
  refine lv_iload hx hb dX7_read_70 (lv_at hl 0 rfl) ?_
  have hokA := zRc_ok hBA
  obtain ⟨hA1A, hA6A, hA7A, hA8A, hA9A, hAIA, hAEA⟩ := id hBA
  have hkaA := hokA A9.1 hA1A.2.2.2
  refine lv_sipush (v := 600) hx hb dX7_read_72 (by decide) ?_
  refine lv_icmp_gt (tgt := 103) hx hb dX7_read_75 (by decide) (fun c_24 => ?_) (fun c_24 => ?_)
  · have c_24n : 600 < j := (nI_ltI (a := 600) (b := j) (by omega) (by omega)).mp c_24
    have hX := pLines_o hj (by first | exact Or.inl (by omega) | exact Or.inr (Or.inl (by rw [← hA6A]; omega)) | exact Or.inr (Or.inr (pTk_0.mpr (by omega)))) hEq
    have hRd := pRead_e (n := N) hX
    refine lv_iload_n hx hb dX7_read_103 rfl (lv_at hl 2 rfl) ?_
    refine lv_if_ne (tgt := 111) hx hb dX7_read_104 (by decide) (fun _ => ?_) (fun q => absurd q (by decide))
    have G := G.sub (bs' := [[(rd, .inr (7, [.ref rl, .ref rdd, .ref rg, .int y0, .int y1, .ref tp, .int v_1, .int y3, .int y4, .int y5, .int y6, .int y7, .int y8]))], [(tp, .inl (T.2 1, 600, .inl ft))], w2_2, wd3, [(rg, .inr (5, [.int 0, .ref a1_14, .ref a2_15])), (a1_14, .inl (T.2 0, 8, .inl e1)), (a2_15, .inl (T.2 0, 8, .inl e2))]]) [3, 4, 2, 0, 1] rfl
    exact z_vret C hr hlocks G (Nat.le_of_ble_eq_true rfl) (Nat.le_of_ble_eq_true rfl) dX7_read_111 ⟨v_1, y0, y1, y3, y4, y5, y6, y7, y8, w2_2, g1_3, k2, g3_4, g4_5, wd3, dd3, v1, v2, v3, ([(rg, .inr (5, [.int 0, .ref a1_14, .ref a2_15])), (a1_14, .inl (T.2 0, 8, .inl e1)), (a2_15, .inl (T.2 0, 8, .inl e2))]), rfl, h_6, hI, hd3, hw_23, (by rw [hRd, pFin_s (by decide)]; exact hA8A), (by rw [hRd, pFin_s (by decide)]; exact hA9A), (by rw [hRd, pFin_s (by decide)]; exact hCC)⟩
  · have c_24n : ¬ 600 < j := fun q => c_24 ((nI_ltI (a := 600) (b := j) (by omega) (by omega)).mpr q)
    refine lv_aload_n hx hb dX7_read_78 rfl (lv_at hl 1 rfl) ?_
    refine z_get C G clX7 3 rfl 11 (by decide) m_fl_RX7_55 rfl dX7_read_79 ?_
    refine lv_if_ne (tgt := 103) hx hb dX7_read_82 (by decide) (fun c_25 => ?_) (fun c_25 => ?_)
    · have c_25n : ¬ y7.toInt = (0 : Int) := fun q => c_25 ((fa_eq _ _).mpr q)
      have hX := pLines_o hj (by first | exact Or.inl (by omega) | exact Or.inr (Or.inl (by rw [← hA6A]; omega)) | exact Or.inr (Or.inr (pTk_0.mpr (by omega)))) hEq
      have hRd := pRead_e (n := N) hX
      refine lv_iload_n hx hb dX7_read_103 rfl (lv_at hl 2 rfl) ?_
      refine lv_if_ne (tgt := 111) hx hb dX7_read_104 (by decide) (fun _ => ?_) (fun q => absurd q (by decide))
      have G := G.sub (bs' := [[(rd, .inr (7, [.ref rl, .ref rdd, .ref rg, .int y0, .int y1, .ref tp, .int v_1, .int y3, .int y4, .int y5, .int y6, .int y7, .int y8]))], [(tp, .inl (T.2 1, 600, .inl ft))], w2_2, wd3, [(rg, .inr (5, [.int 0, .ref a1_14, .ref a2_15])), (a1_14, .inl (T.2 0, 8, .inl e1)), (a2_15, .inl (T.2 0, 8, .inl e2))]]) [3, 4, 2, 0, 1] rfl
      exact z_vret C hr hlocks G (Nat.le_of_ble_eq_true rfl) (Nat.le_of_ble_eq_true rfl) dX7_read_111 ⟨v_1, y0, y1, y3, y4, y5, y6, y7, y8, w2_2, g1_3, k2, g3_4, g4_5, wd3, dd3, v1, v2, v3, ([(rg, .inr (5, [.int 0, .ref a1_14, .ref a2_15])), (a1_14, .inl (T.2 0, 8, .inl e1)), (a2_15, .inl (T.2 0, 8, .inl e2))]), rfl, h_6, hI, hd3, hw_23, (by rw [hRd, pFin_s (by decide)]; exact hA8A), (by rw [hRd, pFin_s (by decide)]; exact hA9A), (by rw [hRd, pFin_s (by decide)]; exact hCC)⟩
    · have c_25n : y7.toInt = (0 : Int) := (fa_eq _ _).mp c_25
      have hwA : A9.2.1.toInt = 0 := by rw [← hA6A]; omega
      obtain ⟨t3A, t4A, t5A, t6A⟩ := hA7A hwA
      have t4iA : y4.toInt = (pCl k A9.1 : Int) := by rw [t4A]; exact nI_toInt (by omega)
      refine lv_aload_n hx hb dX7_read_85 rfl (lv_at hl 1 rfl) ?_
      refine z_get C G clX7 3 rfl 8 (by decide) m_fl_RX7_74 rfl dX7_read_86 ?_
      refine lv_if_eq (tgt := 103) hx hb dX7_read_89 (by decide) (fun c_26 => ?_) (fun c_26 => ?_)
      · have c_26n : y4.toInt = (0 : Int) := (fa_eq _ _).mp c_26
        have hX := pLines_o hj (by first | exact Or.inl (by omega) | exact Or.inr (Or.inl (by rw [← hA6A]; omega)) | exact Or.inr (Or.inr (pTk_0.mpr (by omega)))) hEq
        have hRd := pRead_e (n := N) hX
        refine lv_iload_n hx hb dX7_read_103 rfl (lv_at hl 2 rfl) ?_
        refine lv_if_ne (tgt := 111) hx hb dX7_read_104 (by decide) (fun _ => ?_) (fun q => absurd q (by decide))
        have G := G.sub (bs' := [[(rd, .inr (7, [.ref rl, .ref rdd, .ref rg, .int y0, .int y1, .ref tp, .int v_1, .int y3, .int y4, .int y5, .int y6, .int y7, .int y8]))], [(tp, .inl (T.2 1, 600, .inl ft))], w2_2, wd3, [(rg, .inr (5, [.int 0, .ref a1_14, .ref a2_15])), (a1_14, .inl (T.2 0, 8, .inl e1)), (a2_15, .inl (T.2 0, 8, .inl e2))]]) [3, 4, 2, 0, 1] rfl
        exact z_vret C hr hlocks G (Nat.le_of_ble_eq_true rfl) (Nat.le_of_ble_eq_true rfl) dX7_read_111 ⟨v_1, y0, y1, y3, y4, y5, y6, y7, y8, w2_2, g1_3, k2, g3_4, g4_5, wd3, dd3, v1, v2, v3, ([(rg, .inr (5, [.int 0, .ref a1_14, .ref a2_15])), (a1_14, .inl (T.2 0, 8, .inl e1)), (a2_15, .inl (T.2 0, 8, .inl e2))]), rfl, h_6, hI, hd3, hw_23, (by rw [hRd, pFin_s (by decide)]; exact hA8A), (by rw [hRd, pFin_s (by decide)]; exact hA9A), (by rw [hRd, pFin_s (by decide)]; exact hCC)⟩
      · have c_26n : ¬ y4.toInt = (0 : Int) := fun q => c_26 ((fa_eq _ _).mpr q)
        have htA : ¬ pTk k A9.1 = 0 := fun z9 => by have := pTk_0.mp z9; omega
        refine lv_aload_n hx hb dX7_read_92 rfl (lv_at hl 1 rfl) ?_
        refine lv_iload_n hx hb dX7_read_93 rfl (lv_at hl 2 rfl) ?_
        refine z_Vv (bc := [[(rd, .inr (7, [.ref rl, .ref rdd, .ref rg, .int y0, .int y1, .ref tp, .int v_1, .int y3, .int y4, .int y5, .int y6, .int y7, .int y8]))], [(tp, .inl (T.2 1, 600, .inl ft))], wd3]) (br := [[(rg, .inr (5, [.int 0, .ref a1_14, .ref a2_15])), (a1_14, .inl (T.2 0, 8, .inl e1)), (a2_15, .inl (T.2 0, 8, .inl e2))], w2_2]) (As := [.int 1]) (rest := []) C G (c_f_readLine1 l T rd rl rdd rg tp y0 y1 v_1 y3 y4 y5 y6 y7 y8 ft dd3 v1 v2 v3 wd3 k N A9 fr hBA hwA hd3 hCC) (kV_RX7_77 C.2.2.2.2 (Nat.le_of_ble_eq_true rfl) (Nat.le_of_ble_eq_true rfl)) [3, 4, 0] [1, 2] rfl rfl (ci := 7) (qc := (RX7, TX7, 13)) rfl rfl (List.mem_flatten.mpr ⟨_, List.mem_of_getElem? (i := 0) rfl, List.mem_cons_self⟩) rfl rfl hl.1 dX7_read_94 (Nat.le_of_ble_eq_true rfl) (Nat.le_of_ble_eq_true rfl) (fun b1 H locs hw G => ?_)
        obtain ⟨u0_27, u1_28, u3_29, u4_30, u5_31, u6_32, u7_33, u8_34, wd2_35, dd2_36, b1_37, b2_38, b3_39, rfl, h_40, h_41, h_42⟩ := hw
        have G : zS T A s.heap s [[(rg, .inr (5, [.int 0, .ref a1_14, .ref a2_15])), (a1_14, .inl (T.2 0, 8, .inl e1)), (a2_15, .inl (T.2 0, 8, .inl e2))], w2_2, [(rd, .inr (7, [.ref rl, .ref rdd, .ref rg, .int u0_27, .int u1_28, .ref tp, .int v_1, .int u3_29, .int u4_30, .int u5_31, .int u6_32, .int u7_33, .int u8_34]))], [(tp, .inl (T.2 1, 600, .inl ft))], wd2_35] _ _ := G
        have hnR := h_41
        have hnC := h_42
        refine lv_iinc (v := nI (j + 1)) (lv' := [(4, .int (nI (j + 1))), (0, .ref rd), (3, .int 1)]) hx hb dX7_read_97 hl (k := 0) rfl (z_inc j 1) (by decide) rfl (fun ls hl => ?_)
        refine lv_goto (tgt := 70) hx hb dX7_read_100 (by decide) ?_
        have G := G.sub (bs' := [wd2_35, [(rg, .inr (5, [.int 0, .ref a1_14, .ref a2_15])), (a1_14, .inl (T.2 0, 8, .inl e1)), (a2_15, .inl (T.2 0, 8, .inl e2))], w2_2, [(rd, .inr (7, [.ref rl, .ref rdd, .ref rg, .int u0_27, .int u1_28, .ref tp, .int v_1, .int u3_29, .int u4_30, .int u5_31, .int u6_32, .int u7_33, .int u8_34]))], [(tp, .inl (T.2 1, 600, .inl ft))]]) [4, 0, 1, 2, 3] rfl
        exact ih_70 ((j + 1), ((pLine k 1 A9 fr).1), ((pLine k 1 A9 fr).2), u0_27, u1_28, u3_29, u4_30, u5_31, u6_32, u7_33, u8_34, wd2_35, dd2_36, b1_37, b2_38, b3_39) (show bDay T rdd dd2_36 b1_37 b2_38 b3_39 wd2_35 ∧ (j + 1) ≤ 601 ∧ zRc k N ft u0_27 u1_28 v_1 u3_29 u4_30 u5_31 u6_32 u7_33 ((pLine k 1 A9 fr).1) ∧ pLines k 1 (601 - (j + 1)) ((pLine k 1 A9 fr).1) ((pLine k 1 A9 fr).2) = pLines k 1 601 (0, 0, 0, -1, -1) (fun _ => 0) ∧ zDc dd2_36 b1_37 b2_38 b3_39 ((pLine k 1 A9 fr).1) ((pLine k 1 A9 fr).2) from ⟨h_40, by omega, hnR, (pLines_n (by omega) hwA htA hEq), hnC⟩) (show 601 - (j + 1) < 601 - j from by omega) _ _ ls G (lv_sub hl [0, 1, 2] rfl)
set_option maxHeartbeats 4000000 in
set_option maxRecDepth 100000 in
/-- c_f_read2 -/
theorem c_f_read2 (l : Launch) (T : zTy) (rd : Nat) (rl : Nat) (rdd : Nat) (rg : Nat) (tp : Nat) (r0 : Int32) (r1 : Int32) (r2 : Int32) (r3 : Int32) (r4 : Int32) (r5 : Int32) (r6 : Int32) (r7 : Int32) (r8 : Int32) (tq : Nat) (ft : Nat → Int32) (cr : Int32) (inn : Int32) (k1 : Nat → Int32) (k2 : Nat → Int32) (k3 : Nat → Int32) (k4 : Nat → Int32) (z : va_W) (dd : Int32) (d1 : Nat → Int32) (d2 : Nat → Int32) (d3 : Nat → Int32) (wd : va_W) (gg : Int32) (e1 : Nat → Int32) (e2 : Nat → Int32) (wg : va_W) (n : Int32) (k : pT) (N : Nat) (hz : bLand T rl cr inn k1 k2 k3 k4 z) (hd : bDay T rdd dd d1 d2 d3 wd) (hg : bLog T rg gg e1 e2 wg) (hN : n = nI N) (hN6 : N ≤ 600) (hk : k = tkT ft N) : zMv l T yX7_read cX7_read 5 8 0 0 [.ref rd, .ref tp, .int n, .int 2] [[(rd, .inr (7, [.ref rl, .ref rdd, .ref rg, .int r0, .int r1, .ref tq, .int r2, .int r3, .int r4, .int r5, .int r6, .int r7, .int r8]))], [(tp, .inl (T.2 1, 600, .inl ft))], z, wd, wg] (fun bs => ∃ (u2 : Int32) (u0 : Int32) (u1 : Int32) (u3 : Int32) (u4 : Int32) (u5 : Int32) (u6 : Int32) (u7 : Int32) (u8 : Int32) (z2 : va_W) (j1 : Nat → Int32) (j2 : Nat → Int32) (j3 : Nat → Int32) (j4 : Nat → Int32) (wd2 : va_W) (wg2 : va_W) (gg2 : Int32) (b4 : Nat → Int32) (b5 : Nat → Int32), bs = [[(rd, .inr (7, [.ref rl, .ref rdd, .ref rg, .int u0, .int u1, .ref tp, .int u2, .int u3, .int u4, .int u5, .int u6, .int u7, .int u8]))], [(tp, .inl (T.2 1, 600, .inl ft))], z2, wd2, wg2] ∧ bLand T rl 0 0 j1 j2 j3 j4 z2 ∧ zLI 0 j1 j3 ∧ bDay T rdd 0 d1 d2 d3 wd2 ∧ bLog T rg gg2 b4 b5 wg2 ∧ u0 = (pRead k N 2).1.2.2.1 ∧ u1 = (pRead k N 2).1.2.2.2.1 ∧ zGc gg2 b4 b5 (pRead k N 2).1 (pRead k N 2).2) := by
  refine zMv_of (own := RX7) (by decide) rfl (Nat.le_of_ble_eq_true rfl) ?_
  intro p e s m args below meth c A ls C hr hlocks hnm hAe G hl
  have hx := C.1
  have hb := C.2.1
  have hl : lv_has ls 5 [(0, .ref rd), (1, .ref tp), (2, .int n), (3, .int 2)] := hl
  refine lv_aload_n hx hb dX7_read_0 rfl (lv_at hl 0 rfl) ?_
  refine lv_aload_n hx hb dX7_read_1 rfl (lv_at hl 1 rfl) ?_
  refine z_put C G clX7 0 rfl 5 (by decide) m_fl_RX7_32 rfl rfl rfl (Nat.le_of_ble_eq_true rfl) dX7_read_2 (fun H locs G => ?_)
  have G : zS T A s.heap s [[(rd, .inr (7, [.ref rl, .ref rdd, .ref rg, .int r0, .int r1, .ref tp, .int r2, .int r3, .int r4, .int r5, .int r6, .int r7, .int r8]))], [(tp, .inl (T.2 1, 600, .inl ft))], z, wd, wg] _ _ := G
  refine lv_aload_n hx hb dX7_read_5 rfl (lv_at hl 0 rfl) ?_
  refine lv_iload_n hx hb dX7_read_6 rfl (lv_at hl 2 rfl) ?_
  refine lv_aload_n hx hb dX7_read_7 rfl (lv_at hl 1 rfl) ?_
  refine z_alen C G 1 1 rfl (v := 600) rfl rfl dX7_read_8 ?_
  refine va_mmin hx hb (C.2.2.1.trans hl.1.symm) C.2.2.2.1 (C.2.2.2.2 _ m_ml_RX7_36) (C.2.2.2.2 _ m_st_math_min) (C.2.2.2.2 _ m_ii_math) (C.2.2.2.2 _ m_co_math_min) (Nat.le_of_ble_eq_true rfl) (Nat.le_of_ble_eq_true rfl) (Nat.le_of_ble_eq_true rfl) (Nat.le_of_ble_eq_true rfl) dX7_read_9 ?_
  refine lv_topi (fun v_1 ev_1 => ?_)
  have hlen : v_1 = nI N := by rw [ev_1, if_neg (fun z9 => by have z8 := (fa_lt _ _).mp z9; rw [hN, nI_toInt (by omega)] at z8; have z7 : (600 : Int32).toInt = 600 := rfl; omega)]; exact hN
  refine z_put C G clX7 0 rfl 6 (by decide) m_fl_RX7_42 rfl rfl rfl (Nat.le_of_ble_eq_true rfl) dX7_read_12 (fun H locs G => ?_)
  have G : zS T A s.heap s [[(rd, .inr (7, [.ref rl, .ref rdd, .ref rg, .int r0, .int r1, .ref tp, .int v_1, .int r3, .int r4, .int r5, .int r6, .int r7, .int r8]))], [(tp, .inl (T.2 1, 600, .inl ft))], z, wd, wg] _ _ := G
  refine lv_aload_n hx hb dX7_read_15 rfl (lv_at hl 0 rfl) ?_
  refine lv_iconst (v := 0) hx hb dX7_read_16 (by decide) ?_
  refine z_put C G clX7 0 rfl 7 (by decide) m_fl_RX7_46 rfl rfl rfl (Nat.le_of_ble_eq_true rfl) dX7_read_17 (fun H locs G => ?_)
  have G : zS T A s.heap s [[(rd, .inr (7, [.ref rl, .ref rdd, .ref rg, .int r0, .int r1, .ref tp, .int v_1, .int 0, .int r4, .int r5, .int r6, .int r7, .int r8]))], [(tp, .inl (T.2 1, 600, .inl ft))], z, wd, wg] _ _ := G
  refine lv_aload_n hx hb dX7_read_20 rfl (lv_at hl 0 rfl) ?_
  refine lv_iconst (v := 0) hx hb dX7_read_21 (by decide) ?_
  refine z_put C G clX7 0 rfl 3 (by decide) m_fl_RX7_49 rfl rfl rfl (Nat.le_of_ble_eq_true rfl) dX7_read_22 (fun H locs G => ?_)
  have G : zS T A s.heap s [[(rd, .inr (7, [.ref rl, .ref rdd, .ref rg, .int 0, .int r1, .ref tp, .int v_1, .int 0, .int r4, .int r5, .int r6, .int r7, .int r8]))], [(tp, .inl (T.2 1, 600, .inl ft))], z, wd, wg] _ _ := G
  refine lv_aload_n hx hb dX7_read_25 rfl (lv_at hl 0 rfl) ?_
  refine lv_iconst (v := (-1)) hx hb dX7_read_26 (by decide) ?_
  refine z_put C G clX7 0 rfl 4 (by decide) m_fl_RX7_52 rfl rfl rfl (Nat.le_of_ble_eq_true rfl) dX7_read_27 (fun H locs G => ?_)
  have G : zS T A s.heap s [[(rd, .inr (7, [.ref rl, .ref rdd, .ref rg, .int 0, .int (-1), .ref tp, .int v_1, .int 0, .int r4, .int r5, .int r6, .int r7, .int r8]))], [(tp, .inl (T.2 1, 600, .inl ft))], z, wd, wg] _ _ := G
  refine lv_aload_n hx hb dX7_read_30 rfl (lv_at hl 0 rfl) ?_
  refine lv_iconst (v := 0) hx hb dX7_read_31 (by decide) ?_
  refine z_put C G clX7 0 rfl 11 (by decide) m_fl_RX7_55 rfl rfl rfl (Nat.le_of_ble_eq_true rfl) dX7_read_32 (fun H locs G => ?_)
  have G : zS T A s.heap s [[(rd, .inr (7, [.ref rl, .ref rdd, .ref rg, .int 0, .int (-1), .ref tp, .int v_1, .int 0, .int r4, .int r5, .int r6, .int 0, .int r8]))], [(tp, .inl (T.2 1, 600, .inl ft))], z, wd, wg] _ _ := G
  refine lv_aload_n hx hb dX7_read_35 rfl (lv_at hl 0 rfl) ?_
  refine lv_iconst (v := 0) hx hb dX7_read_36 (by decide) ?_
  refine z_put C G clX7 0 rfl 12 (by decide) m_fl_RX7_59 rfl rfl rfl (Nat.le_of_ble_eq_true rfl) dX7_read_37 (fun H locs G => ?_)
  have G : zS T A s.heap s [[(rd, .inr (7, [.ref rl, .ref rdd, .ref rg, .int 0, .int (-1), .ref tp, .int v_1, .int 0, .int r4, .int r5, .int r6, .int 0, .int 0]))], [(tp, .inl (T.2 1, 600, .inl ft))], z, wd, wg] _ _ := G
  refine lv_aload_n hx hb dX7_read_40 rfl (lv_at hl 0 rfl) ?_
  refine z_get C G clX7 0 rfl 0 (by decide) m_fl_RX7_12 rfl dX7_read_41 ?_
  refine z_Vv (bc := [z]) (br := [[(rd, .inr (7, [.ref rl, .ref rdd, .ref rg, .int 0, .int (-1), .ref tp, .int v_1, .int 0, .int r4, .int r5, .int r6, .int 0, .int 0]))], [(tp, .inl (T.2 1, 600, .inl ft))], wd, wg]) (As := []) (rest := []) C G (c_Land_clear l T rl cr inn k1 k2 k3 k4 z hz) (kV_RX7_62 C.2.2.2.2 (Nat.le_of_ble_eq_true rfl) (Nat.le_of_ble_eq_true rfl)) [2] [0, 1, 3, 4] rfl rfl (ci := 4) (qc := (RX4, TX4, 6)) rfl rfl (List.mem_flatten.mpr ⟨_, List.mem_of_getElem? (i := 0) rfl, (bLand_mem hz).choose_spec⟩) rfl rfl hl.1 dX7_read_44 (Nat.le_of_ble_eq_true rfl) (Nat.le_of_ble_eq_true rfl) (fun b1 H locs hw G => ?_)
  obtain ⟨w2_2, g1_3, g3_4, g4_5, rfl, h_6, h_7, h_8, h_9⟩ := hw
  have G : zS T A s.heap s [[(rd, .inr (7, [.ref rl, .ref rdd, .ref rg, .int 0, .int (-1), .ref tp, .int v_1, .int 0, .int r4, .int r5, .int r6, .int 0, .int 0]))], [(tp, .inl (T.2 1, 600, .inl ft))], wd, wg, w2_2] _ _ := G
  have hI : zLI 0 g1_3 g3_4 := zLI_zero h_7 h_8
  refine lv_aload_n hx hb dX7_read_47 rfl (lv_at hl 0 rfl) ?_
  refine z_get C G clX7 0 rfl 1 (by decide) m_fl_RX7_21 rfl dX7_read_48 ?_
  refine lv_iconst (v := 0) hx hb dX7_read_51 (by decide) ?_
  obtain ⟨a1_11, a2_12, a3_13, rfl⟩ := hd
  have G : zS T A s.heap s [[(rd, .inr (7, [.ref rl, .ref rdd, .ref rg, .int 0, .int (-1), .ref tp, .int v_1, .int 0, .int r4, .int r5, .int r6, .int 0, .int 0]))], [(tp, .inl (T.2 1, 600, .inl ft))], [(rdd, .inr (2, [.int dd, .ref a1_11, .ref a2_12, .ref a3_13]))], [(a1_11, .inl (T.2 0, 40, .inl d1))], [(a2_12, .inl (T.2 0, 40, .inl d2))], [(a3_13, .inl (T.2 0, 40, .inl d3))], wg, w2_2] _ _ := G.re rfl
  refine z_put C G clX2 2 rfl 0 (by decide) m_fl_RX7_65 rfl rfl rfl (Nat.le_of_ble_eq_true rfl) dX7_read_52 (fun H locs G => ?_)
  have G : zS T A s.heap s [[(rd, .inr (7, [.ref rl, .ref rdd, .ref rg, .int 0, .int (-1), .ref tp, .int v_1, .int 0, .int r4, .int r5, .int r6, .int 0, .int 0]))], [(tp, .inl (T.2 1, 600, .inl ft))], [(rdd, .inr (2, [.int 0, .ref a1_11, .ref a2_12, .ref a3_13]))], [(a1_11, .inl (T.2 0, 40, .inl d1))], [(a2_12, .inl (T.2 0, 40, .inl d2))], [(a3_13, .inl (T.2 0, 40, .inl d3))], wg, w2_2] _ _ := G
  refine lv_aload_n hx hb dX7_read_55 rfl (lv_at hl 0 rfl) ?_
  refine z_get C G clX7 0 rfl 2 (by decide) m_fl_RX7_28 rfl dX7_read_56 ?_
  refine lv_iconst (v := 0) hx hb dX7_read_59 (by decide) ?_
  obtain ⟨a1_14, a2_15, rfl⟩ := hg
  have G : zS T A s.heap s [[(rd, .inr (7, [.ref rl, .ref rdd, .ref rg, .int 0, .int (-1), .ref tp, .int v_1, .int 0, .int r4, .int r5, .int r6, .int 0, .int 0]))], [(tp, .inl (T.2 1, 600, .inl ft))], [(rdd, .inr (2, [.int 0, .ref a1_11, .ref a2_12, .ref a3_13]))], [(a1_11, .inl (T.2 0, 40, .inl d1))], [(a2_12, .inl (T.2 0, 40, .inl d2))], [(a3_13, .inl (T.2 0, 40, .inl d3))], [(rg, .inr (5, [.int gg, .ref a1_14, .ref a2_15]))], [(a1_14, .inl (T.2 0, 8, .inl e1))], [(a2_15, .inl (T.2 0, 8, .inl e2))], w2_2] _ _ := G.re rfl
  refine z_put C G clX5 6 rfl 0 (by decide) m_fl_RX7_68 rfl rfl rfl (Nat.le_of_ble_eq_true rfl) dX7_read_60 (fun H locs G => ?_)
  have G : zS T A s.heap s [[(rd, .inr (7, [.ref rl, .ref rdd, .ref rg, .int 0, .int (-1), .ref tp, .int v_1, .int 0, .int r4, .int r5, .int r6, .int 0, .int 0]))], [(tp, .inl (T.2 1, 600, .inl ft))], [(rdd, .inr (2, [.int 0, .ref a1_11, .ref a2_12, .ref a3_13]))], [(a1_11, .inl (T.2 0, 40, .inl d1))], [(a2_12, .inl (T.2 0, 40, .inl d2))], [(a3_13, .inl (T.2 0, 40, .inl d3))], [(rg, .inr (5, [.int 0, .ref a1_14, .ref a2_15]))], [(a1_14, .inl (T.2 0, 8, .inl e1))], [(a2_15, .inl (T.2 0, 8, .inl e2))], w2_2] _ _ := G
  refine lv_aload_n hx hb dX7_read_63 rfl (lv_at hl 0 rfl) ?_
  refine z_Vv (bc := [[(rd, .inr (7, [.ref rl, .ref rdd, .ref rg, .int 0, .int (-1), .ref tp, .int v_1, .int 0, .int r4, .int r5, .int r6, .int 0, .int 0]))], [(tp, .inl (T.2 1, 600, .inl ft))]]) (br := [[(rdd, .inr (2, [.int 0, .ref a1_11, .ref a2_12, .ref a3_13]))], [(a1_11, .inl (T.2 0, 40, .inl d1))], [(a2_12, .inl (T.2 0, 40, .inl d2))], [(a3_13, .inl (T.2 0, 40, .inl d3))], [(rg, .inr (5, [.int 0, .ref a1_14, .ref a2_15]))], [(a1_14, .inl (T.2 0, 8, .inl e1))], [(a2_15, .inl (T.2 0, 8, .inl e2))], w2_2]) (As := []) (rest := []) C G (c_f_nextToken l T rd rl rdd rg tp 0 (-1) v_1 0 r4 r5 r6 0 0 ft 0 N k rfl (Nat.zero_le _) hk hlen hN6) (kV_RX7_71 C.2.2.2.2 (Nat.le_of_ble_eq_true rfl) (Nat.le_of_ble_eq_true rfl)) [0, 1] [2, 3, 4, 5, 6, 7, 8, 9] rfl rfl (ci := 7) (qc := (RX7, TX7, 13)) rfl rfl (List.mem_flatten.mpr ⟨_, List.mem_of_getElem? (i := 0) rfl, List.mem_cons_self⟩) rfl rfl hl.1 dX7_read_64 (Nat.le_of_ble_eq_true rfl) (Nat.le_of_ble_eq_true rfl) (fun b1 H locs hw G => ?_)
  obtain ⟨u3_16, u4_17, u5_18, u6_19, rfl, h_20⟩ := hw
  have G : zS T A s.heap s [[(rdd, .inr (2, [.int 0, .ref a1_11, .ref a2_12, .ref a3_13]))], [(a1_11, .inl (T.2 0, 40, .inl d1))], [(a2_12, .inl (T.2 0, 40, .inl d2))], [(a3_13, .inl (T.2 0, 40, .inl d3))], [(rg, .inr (5, [.int 0, .ref a1_14, .ref a2_15]))], [(a1_14, .inl (T.2 0, 8, .inl e1))], [(a2_15, .inl (T.2 0, 8, .inl e2))], w2_2, [(rd, .inr (7, [.ref rl, .ref rdd, .ref rg, .int 0, .int (-1), .ref tp, .int v_1, .int u3_16, .int u4_17, .int u5_18, .int u6_19, .int 0, .int 0]))], [(tp, .inl (T.2 1, 600, .inl ft))]] _ _ := G
  refine lv_iconst (v := 0) hx hb dX7_read_67 (by decide) ?_
  refine lv_istore (lv' := [(4, .int 0), (0, .ref rd), (1, .ref tp), (2, .int n), (3, .int 2)]) hx hb dX7_read_68 hl (by decide) rfl (fun ls hl => ?_)
  have hw_22 : bDay T rdd 0 d1 d2 d3 [(rdd, .inr (2, [.int 0, .ref a1_11, .ref a2_12, .ref a3_13])), (a1_11, .inl (T.2 0, 40, .inl d1)), (a2_12, .inl (T.2 0, 40, .inl d2)), (a3_13, .inl (T.2 0, 40, .inl d3))] := ⟨a1_11, a2_12, a3_13, rfl⟩
  have G : zS T A s.heap s [[(rdd, .inr (2, [.int 0, .ref a1_11, .ref a2_12, .ref a3_13])), (a1_11, .inl (T.2 0, 40, .inl d1)), (a2_12, .inl (T.2 0, 40, .inl d2)), (a3_13, .inl (T.2 0, 40, .inl d3))], [(rg, .inr (5, [.int 0, .ref a1_14, .ref a2_15]))], [(a1_14, .inl (T.2 0, 8, .inl e1))], [(a2_15, .inl (T.2 0, 8, .inl e2))], w2_2, [(rd, .inr (7, [.ref rl, .ref rdd, .ref rg, .int 0, .int (-1), .ref tp, .int v_1, .int u3_16, .int u4_17, .int u5_18, .int u6_19, .int 0, .int 0]))], [(tp, .inl (T.2 1, 600, .inl ft))]] _ _ := G.re rfl
  have hw_23 : bLog T rg 0 e1 e2 [(rg, .inr (5, [.int 0, .ref a1_14, .ref a2_15])), (a1_14, .inl (T.2 0, 8, .inl e1)), (a2_15, .inl (T.2 0, 8, .inl e2))] := ⟨a1_14, a2_15, rfl⟩
  have G : zS T A s.heap s [[(rdd, .inr (2, [.int 0, .ref a1_11, .ref a2_12, .ref a3_13])), (a1_11, .inl (T.2 0, 40, .inl d1)), (a2_12, .inl (T.2 0, 40, .inl d2)), (a3_13, .inl (T.2 0, 40, .inl d3))], [(rg, .inr (5, [.int 0, .ref a1_14, .ref a2_15])), (a1_14, .inl (T.2 0, 8, .inl e1)), (a2_15, .inl (T.2 0, 8, .inl e2))], w2_2, [(rd, .inr (7, [.ref rl, .ref rdd, .ref rg, .int 0, .int (-1), .ref tp, .int v_1, .int u3_16, .int u4_17, .int u5_18, .int u6_19, .int 0, .int 0]))], [(tp, .inl (T.2 1, 600, .inl ft))]] _ _ := G.re rfl
  refine z_loop (T := T) (α := Nat × pS × (Nat → Int32) × Int32 × Int32 × Int32 × Int32 × Int32 × Int32 × Int32 × Int32 × va_W × Int32 × (Nat → Int32) × (Nat → Int32)) 70 (fun (j, A9, fr, y0, y1, y3, y4, y5, y6, y7, y8, wg3, gg3, v4, v5) => [[(rdd, .inr (2, [.int 0, .ref a1_11, .ref a2_12, .ref a3_13])), (a1_11, .inl (T.2 0, 40, .inl d1)), (a2_12, .inl (T.2 0, 40, .inl d2)), (a3_13, .inl (T.2 0, 40, .inl d3))], wg3, w2_2, [(rd, .inr (7, [.ref rl, .ref rdd, .ref rg, .int y0, .int y1, .ref tp, .int v_1, .int y3, .int y4, .int y5, .int y6, .int y7, .int y8]))], [(tp, .inl (T.2 1, 600, .inl ft))]]) (fun (j, A9, fr, y0, y1, y3, y4, y5, y6, y7, y8, wg3, gg3, v4, v5) => [(4, .int (nI j)), (0, .ref rd), (3, .int 2)]) (fun (j, A9, fr, y0, y1, y3, y4, y5, y6, y7, y8, wg3, gg3, v4, v5) => bLog T rg gg3 v4 v5 wg3 ∧ j ≤ 601 ∧ zRc k N ft y0 y1 v_1 y3 y4 y5 y6 y7 A9 ∧ pLines k 2 (601 - j) A9 fr = pLines k 2 601 (0, 0, 0, -1, -1) (fun _ => 0) ∧ zGc gg3 v4 v5 A9 fr) (fun (j, A9, fr, y0, y1, y3, y4, y5, y6, y7, y8, wg3, gg3, v4, v5) => 601 - j) ?_ (0, (0, 0, 0, -1, -1), (fun _ => 0), 0, (-1), u3_16, u4_17, u5_18, u6_19, 0, 0, ([(rg, .inr (5, [.int 0, .ref a1_14, .ref a2_15])), (a1_14, .inl (T.2 0, 8, .inl e1)), (a2_15, .inl (T.2 0, 8, .inl e2))]), 0, e1, e2) (show bLog T rg 0 e1 e2 ([(rg, .inr (5, [.int 0, .ref a1_14, .ref a2_15])), (a1_14, .inl (T.2 0, 8, .inl e1)), (a2_15, .inl (T.2 0, 8, .inl e2))]) ∧ 0 ≤ 601 ∧ zRc k N ft 0 (-1) v_1 u3_16 u4_17 u5_18 u6_19 0 (0, 0, 0, -1, -1) ∧ pLines k 2 (601 - 0) (0, 0, 0, -1, -1) (fun _ => 0) = pLines k 2 601 (0, 0, 0, -1, -1) (fun _ => 0) ∧ zGc 0 e1 e2 (0, 0, 0, -1, -1) (fun _ => 0) from ⟨hw_23, by omega, (zRc_st hk hN6 hlen h_20), rfl, zGc_st⟩) G (lv_sub hl [0, 1, 4] rfl)
  rintro ⟨j, A9, fr, y0, y1, y3, y4, y5, y6, y7, y8, wg3, gg3, v4, v5⟩ ⟨hg3, hj, hBA, hEq, hCC⟩ ih_70 H locs ls G hl
  replace hg3 : bLog T rg gg3 v4 v5 wg3 := hg3
  replace hj : j ≤ 601 := hj
  replace hBA : zRc k N ft y0 y1 v_1 y3 y4 y5 y6 y7 A9 := hBA
  replace hEq : pLines k 2 (601 - j) A9 fr = pLines k 2 601 (0, 0, 0, -1, -1) (fun _ => 0) := hEq
  replace hCC : zGc gg3 v4 v5 A9 fr := hCC
  replace G : zS T A s.heap s [[(rdd, .inr (2, [.int 0, .ref a1_11, .ref a2_12, .ref a3_13])), (a1_11, .inl (T.2 0, 40, .inl d1)), (a2_12, .inl (T.2 0, 40, .inl d2)), (a3_13, .inl (T.2 0, 40, .inl d3))], wg3, w2_2, [(rd, .inr (7, [.ref rl, .ref rdd, .ref rg, .int y0, .int y1, .ref tp, .int v_1, .int y3, .int y4, .int y5, .int y6, .int y7, .int y8]))], [(tp, .inl (T.2 1, 600, .inl ft))]] _ _ := G
  replace hl : lv_has ls 5 [(4, .int (nI j)), (0, .ref rd), (3, .int 2)] := hl
  refine lv_iload hx hb dX7_read_70 (lv_at hl 0 rfl) ?_
  have hokA := zRc_ok hBA
  obtain ⟨hA1A, hA6A, hA7A, hA8A, hA9A, hAIA, hAEA⟩ := id hBA
  have hkaA := hokA A9.1 hA1A.2.2.2
  refine lv_sipush (v := 600) hx hb dX7_read_72 (by decide) ?_
  refine lv_icmp_gt (tgt := 103) hx hb dX7_read_75 (by decide) (fun c_24 => ?_) (fun c_24 => ?_)
  · have c_24n : 600 < j := (nI_ltI (a := 600) (b := j) (by omega) (by omega)).mp c_24
    have hX := pLines_o hj (by first | exact Or.inl (by omega) | exact Or.inr (Or.inl (by rw [← hA6A]; omega)) | exact Or.inr (Or.inr (pTk_0.mpr (by omega)))) hEq
    have hRd := pRead_e (n := N) hX
    refine lv_iload_n hx hb dX7_read_103 rfl (lv_at hl 2 rfl) ?_
    refine lv_if_ne (tgt := 111) hx hb dX7_read_104 (by decide) (fun _ => ?_) (fun q => absurd q (by decide))
    have G := G.sub (bs' := [[(rd, .inr (7, [.ref rl, .ref rdd, .ref rg, .int y0, .int y1, .ref tp, .int v_1, .int y3, .int y4, .int y5, .int y6, .int y7, .int y8]))], [(tp, .inl (T.2 1, 600, .inl ft))], w2_2, [(rdd, .inr (2, [.int 0, .ref a1_11, .ref a2_12, .ref a3_13])), (a1_11, .inl (T.2 0, 40, .inl d1)), (a2_12, .inl (T.2 0, 40, .inl d2)), (a3_13, .inl (T.2 0, 40, .inl d3))], wg3]) [3, 4, 2, 0, 1] rfl
    exact z_vret C hr hlocks G (Nat.le_of_ble_eq_true rfl) (Nat.le_of_ble_eq_true rfl) dX7_read_111 ⟨v_1, y0, y1, y3, y4, y5, y6, y7, y8, w2_2, g1_3, k2, g3_4, g4_5, ([(rdd, .inr (2, [.int 0, .ref a1_11, .ref a2_12, .ref a3_13])), (a1_11, .inl (T.2 0, 40, .inl d1)), (a2_12, .inl (T.2 0, 40, .inl d2)), (a3_13, .inl (T.2 0, 40, .inl d3))]), wg3, gg3, v4, v5, rfl, h_6, hI, hw_22, hg3, (by rw [hRd, pFin_s (by decide)]; exact hA8A), (by rw [hRd, pFin_s (by decide)]; exact hA9A), (by rw [hRd, pFin_s (by decide)]; exact hCC)⟩
  · have c_24n : ¬ 600 < j := fun q => c_24 ((nI_ltI (a := 600) (b := j) (by omega) (by omega)).mpr q)
    refine lv_aload_n hx hb dX7_read_78 rfl (lv_at hl 1 rfl) ?_
    refine z_get C G clX7 3 rfl 11 (by decide) m_fl_RX7_55 rfl dX7_read_79 ?_
    refine lv_if_ne (tgt := 103) hx hb dX7_read_82 (by decide) (fun c_25 => ?_) (fun c_25 => ?_)
    · have c_25n : ¬ y7.toInt = (0 : Int) := fun q => c_25 ((fa_eq _ _).mpr q)
      have hX := pLines_o hj (by first | exact Or.inl (by omega) | exact Or.inr (Or.inl (by rw [← hA6A]; omega)) | exact Or.inr (Or.inr (pTk_0.mpr (by omega)))) hEq
      have hRd := pRead_e (n := N) hX
      refine lv_iload_n hx hb dX7_read_103 rfl (lv_at hl 2 rfl) ?_
      refine lv_if_ne (tgt := 111) hx hb dX7_read_104 (by decide) (fun _ => ?_) (fun q => absurd q (by decide))
      have G := G.sub (bs' := [[(rd, .inr (7, [.ref rl, .ref rdd, .ref rg, .int y0, .int y1, .ref tp, .int v_1, .int y3, .int y4, .int y5, .int y6, .int y7, .int y8]))], [(tp, .inl (T.2 1, 600, .inl ft))], w2_2, [(rdd, .inr (2, [.int 0, .ref a1_11, .ref a2_12, .ref a3_13])), (a1_11, .inl (T.2 0, 40, .inl d1)), (a2_12, .inl (T.2 0, 40, .inl d2)), (a3_13, .inl (T.2 0, 40, .inl d3))], wg3]) [3, 4, 2, 0, 1] rfl
      exact z_vret C hr hlocks G (Nat.le_of_ble_eq_true rfl) (Nat.le_of_ble_eq_true rfl) dX7_read_111 ⟨v_1, y0, y1, y3, y4, y5, y6, y7, y8, w2_2, g1_3, k2, g3_4, g4_5, ([(rdd, .inr (2, [.int 0, .ref a1_11, .ref a2_12, .ref a3_13])), (a1_11, .inl (T.2 0, 40, .inl d1)), (a2_12, .inl (T.2 0, 40, .inl d2)), (a3_13, .inl (T.2 0, 40, .inl d3))]), wg3, gg3, v4, v5, rfl, h_6, hI, hw_22, hg3, (by rw [hRd, pFin_s (by decide)]; exact hA8A), (by rw [hRd, pFin_s (by decide)]; exact hA9A), (by rw [hRd, pFin_s (by decide)]; exact hCC)⟩
    · have c_25n : y7.toInt = (0 : Int) := (fa_eq _ _).mp c_25
      have hwA : A9.2.1.toInt = 0 := by rw [← hA6A]; omega
      obtain ⟨t3A, t4A, t5A, t6A⟩ := hA7A hwA
      have t4iA : y4.toInt = (pCl k A9.1 : Int) := by rw [t4A]; exact nI_toInt (by omega)
      refine lv_aload_n hx hb dX7_read_85 rfl (lv_at hl 1 rfl) ?_
      refine z_get C G clX7 3 rfl 8 (by decide) m_fl_RX7_74 rfl dX7_read_86 ?_
      refine lv_if_eq (tgt := 103) hx hb dX7_read_89 (by decide) (fun c_26 => ?_) (fun c_26 => ?_)
      · have c_26n : y4.toInt = (0 : Int) := (fa_eq _ _).mp c_26
        have hX := pLines_o hj (by first | exact Or.inl (by omega) | exact Or.inr (Or.inl (by rw [← hA6A]; omega)) | exact Or.inr (Or.inr (pTk_0.mpr (by omega)))) hEq
        have hRd := pRead_e (n := N) hX
        refine lv_iload_n hx hb dX7_read_103 rfl (lv_at hl 2 rfl) ?_
        refine lv_if_ne (tgt := 111) hx hb dX7_read_104 (by decide) (fun _ => ?_) (fun q => absurd q (by decide))
        have G := G.sub (bs' := [[(rd, .inr (7, [.ref rl, .ref rdd, .ref rg, .int y0, .int y1, .ref tp, .int v_1, .int y3, .int y4, .int y5, .int y6, .int y7, .int y8]))], [(tp, .inl (T.2 1, 600, .inl ft))], w2_2, [(rdd, .inr (2, [.int 0, .ref a1_11, .ref a2_12, .ref a3_13])), (a1_11, .inl (T.2 0, 40, .inl d1)), (a2_12, .inl (T.2 0, 40, .inl d2)), (a3_13, .inl (T.2 0, 40, .inl d3))], wg3]) [3, 4, 2, 0, 1] rfl
        exact z_vret C hr hlocks G (Nat.le_of_ble_eq_true rfl) (Nat.le_of_ble_eq_true rfl) dX7_read_111 ⟨v_1, y0, y1, y3, y4, y5, y6, y7, y8, w2_2, g1_3, k2, g3_4, g4_5, ([(rdd, .inr (2, [.int 0, .ref a1_11, .ref a2_12, .ref a3_13])), (a1_11, .inl (T.2 0, 40, .inl d1)), (a2_12, .inl (T.2 0, 40, .inl d2)), (a3_13, .inl (T.2 0, 40, .inl d3))]), wg3, gg3, v4, v5, rfl, h_6, hI, hw_22, hg3, (by rw [hRd, pFin_s (by decide)]; exact hA8A), (by rw [hRd, pFin_s (by decide)]; exact hA9A), (by rw [hRd, pFin_s (by decide)]; exact hCC)⟩
      · have c_26n : ¬ y4.toInt = (0 : Int) := fun q => c_26 ((fa_eq _ _).mpr q)
        have htA : ¬ pTk k A9.1 = 0 := fun z9 => by have := pTk_0.mp z9; omega
        refine lv_aload_n hx hb dX7_read_92 rfl (lv_at hl 1 rfl) ?_
        refine lv_iload_n hx hb dX7_read_93 rfl (lv_at hl 2 rfl) ?_
        refine z_Vv (bc := [[(rd, .inr (7, [.ref rl, .ref rdd, .ref rg, .int y0, .int y1, .ref tp, .int v_1, .int y3, .int y4, .int y5, .int y6, .int y7, .int y8]))], [(tp, .inl (T.2 1, 600, .inl ft))], wg3]) (br := [[(rdd, .inr (2, [.int 0, .ref a1_11, .ref a2_12, .ref a3_13])), (a1_11, .inl (T.2 0, 40, .inl d1)), (a2_12, .inl (T.2 0, 40, .inl d2)), (a3_13, .inl (T.2 0, 40, .inl d3))], w2_2]) (As := [.int 2]) (rest := []) C G (c_f_readLine2 l T rd rl rdd rg tp y0 y1 v_1 y3 y4 y5 y6 y7 y8 ft gg3 v4 v5 wg3 k N A9 fr hBA hwA hg3 hCC) (kV_RX7_77 C.2.2.2.2 (Nat.le_of_ble_eq_true rfl) (Nat.le_of_ble_eq_true rfl)) [3, 4, 1] [0, 2] rfl rfl (ci := 7) (qc := (RX7, TX7, 13)) rfl rfl (List.mem_flatten.mpr ⟨_, List.mem_of_getElem? (i := 0) rfl, List.mem_cons_self⟩) rfl rfl hl.1 dX7_read_94 (Nat.le_of_ble_eq_true rfl) (Nat.le_of_ble_eq_true rfl) (fun b1 H locs hw G => ?_)
        obtain ⟨u0_27, u1_28, u3_29, u4_30, u5_31, u6_32, u7_33, u8_34, wg2_35, gg2_36, b4_37, b5_38, rfl, h_39, h_40, h_41⟩ := hw
        have G : zS T A s.heap s [[(rdd, .inr (2, [.int 0, .ref a1_11, .ref a2_12, .ref a3_13])), (a1_11, .inl (T.2 0, 40, .inl d1)), (a2_12, .inl (T.2 0, 40, .inl d2)), (a3_13, .inl (T.2 0, 40, .inl d3))], w2_2, [(rd, .inr (7, [.ref rl, .ref rdd, .ref rg, .int u0_27, .int u1_28, .ref tp, .int v_1, .int u3_29, .int u4_30, .int u5_31, .int u6_32, .int u7_33, .int u8_34]))], [(tp, .inl (T.2 1, 600, .inl ft))], wg2_35] _ _ := G
        have hnR := h_40
        have hnC := h_41
        refine lv_iinc (v := nI (j + 1)) (lv' := [(4, .int (nI (j + 1))), (0, .ref rd), (3, .int 2)]) hx hb dX7_read_97 hl (k := 0) rfl (z_inc j 1) (by decide) rfl (fun ls hl => ?_)
        refine lv_goto (tgt := 70) hx hb dX7_read_100 (by decide) ?_
        have G := G.sub (bs' := [[(rdd, .inr (2, [.int 0, .ref a1_11, .ref a2_12, .ref a3_13])), (a1_11, .inl (T.2 0, 40, .inl d1)), (a2_12, .inl (T.2 0, 40, .inl d2)), (a3_13, .inl (T.2 0, 40, .inl d3))], wg2_35, w2_2, [(rd, .inr (7, [.ref rl, .ref rdd, .ref rg, .int u0_27, .int u1_28, .ref tp, .int v_1, .int u3_29, .int u4_30, .int u5_31, .int u6_32, .int u7_33, .int u8_34]))], [(tp, .inl (T.2 1, 600, .inl ft))]]) [0, 4, 1, 2, 3] rfl
        exact ih_70 ((j + 1), ((pLine k 2 A9 fr).1), ((pLine k 2 A9 fr).2), u0_27, u1_28, u3_29, u4_30, u5_31, u6_32, u7_33, u8_34, wg2_35, gg2_36, b4_37, b5_38) (show bLog T rg gg2_36 b4_37 b5_38 wg2_35 ∧ (j + 1) ≤ 601 ∧ zRc k N ft u0_27 u1_28 v_1 u3_29 u4_30 u5_31 u6_32 u7_33 ((pLine k 2 A9 fr).1) ∧ pLines k 2 (601 - (j + 1)) ((pLine k 2 A9 fr).1) ((pLine k 2 A9 fr).2) = pLines k 2 601 (0, 0, 0, -1, -1) (fun _ => 0) ∧ zGc gg2_36 b4_37 b5_38 ((pLine k 2 A9 fr).1) ((pLine k 2 A9 fr).2) from ⟨h_39, by omega, hnR, (pLines_n (by omega) hwA htA hEq), hnC⟩) (show 601 - (j + 1) < 601 - j from by omega) _ _ ls G (lv_sub hl [0, 1, 2] rfl)


set_option maxHeartbeats 4000000 in
set_option maxRecDepth 100000 in
/-- c_keep_00 -/
theorem c_keep_00 (l : Launch) (T : zTy) (t : Nat) (l0 : Nat) (l1 : Nat) (d0 : Nat) (d1 : Nat) (g0 : Nat) (g1 : Nat) (ln : Int32) (fl : Int32) (pl : Int32) (ft : Nat → Int32) (fk : Nat → Int32) (wt : va_W) (cr0_ : Int32) (inn0_ : Int32) (k10_ : Nat → Int32) (k20_ : Nat → Int32) (k30_ : Nat → Int32) (k40_ : Nat → Int32) (z0_ : va_W) (rd : Nat) (rl : Nat) (rdd : Nat) (rg : Nat) (tp : Nat) (r0 : Int32) (r1 : Int32) (r2 : Int32) (r3 : Int32) (r4 : Int32) (r5 : Int32) (r6 : Int32) (r7 : Int32) (r8 : Int32) (cr : Int32) (inn : Int32) (k1 : Nat → Int32) (k2 : Nat → Int32) (k3 : Nat → Int32) (k4 : Nat → Int32) (z : va_W) (ht : bTold T t l0 l1 d0 d1 g0 g1 ln fl pl ft fk wt) (hK : zKT fk) (hz0_ : bLand T l0 cr0_ inn0_ k10_ k20_ k30_ k40_ z0_) (hI0_ : zLI cr0_ k10_ k30_) (hz : bLand T rl cr inn k1 k2 k3 k4 z) (hI : zLI cr k1 k3) : zMv l T yX9_keep cX9_keep 4 2 0 0 [.ref t, .int 0, .int 0, .ref rd] [wt, z0_, [(rd, .inr (7, [.ref rl, .ref rdd, .ref rg, .int r0, .int r1, .ref tp, .int r2, .int r3, .int r4, .int r5, .int r6, .int r7, .int r8]))], z] (fun bs => ∃ (wt2 : va_W) (fk2 : Nat → Int32) (w2_ : va_W) (s1 : Nat → Int32) (s2 : Nat → Int32) (s3 : Nat → Int32) (s4 : Nat → Int32), bs = [wt2, w2_, [(rd, .inr (7, [.ref rl, .ref rdd, .ref rg, .int r0, .int r1, .ref tp, .int r2, .int r3, .int r4, .int r5, .int r6, .int r7, .int r8]))], z] ∧ bTold T t l0 l1 d0 d1 g0 g1 ln fl pl ft fk2 wt2 ∧ bLand T l0 cr inn s1 s2 s3 s4 w2_ ∧ zKT fk2 ∧ zLI cr s1 s3) := by
  refine zMv_of (own := RX9) (by decide) rfl (Nat.le_of_ble_eq_true rfl) ?_
  intro p e s m args below meth c A ls C hr hlocks hnm hAe G hl
  have hx := C.1
  have hb := C.2.1
  have hl : lv_has ls 4 [(0, .ref t), (1, .int 0), (2, .int 0), (3, .ref rd)] := hl
  refine lv_iload_n hx hb dX9_keep_0 rfl (lv_at hl 1 rfl) ?_
  refine lv_if_lt (tgt := 18) hx hb dX9_keep_1 (by decide) (fun q => absurd q (by decide)) (fun _ => ?_)
  refine lv_iload_n hx hb dX9_keep_4 rfl (lv_at hl 1 rfl) ?_
  refine lv_iconst (v := 2) hx hb dX9_keep_5 (by decide) ?_
  refine lv_icmp_gt (tgt := 18) hx hb dX9_keep_6 (by decide) (fun q => absurd q (by decide)) (fun _ => ?_)
  refine lv_iload_n hx hb dX9_keep_9 rfl (lv_at hl 2 rfl) ?_
  refine lv_if_lt (tgt := 18) hx hb dX9_keep_10 (by decide) (fun q => absurd q (by decide)) (fun _ => ?_)
  refine lv_iload_n hx hb dX9_keep_13 rfl (lv_at hl 2 rfl) ?_
  refine lv_iconst (v := 2) hx hb dX9_keep_14 (by decide) ?_
  refine lv_icmp_lt (tgt := 19) hx hb dX9_keep_15 (by decide) (fun _ => ?_) (fun q => absurd (by decide) q)
  refine lv_iload_n hx hb dX9_keep_19 rfl (lv_at hl 1 rfl) ?_
  refine lv_if_ne (tgt := 39) hx hb dX9_keep_20 (by decide) (fun q => absurd (by decide) q) (fun _ => ?_)
  refine lv_aload_n hx hb dX9_keep_23 rfl (lv_at hl 0 rfl) ?_
  obtain ⟨a1_1, a2_2, a3_3, a4_4, a5_5, q1_6, q2_7, q3_8, rfl, h_9, h_10, h_11, h_12, h_13, h_14⟩ := ht
  have G : zS T A s.heap s [[(t, .inr (8, [.ref a1_1, .int ln, .int fl, .int pl, .ref a2_2, .ref a3_3, .ref a4_4, .ref a5_5]))], [(a1_1, .inl (T.2 1, 600, .inl ft))], [(a2_2, .inl (T.2 0, 3, .inl fk))], [(a3_3, .inl (T.2 3, 2, .inr (.inr (.inr (.inr q1_6)))))], [(a4_4, .inl (T.2 4, 2, .inr (.inr (.inr (.inr q2_7)))))], [(a5_5, .inl (T.2 5, 2, .inr (.inr (.inr (.inr q3_8)))))], z0_, [(rd, .inr (7, [.ref rl, .ref rdd, .ref rg, .int r0, .int r1, .ref tp, .int r2, .int r3, .int r4, .int r5, .int r6, .int r7, .int r8]))], z] _ _ := G.re rfl
  refine z_get C G clX9 0 rfl 5 (by decide) m_fl_RX9_26 rfl dX9_keep_24 ?_
  refine lv_iload_n hx hb dX9_keep_27 rfl (lv_at hl 2 rfl) ?_
  refine z_ald C G 3 3 rfl rfl (vp_in_nI (n := 0) (by decide) (by decide)) dX9_keep_28 ?_
  rw [show q1_6 ((0 : Int32).toNatClampNeg) = some l0 from h_9]
  refine lv_aload_n hx hb dX9_keep_29 rfl (lv_at hl 3 rfl) ?_
  refine z_get C G clX7 7 rfl 0 (by decide) m_fl_RX9_47 rfl dX9_keep_30 ?_
  refine z_Vv (bc := [z0_, z]) (br := [[(t, .inr (8, [.ref a1_1, .int ln, .int fl, .int pl, .ref a2_2, .ref a3_3, .ref a4_4, .ref a5_5]))], [(a1_1, .inl (T.2 1, 600, .inl ft))], [(a2_2, .inl (T.2 0, 3, .inl fk))], [(a3_3, .inl (T.2 3, 2, .inr (.inr (.inr (.inr q1_6)))))], [(a4_4, .inl (T.2 4, 2, .inr (.inr (.inr (.inr q2_7)))))], [(a5_5, .inl (T.2 5, 2, .inr (.inr (.inr (.inr q3_8)))))], [(rd, .inr (7, [.ref rl, .ref rdd, .ref rg, .int r0, .int r1, .ref tp, .int r2, .int r3, .int r4, .int r5, .int r6, .int r7, .int r8]))]]) (As := [.ref rl]) (rest := []) C G (c_Land_takeAll l T l0 rl cr0_ inn0_ k10_ k20_ k30_ k40_ cr inn k1 k2 k3 k4 z0_ z hz0_ hz) (kV_RX9_53 C.2.2.2.2 (Nat.le_of_ble_eq_true rfl) (Nat.le_of_ble_eq_true rfl)) [6, 8] [0, 1, 2, 3, 4, 5, 7] rfl rfl (ci := 4) (qc := (RX4, TX4, 6)) rfl rfl (List.mem_flatten.mpr ⟨_, List.mem_of_getElem? (i := 0) rfl, (bLand_mem hz0_).choose_spec⟩) rfl rfl hl.1 dX9_keep_33 (Nat.le_of_ble_eq_true rfl) (Nat.le_of_ble_eq_true rfl) (fun b1 H locs hw G => ?_)
  obtain ⟨w2_15, g1_16, g2_17, g3_18, g4_19, rfl, h_20, h_21, h_22, h_23, h_24⟩ := hw
  have G : zS T A s.heap s [[(t, .inr (8, [.ref a1_1, .int ln, .int fl, .int pl, .ref a2_2, .ref a3_3, .ref a4_4, .ref a5_5]))], [(a1_1, .inl (T.2 1, 600, .inl ft))], [(a2_2, .inl (T.2 0, 3, .inl fk))], [(a3_3, .inl (T.2 3, 2, .inr (.inr (.inr (.inr q1_6)))))], [(a4_4, .inl (T.2 4, 2, .inr (.inr (.inr (.inr q2_7)))))], [(a5_5, .inl (T.2 5, 2, .inr (.inr (.inr (.inr q3_8)))))], [(rd, .inr (7, [.ref rl, .ref rdd, .ref rg, .int r0, .int r1, .ref tp, .int r2, .int r3, .int r4, .int r5, .int r6, .int r7, .int r8]))], w2_15, z] _ _ := G
  refine lv_goto (tgt := 73) hx hb dX9_keep_36 (by decide) ?_
  refine lv_aload_n hx hb dX9_keep_73 rfl (lv_at hl 0 rfl) ?_
  refine z_get C G clX9 0 rfl 4 (by decide) m_fl_RX9_19 rfl dX9_keep_74 ?_
  refine lv_iload_n hx hb dX9_keep_77 rfl (lv_at hl 1 rfl) ?_
  refine lv_aload_n hx hb dX9_keep_78 rfl (lv_at hl 0 rfl) ?_
  refine z_get C G clX9 0 rfl 4 (by decide) m_fl_RX9_19 rfl dX9_keep_79 ?_
  refine lv_iload_n hx hb dX9_keep_82 rfl (lv_at hl 1 rfl) ?_
  refine z_ild C G 2 rfl (vp_in_nI (n := 0) (by decide) (by decide)) dX9_keep_83 ?_
  refine lv_topi (fun v_26 ev_26 => ?_)
  rw [show ((0 : Int32).toNatClampNeg) = 0 from rfl] at ev_26
  subst ev_26
  refine lv_iload_n hx hb dX9_keep_84 rfl (lv_at hl 2 rfl) ?_
  refine lv_iconst (v := 1) hx hb dX9_keep_85 (by decide) ?_
  refine lv_iadd hx hb dX9_keep_86 ?_
  refine lv_topi (fun y_27 ey_27 => ?_)
  obtain rfl : y_27 = 1 := ey_27.trans (by decide)
  refine va_mmax hx hb (C.2.2.1.trans hl.1.symm) C.2.2.2.1 (C.2.2.2.2 _ m_ml_RX9_71) (C.2.2.2.2 _ m_st_math_max) (C.2.2.2.2 _ m_ii_math) (C.2.2.2.2 _ m_co_math_max) (Nat.le_of_ble_eq_true rfl) (Nat.le_of_ble_eq_true rfl) (Nat.le_of_ble_eq_true rfl) (Nat.le_of_ble_eq_true rfl) dX9_keep_87 ?_
  refine lv_topi (fun v_28 ev_28 => ?_)
  subst ev_28
  refine z_ist C G 2 rfl (vp_in_nI (n := 0) (by decide) (by decide)) dX9_keep_90 (fun H locs G => ?_)
  have G : zS T A s.heap s [[(t, .inr (8, [.ref a1_1, .int ln, .int fl, .int pl, .ref a2_2, .ref a3_3, .ref a4_4, .ref a5_5]))], [(a1_1, .inl (T.2 1, 600, .inl ft))], [(a2_2, .inl (T.2 0, 3, .inl (upd fk 0 (if (fk 0) < 1 then 1 else (fk 0)))))], [(a3_3, .inl (T.2 3, 2, .inr (.inr (.inr (.inr q1_6)))))], [(a4_4, .inl (T.2 4, 2, .inr (.inr (.inr (.inr q2_7)))))], [(a5_5, .inl (T.2 5, 2, .inr (.inr (.inr (.inr q3_8)))))], [(rd, .inr (7, [.ref rl, .ref rdd, .ref rg, .int r0, .int r1, .ref tp, .int r2, .int r3, .int r4, .int r5, .int r6, .int r7, .int r8]))], w2_15, z] _ _ := G
  have hw_29 : bTold T t l0 l1 d0 d1 g0 g1 ln fl pl ft (upd fk 0 (if (fk 0) < 1 then 1 else (fk 0))) [(t, .inr (8, [.ref a1_1, .int ln, .int fl, .int pl, .ref a2_2, .ref a3_3, .ref a4_4, .ref a5_5])), (a1_1, .inl (T.2 1, 600, .inl ft)), (a2_2, .inl (T.2 0, 3, .inl (upd fk 0 (if (fk 0) < 1 then 1 else (fk 0))))), (a3_3, .inl (T.2 3, 2, .inr (.inr (.inr (.inr q1_6))))), (a4_4, .inl (T.2 4, 2, .inr (.inr (.inr (.inr q2_7))))), (a5_5, .inl (T.2 5, 2, .inr (.inr (.inr (.inr q3_8)))))] := ⟨a1_1, a2_2, a3_3, a4_4, a5_5, q1_6, q2_7, q3_8, rfl, h_9, h_10, h_11, h_12, h_13, h_14⟩
  have G : zS T A s.heap s [[(t, .inr (8, [.ref a1_1, .int ln, .int fl, .int pl, .ref a2_2, .ref a3_3, .ref a4_4, .ref a5_5])), (a1_1, .inl (T.2 1, 600, .inl ft)), (a2_2, .inl (T.2 0, 3, .inl (upd fk 0 (if (fk 0) < 1 then 1 else (fk 0))))), (a3_3, .inl (T.2 3, 2, .inr (.inr (.inr (.inr q1_6))))), (a4_4, .inl (T.2 4, 2, .inr (.inr (.inr (.inr q2_7))))), (a5_5, .inl (T.2 5, 2, .inr (.inr (.inr (.inr q3_8)))))], [(rd, .inr (7, [.ref rl, .ref rdd, .ref rg, .int r0, .int r1, .ref tp, .int r2, .int r3, .int r4, .int r5, .int r6, .int r7, .int r8]))], w2_15, z] _ _ := G.re rfl
  have G := G.sub (bs' := [[(t, .inr (8, [.ref a1_1, .int ln, .int fl, .int pl, .ref a2_2, .ref a3_3, .ref a4_4, .ref a5_5])), (a1_1, .inl (T.2 1, 600, .inl ft)), (a2_2, .inl (T.2 0, 3, .inl (upd fk 0 (if (fk 0) < 1 then 1 else (fk 0))))), (a3_3, .inl (T.2 3, 2, .inr (.inr (.inr (.inr q1_6))))), (a4_4, .inl (T.2 4, 2, .inr (.inr (.inr (.inr q2_7))))), (a5_5, .inl (T.2 5, 2, .inr (.inr (.inr (.inr q3_8)))))], w2_15, [(rd, .inr (7, [.ref rl, .ref rdd, .ref rg, .int r0, .int r1, .ref tp, .int r2, .int r3, .int r4, .int r5, .int r6, .int r7, .int r8]))], z]) [0, 2, 1, 3] rfl
  exact z_vret C hr hlocks G (Nat.le_of_ble_eq_true rfl) (Nat.le_of_ble_eq_true rfl) dX9_keep_91 ⟨([(t, .inr (8, [.ref a1_1, .int ln, .int fl, .int pl, .ref a2_2, .ref a3_3, .ref a4_4, .ref a5_5])), (a1_1, .inl (T.2 1, 600, .inl ft)), (a2_2, .inl (T.2 0, 3, .inl (upd fk 0 (if (fk 0) < 1 then 1 else (fk 0))))), (a3_3, .inl (T.2 3, 2, .inr (.inr (.inr (.inr q1_6))))), (a4_4, .inl (T.2 4, 2, .inr (.inr (.inr (.inr q2_7))))), (a5_5, .inl (T.2 5, 2, .inr (.inr (.inr (.inr q3_8)))))]), (upd fk 0 (if (fk 0) < 1 then 1 else (fk 0))), w2_15, g1_16, g2_17, g3_18, g4_19, rfl, hw_29, h_20, (zKT_upd hK 0 (z_maxK (hK 0 (by decide)) (by decide))), (zLI_eq hI h_21 h_23)⟩
set_option maxHeartbeats 4000000 in
set_option maxRecDepth 100000 in
/-- c_keep_01 -/
theorem c_keep_01 (l : Launch) (T : zTy) (t : Nat) (l0 : Nat) (l1 : Nat) (d0 : Nat) (d1 : Nat) (g0 : Nat) (g1 : Nat) (ln : Int32) (fl : Int32) (pl : Int32) (ft : Nat → Int32) (fk : Nat → Int32) (wt : va_W) (cr1_ : Int32) (inn1_ : Int32) (k11_ : Nat → Int32) (k21_ : Nat → Int32) (k31_ : Nat → Int32) (k41_ : Nat → Int32) (z1_ : va_W) (rd : Nat) (rl : Nat) (rdd : Nat) (rg : Nat) (tp : Nat) (r0 : Int32) (r1 : Int32) (r2 : Int32) (r3 : Int32) (r4 : Int32) (r5 : Int32) (r6 : Int32) (r7 : Int32) (r8 : Int32) (cr : Int32) (inn : Int32) (k1 : Nat → Int32) (k2 : Nat → Int32) (k3 : Nat → Int32) (k4 : Nat → Int32) (z : va_W) (ht : bTold T t l0 l1 d0 d1 g0 g1 ln fl pl ft fk wt) (hK : zKT fk) (hz1_ : bLand T l1 cr1_ inn1_ k11_ k21_ k31_ k41_ z1_) (hI1_ : zLI cr1_ k11_ k31_) (hz : bLand T rl cr inn k1 k2 k3 k4 z) (hI : zLI cr k1 k3) : zMv l T yX9_keep cX9_keep 4 2 0 0 [.ref t, .int 0, .int 1, .ref rd] [wt, z1_, [(rd, .inr (7, [.ref rl, .ref rdd, .ref rg, .int r0, .int r1, .ref tp, .int r2, .int r3, .int r4, .int r5, .int r6, .int r7, .int r8]))], z] (fun bs => ∃ (wt2 : va_W) (fk2 : Nat → Int32) (w2_ : va_W) (s1 : Nat → Int32) (s2 : Nat → Int32) (s3 : Nat → Int32) (s4 : Nat → Int32), bs = [wt2, w2_, [(rd, .inr (7, [.ref rl, .ref rdd, .ref rg, .int r0, .int r1, .ref tp, .int r2, .int r3, .int r4, .int r5, .int r6, .int r7, .int r8]))], z] ∧ bTold T t l0 l1 d0 d1 g0 g1 ln fl pl ft fk2 wt2 ∧ bLand T l1 cr inn s1 s2 s3 s4 w2_ ∧ zKT fk2 ∧ zLI cr s1 s3) := by
  refine zMv_of (own := RX9) (by decide) rfl (Nat.le_of_ble_eq_true rfl) ?_
  intro p e s m args below meth c A ls C hr hlocks hnm hAe G hl
  have hx := C.1
  have hb := C.2.1
  have hl : lv_has ls 4 [(0, .ref t), (1, .int 0), (2, .int 1), (3, .ref rd)] := hl
  refine lv_iload_n hx hb dX9_keep_0 rfl (lv_at hl 1 rfl) ?_
  refine lv_if_lt (tgt := 18) hx hb dX9_keep_1 (by decide) (fun q => absurd q (by decide)) (fun _ => ?_)
  refine lv_iload_n hx hb dX9_keep_4 rfl (lv_at hl 1 rfl) ?_
  refine lv_iconst (v := 2) hx hb dX9_keep_5 (by decide) ?_
  refine lv_icmp_gt (tgt := 18) hx hb dX9_keep_6 (by decide) (fun q => absurd q (by decide)) (fun _ => ?_)
  refine lv_iload_n hx hb dX9_keep_9 rfl (lv_at hl 2 rfl) ?_
  refine lv_if_lt (tgt := 18) hx hb dX9_keep_10 (by decide) (fun q => absurd q (by decide)) (fun _ => ?_)
  refine lv_iload_n hx hb dX9_keep_13 rfl (lv_at hl 2 rfl) ?_
  refine lv_iconst (v := 2) hx hb dX9_keep_14 (by decide) ?_
  refine lv_icmp_lt (tgt := 19) hx hb dX9_keep_15 (by decide) (fun _ => ?_) (fun q => absurd (by decide) q)
  refine lv_iload_n hx hb dX9_keep_19 rfl (lv_at hl 1 rfl) ?_
  refine lv_if_ne (tgt := 39) hx hb dX9_keep_20 (by decide) (fun q => absurd (by decide) q) (fun _ => ?_)
  refine lv_aload_n hx hb dX9_keep_23 rfl (lv_at hl 0 rfl) ?_
  obtain ⟨a1_1, a2_2, a3_3, a4_4, a5_5, q1_6, q2_7, q3_8, rfl, h_9, h_10, h_11, h_12, h_13, h_14⟩ := ht
  have G : zS T A s.heap s [[(t, .inr (8, [.ref a1_1, .int ln, .int fl, .int pl, .ref a2_2, .ref a3_3, .ref a4_4, .ref a5_5]))], [(a1_1, .inl (T.2 1, 600, .inl ft))], [(a2_2, .inl (T.2 0, 3, .inl fk))], [(a3_3, .inl (T.2 3, 2, .inr (.inr (.inr (.inr q1_6)))))], [(a4_4, .inl (T.2 4, 2, .inr (.inr (.inr (.inr q2_7)))))], [(a5_5, .inl (T.2 5, 2, .inr (.inr (.inr (.inr q3_8)))))], z1_, [(rd, .inr (7, [.ref rl, .ref rdd, .ref rg, .int r0, .int r1, .ref tp, .int r2, .int r3, .int r4, .int r5, .int r6, .int r7, .int r8]))], z] _ _ := G.re rfl
  refine z_get C G clX9 0 rfl 5 (by decide) m_fl_RX9_26 rfl dX9_keep_24 ?_
  refine lv_iload_n hx hb dX9_keep_27 rfl (lv_at hl 2 rfl) ?_
  refine z_ald C G 3 3 rfl rfl (vp_in_nI (n := 1) (by decide) (by decide)) dX9_keep_28 ?_
  rw [show q1_6 ((1 : Int32).toNatClampNeg) = some l1 from h_10]
  refine lv_aload_n hx hb dX9_keep_29 rfl (lv_at hl 3 rfl) ?_
  refine z_get C G clX7 7 rfl 0 (by decide) m_fl_RX9_47 rfl dX9_keep_30 ?_
  refine z_Vv (bc := [z1_, z]) (br := [[(t, .inr (8, [.ref a1_1, .int ln, .int fl, .int pl, .ref a2_2, .ref a3_3, .ref a4_4, .ref a5_5]))], [(a1_1, .inl (T.2 1, 600, .inl ft))], [(a2_2, .inl (T.2 0, 3, .inl fk))], [(a3_3, .inl (T.2 3, 2, .inr (.inr (.inr (.inr q1_6)))))], [(a4_4, .inl (T.2 4, 2, .inr (.inr (.inr (.inr q2_7)))))], [(a5_5, .inl (T.2 5, 2, .inr (.inr (.inr (.inr q3_8)))))], [(rd, .inr (7, [.ref rl, .ref rdd, .ref rg, .int r0, .int r1, .ref tp, .int r2, .int r3, .int r4, .int r5, .int r6, .int r7, .int r8]))]]) (As := [.ref rl]) (rest := []) C G (c_Land_takeAll l T l1 rl cr1_ inn1_ k11_ k21_ k31_ k41_ cr inn k1 k2 k3 k4 z1_ z hz1_ hz) (kV_RX9_53 C.2.2.2.2 (Nat.le_of_ble_eq_true rfl) (Nat.le_of_ble_eq_true rfl)) [6, 8] [0, 1, 2, 3, 4, 5, 7] rfl rfl (ci := 4) (qc := (RX4, TX4, 6)) rfl rfl (List.mem_flatten.mpr ⟨_, List.mem_of_getElem? (i := 0) rfl, (bLand_mem hz1_).choose_spec⟩) rfl rfl hl.1 dX9_keep_33 (Nat.le_of_ble_eq_true rfl) (Nat.le_of_ble_eq_true rfl) (fun b1 H locs hw G => ?_)
  obtain ⟨w2_15, g1_16, g2_17, g3_18, g4_19, rfl, h_20, h_21, h_22, h_23, h_24⟩ := hw
  have G : zS T A s.heap s [[(t, .inr (8, [.ref a1_1, .int ln, .int fl, .int pl, .ref a2_2, .ref a3_3, .ref a4_4, .ref a5_5]))], [(a1_1, .inl (T.2 1, 600, .inl ft))], [(a2_2, .inl (T.2 0, 3, .inl fk))], [(a3_3, .inl (T.2 3, 2, .inr (.inr (.inr (.inr q1_6)))))], [(a4_4, .inl (T.2 4, 2, .inr (.inr (.inr (.inr q2_7)))))], [(a5_5, .inl (T.2 5, 2, .inr (.inr (.inr (.inr q3_8)))))], [(rd, .inr (7, [.ref rl, .ref rdd, .ref rg, .int r0, .int r1, .ref tp, .int r2, .int r3, .int r4, .int r5, .int r6, .int r7, .int r8]))], w2_15, z] _ _ := G
  refine lv_goto (tgt := 73) hx hb dX9_keep_36 (by decide) ?_
  refine lv_aload_n hx hb dX9_keep_73 rfl (lv_at hl 0 rfl) ?_
  refine z_get C G clX9 0 rfl 4 (by decide) m_fl_RX9_19 rfl dX9_keep_74 ?_
  refine lv_iload_n hx hb dX9_keep_77 rfl (lv_at hl 1 rfl) ?_
  refine lv_aload_n hx hb dX9_keep_78 rfl (lv_at hl 0 rfl) ?_
  refine z_get C G clX9 0 rfl 4 (by decide) m_fl_RX9_19 rfl dX9_keep_79 ?_
  refine lv_iload_n hx hb dX9_keep_82 rfl (lv_at hl 1 rfl) ?_
  refine z_ild C G 2 rfl (vp_in_nI (n := 0) (by decide) (by decide)) dX9_keep_83 ?_
  refine lv_topi (fun v_26 ev_26 => ?_)
  rw [show ((0 : Int32).toNatClampNeg) = 0 from rfl] at ev_26
  subst ev_26
  refine lv_iload_n hx hb dX9_keep_84 rfl (lv_at hl 2 rfl) ?_
  refine lv_iconst (v := 1) hx hb dX9_keep_85 (by decide) ?_
  refine lv_iadd hx hb dX9_keep_86 ?_
  refine lv_topi (fun y_27 ey_27 => ?_)
  obtain rfl : y_27 = 2 := ey_27.trans (by decide)
  refine va_mmax hx hb (C.2.2.1.trans hl.1.symm) C.2.2.2.1 (C.2.2.2.2 _ m_ml_RX9_71) (C.2.2.2.2 _ m_st_math_max) (C.2.2.2.2 _ m_ii_math) (C.2.2.2.2 _ m_co_math_max) (Nat.le_of_ble_eq_true rfl) (Nat.le_of_ble_eq_true rfl) (Nat.le_of_ble_eq_true rfl) (Nat.le_of_ble_eq_true rfl) dX9_keep_87 ?_
  refine lv_topi (fun v_28 ev_28 => ?_)
  subst ev_28
  refine z_ist C G 2 rfl (vp_in_nI (n := 0) (by decide) (by decide)) dX9_keep_90 (fun H locs G => ?_)
  have G : zS T A s.heap s [[(t, .inr (8, [.ref a1_1, .int ln, .int fl, .int pl, .ref a2_2, .ref a3_3, .ref a4_4, .ref a5_5]))], [(a1_1, .inl (T.2 1, 600, .inl ft))], [(a2_2, .inl (T.2 0, 3, .inl (upd fk 0 (if (fk 0) < 2 then 2 else (fk 0)))))], [(a3_3, .inl (T.2 3, 2, .inr (.inr (.inr (.inr q1_6)))))], [(a4_4, .inl (T.2 4, 2, .inr (.inr (.inr (.inr q2_7)))))], [(a5_5, .inl (T.2 5, 2, .inr (.inr (.inr (.inr q3_8)))))], [(rd, .inr (7, [.ref rl, .ref rdd, .ref rg, .int r0, .int r1, .ref tp, .int r2, .int r3, .int r4, .int r5, .int r6, .int r7, .int r8]))], w2_15, z] _ _ := G
  have hw_29 : bTold T t l0 l1 d0 d1 g0 g1 ln fl pl ft (upd fk 0 (if (fk 0) < 2 then 2 else (fk 0))) [(t, .inr (8, [.ref a1_1, .int ln, .int fl, .int pl, .ref a2_2, .ref a3_3, .ref a4_4, .ref a5_5])), (a1_1, .inl (T.2 1, 600, .inl ft)), (a2_2, .inl (T.2 0, 3, .inl (upd fk 0 (if (fk 0) < 2 then 2 else (fk 0))))), (a3_3, .inl (T.2 3, 2, .inr (.inr (.inr (.inr q1_6))))), (a4_4, .inl (T.2 4, 2, .inr (.inr (.inr (.inr q2_7))))), (a5_5, .inl (T.2 5, 2, .inr (.inr (.inr (.inr q3_8)))))] := ⟨a1_1, a2_2, a3_3, a4_4, a5_5, q1_6, q2_7, q3_8, rfl, h_9, h_10, h_11, h_12, h_13, h_14⟩
  have G : zS T A s.heap s [[(t, .inr (8, [.ref a1_1, .int ln, .int fl, .int pl, .ref a2_2, .ref a3_3, .ref a4_4, .ref a5_5])), (a1_1, .inl (T.2 1, 600, .inl ft)), (a2_2, .inl (T.2 0, 3, .inl (upd fk 0 (if (fk 0) < 2 then 2 else (fk 0))))), (a3_3, .inl (T.2 3, 2, .inr (.inr (.inr (.inr q1_6))))), (a4_4, .inl (T.2 4, 2, .inr (.inr (.inr (.inr q2_7))))), (a5_5, .inl (T.2 5, 2, .inr (.inr (.inr (.inr q3_8)))))], [(rd, .inr (7, [.ref rl, .ref rdd, .ref rg, .int r0, .int r1, .ref tp, .int r2, .int r3, .int r4, .int r5, .int r6, .int r7, .int r8]))], w2_15, z] _ _ := G.re rfl
  have G := G.sub (bs' := [[(t, .inr (8, [.ref a1_1, .int ln, .int fl, .int pl, .ref a2_2, .ref a3_3, .ref a4_4, .ref a5_5])), (a1_1, .inl (T.2 1, 600, .inl ft)), (a2_2, .inl (T.2 0, 3, .inl (upd fk 0 (if (fk 0) < 2 then 2 else (fk 0))))), (a3_3, .inl (T.2 3, 2, .inr (.inr (.inr (.inr q1_6))))), (a4_4, .inl (T.2 4, 2, .inr (.inr (.inr (.inr q2_7))))), (a5_5, .inl (T.2 5, 2, .inr (.inr (.inr (.inr q3_8)))))], w2_15, [(rd, .inr (7, [.ref rl, .ref rdd, .ref rg, .int r0, .int r1, .ref tp, .int r2, .int r3, .int r4, .int r5, .int r6, .int r7, .int r8]))], z]) [0, 2, 1, 3] rfl
  exact z_vret C hr hlocks G (Nat.le_of_ble_eq_true rfl) (Nat.le_of_ble_eq_true rfl) dX9_keep_91 ⟨([(t, .inr (8, [.ref a1_1, .int ln, .int fl, .int pl, .ref a2_2, .ref a3_3, .ref a4_4, .ref a5_5])), (a1_1, .inl (T.2 1, 600, .inl ft)), (a2_2, .inl (T.2 0, 3, .inl (upd fk 0 (if (fk 0) < 2 then 2 else (fk 0))))), (a3_3, .inl (T.2 3, 2, .inr (.inr (.inr (.inr q1_6))))), (a4_4, .inl (T.2 4, 2, .inr (.inr (.inr (.inr q2_7))))), (a5_5, .inl (T.2 5, 2, .inr (.inr (.inr (.inr q3_8)))))]), (upd fk 0 (if (fk 0) < 2 then 2 else (fk 0))), w2_15, g1_16, g2_17, g3_18, g4_19, rfl, hw_29, h_20, (zKT_upd hK 0 (z_maxK (hK 0 (by decide)) (by decide))), (zLI_eq hI h_21 h_23)⟩
set_option maxHeartbeats 4000000 in
set_option maxRecDepth 100000 in
/-- c_keep_10 -/
theorem c_keep_10 (l : Launch) (T : zTy) (t : Nat) (l0 : Nat) (l1 : Nat) (d0 : Nat) (d1 : Nat) (g0 : Nat) (g1 : Nat) (ln : Int32) (fl : Int32) (pl : Int32) (ft : Nat → Int32) (fk : Nat → Int32) (wt : va_W) (dd0_ : Int32) (p10_ : Nat → Int32) (p20_ : Nat → Int32) (p30_ : Nat → Int32) (wd0_ : va_W) (rd : Nat) (rl : Nat) (rdd : Nat) (rg : Nat) (tp : Nat) (r0 : Int32) (r1 : Int32) (r2 : Int32) (r3 : Int32) (r4 : Int32) (r5 : Int32) (r6 : Int32) (r7 : Int32) (r8 : Int32) (dd : Int32) (v1 : Nat → Int32) (v2 : Nat → Int32) (v3 : Nat → Int32) (wd : va_W) (ht : bTold T t l0 l1 d0 d1 g0 g1 ln fl pl ft fk wt) (hK : zKT fk) (hd0_ : bDay T d0 dd0_ p10_ p20_ p30_ wd0_) (hd : bDay T rdd dd v1 v2 v3 wd) : zMv l T yX9_keep cX9_keep 4 2 0 0 [.ref t, .int 1, .int 0, .ref rd] [wt, wd0_, [(rd, .inr (7, [.ref rl, .ref rdd, .ref rg, .int r0, .int r1, .ref tp, .int r2, .int r3, .int r4, .int r5, .int r6, .int r7, .int r8]))], wd] (fun bs => ∃ (wt2 : va_W) (fk2 : Nat → Int32) (w2_ : va_W) (s1 : Nat → Int32) (s2 : Nat → Int32) (s3 : Nat → Int32), bs = [wt2, w2_, [(rd, .inr (7, [.ref rl, .ref rdd, .ref rg, .int r0, .int r1, .ref tp, .int r2, .int r3, .int r4, .int r5, .int r6, .int r7, .int r8]))], wd] ∧ bTold T t l0 l1 d0 d1 g0 g1 ln fl pl ft fk2 wt2 ∧ bDay T d0 dd s1 s2 s3 w2_ ∧ zKT fk2) := by
  refine zMv_of (own := RX9) (by decide) rfl (Nat.le_of_ble_eq_true rfl) ?_
  intro p e s m args below meth c A ls C hr hlocks hnm hAe G hl
  have hx := C.1
  have hb := C.2.1
  have hl : lv_has ls 4 [(0, .ref t), (1, .int 1), (2, .int 0), (3, .ref rd)] := hl
  refine lv_iload_n hx hb dX9_keep_0 rfl (lv_at hl 1 rfl) ?_
  refine lv_if_lt (tgt := 18) hx hb dX9_keep_1 (by decide) (fun q => absurd q (by decide)) (fun _ => ?_)
  refine lv_iload_n hx hb dX9_keep_4 rfl (lv_at hl 1 rfl) ?_
  refine lv_iconst (v := 2) hx hb dX9_keep_5 (by decide) ?_
  refine lv_icmp_gt (tgt := 18) hx hb dX9_keep_6 (by decide) (fun q => absurd q (by decide)) (fun _ => ?_)
  refine lv_iload_n hx hb dX9_keep_9 rfl (lv_at hl 2 rfl) ?_
  refine lv_if_lt (tgt := 18) hx hb dX9_keep_10 (by decide) (fun q => absurd q (by decide)) (fun _ => ?_)
  refine lv_iload_n hx hb dX9_keep_13 rfl (lv_at hl 2 rfl) ?_
  refine lv_iconst (v := 2) hx hb dX9_keep_14 (by decide) ?_
  refine lv_icmp_lt (tgt := 19) hx hb dX9_keep_15 (by decide) (fun _ => ?_) (fun q => absurd (by decide) q)
  refine lv_iload_n hx hb dX9_keep_19 rfl (lv_at hl 1 rfl) ?_
  refine lv_if_ne (tgt := 39) hx hb dX9_keep_20 (by decide) (fun _ => ?_) (fun q => absurd q (by decide))
  refine lv_iload_n hx hb dX9_keep_39 rfl (lv_at hl 1 rfl) ?_
  refine lv_iconst (v := 1) hx hb dX9_keep_40 (by decide) ?_
  refine lv_icmp_ne (tgt := 60) hx hb dX9_keep_41 (by decide) (fun q => absurd (by decide) q) (fun _ => ?_)
  refine lv_aload_n hx hb dX9_keep_44 rfl (lv_at hl 0 rfl) ?_
  obtain ⟨a1_1, a2_2, a3_3, a4_4, a5_5, q1_6, q2_7, q3_8, rfl, h_9, h_10, h_11, h_12, h_13, h_14⟩ := ht
  have G : zS T A s.heap s [[(t, .inr (8, [.ref a1_1, .int ln, .int fl, .int pl, .ref a2_2, .ref a3_3, .ref a4_4, .ref a5_5]))], [(a1_1, .inl (T.2 1, 600, .inl ft))], [(a2_2, .inl (T.2 0, 3, .inl fk))], [(a3_3, .inl (T.2 3, 2, .inr (.inr (.inr (.inr q1_6)))))], [(a4_4, .inl (T.2 4, 2, .inr (.inr (.inr (.inr q2_7)))))], [(a5_5, .inl (T.2 5, 2, .inr (.inr (.inr (.inr q3_8)))))], wd0_, [(rd, .inr (7, [.ref rl, .ref rdd, .ref rg, .int r0, .int r1, .ref tp, .int r2, .int r3, .int r4, .int r5, .int r6, .int r7, .int r8]))], wd] _ _ := G.re rfl
  refine z_get C G clX9 0 rfl 6 (by decide) m_fl_RX9_33 rfl dX9_keep_45 ?_
  refine lv_iload_n hx hb dX9_keep_48 rfl (lv_at hl 2 rfl) ?_
  refine z_ald C G 4 4 rfl rfl (vp_in_nI (n := 0) (by decide) (by decide)) dX9_keep_49 ?_
  rw [show q2_7 ((0 : Int32).toNatClampNeg) = some d0 from h_11]
  refine lv_aload_n hx hb dX9_keep_50 rfl (lv_at hl 3 rfl) ?_
  refine z_get C G clX7 7 rfl 1 (by decide) m_fl_RX9_57 rfl dX9_keep_51 ?_
  refine z_Vv (bc := [wd0_, wd]) (br := [[(t, .inr (8, [.ref a1_1, .int ln, .int fl, .int pl, .ref a2_2, .ref a3_3, .ref a4_4, .ref a5_5]))], [(a1_1, .inl (T.2 1, 600, .inl ft))], [(a2_2, .inl (T.2 0, 3, .inl fk))], [(a3_3, .inl (T.2 3, 2, .inr (.inr (.inr (.inr q1_6)))))], [(a4_4, .inl (T.2 4, 2, .inr (.inr (.inr (.inr q2_7)))))], [(a5_5, .inl (T.2 5, 2, .inr (.inr (.inr (.inr q3_8)))))], [(rd, .inr (7, [.ref rl, .ref rdd, .ref rg, .int r0, .int r1, .ref tp, .int r2, .int r3, .int r4, .int r5, .int r6, .int r7, .int r8]))]]) (As := [.ref rdd]) (rest := []) C G (c_Day_takeAll l T d0 rdd dd0_ p10_ p20_ p30_ dd v1 v2 v3 wd0_ wd hd0_ hd) (kV_RX9_61 C.2.2.2.2 (Nat.le_of_ble_eq_true rfl) (Nat.le_of_ble_eq_true rfl)) [6, 8] [0, 1, 2, 3, 4, 5, 7] rfl rfl (ci := 2) (qc := (RX2, TX2, 4)) rfl rfl (List.mem_flatten.mpr ⟨_, List.mem_of_getElem? (i := 0) rfl, (bDay_mem hd0_).choose_spec⟩) rfl rfl hl.1 dX9_keep_54 (Nat.le_of_ble_eq_true rfl) (Nat.le_of_ble_eq_true rfl) (fun b1 H locs hw G => ?_)
  obtain ⟨w2_15, g1_16, g2_17, g3_18, rfl, h_19, h_20, h_21, h_22⟩ := hw
  have G : zS T A s.heap s [[(t, .inr (8, [.ref a1_1, .int ln, .int fl, .int pl, .ref a2_2, .ref a3_3, .ref a4_4, .ref a5_5]))], [(a1_1, .inl (T.2 1, 600, .inl ft))], [(a2_2, .inl (T.2 0, 3, .inl fk))], [(a3_3, .inl (T.2 3, 2, .inr (.inr (.inr (.inr q1_6)))))], [(a4_4, .inl (T.2 4, 2, .inr (.inr (.inr (.inr q2_7)))))], [(a5_5, .inl (T.2 5, 2, .inr (.inr (.inr (.inr q3_8)))))], [(rd, .inr (7, [.ref rl, .ref rdd, .ref rg, .int r0, .int r1, .ref tp, .int r2, .int r3, .int r4, .int r5, .int r6, .int r7, .int r8]))], w2_15, wd] _ _ := G
  refine lv_goto (tgt := 73) hx hb dX9_keep_57 (by decide) ?_
  refine lv_aload_n hx hb dX9_keep_73 rfl (lv_at hl 0 rfl) ?_
  refine z_get C G clX9 0 rfl 4 (by decide) m_fl_RX9_19 rfl dX9_keep_74 ?_
  refine lv_iload_n hx hb dX9_keep_77 rfl (lv_at hl 1 rfl) ?_
  refine lv_aload_n hx hb dX9_keep_78 rfl (lv_at hl 0 rfl) ?_
  refine z_get C G clX9 0 rfl 4 (by decide) m_fl_RX9_19 rfl dX9_keep_79 ?_
  refine lv_iload_n hx hb dX9_keep_82 rfl (lv_at hl 1 rfl) ?_
  refine z_ild C G 2 rfl (vp_in_nI (n := 1) (by decide) (by decide)) dX9_keep_83 ?_
  refine lv_topi (fun v_24 ev_24 => ?_)
  rw [show ((1 : Int32).toNatClampNeg) = 1 from rfl] at ev_24
  subst ev_24
  refine lv_iload_n hx hb dX9_keep_84 rfl (lv_at hl 2 rfl) ?_
  refine lv_iconst (v := 1) hx hb dX9_keep_85 (by decide) ?_
  refine lv_iadd hx hb dX9_keep_86 ?_
  refine lv_topi (fun y_25 ey_25 => ?_)
  obtain rfl : y_25 = 1 := ey_25.trans (by decide)
  refine va_mmax hx hb (C.2.2.1.trans hl.1.symm) C.2.2.2.1 (C.2.2.2.2 _ m_ml_RX9_71) (C.2.2.2.2 _ m_st_math_max) (C.2.2.2.2 _ m_ii_math) (C.2.2.2.2 _ m_co_math_max) (Nat.le_of_ble_eq_true rfl) (Nat.le_of_ble_eq_true rfl) (Nat.le_of_ble_eq_true rfl) (Nat.le_of_ble_eq_true rfl) dX9_keep_87 ?_
  refine lv_topi (fun v_26 ev_26 => ?_)
  subst ev_26
  refine z_ist C G 2 rfl (vp_in_nI (n := 1) (by decide) (by decide)) dX9_keep_90 (fun H locs G => ?_)
  have G : zS T A s.heap s [[(t, .inr (8, [.ref a1_1, .int ln, .int fl, .int pl, .ref a2_2, .ref a3_3, .ref a4_4, .ref a5_5]))], [(a1_1, .inl (T.2 1, 600, .inl ft))], [(a2_2, .inl (T.2 0, 3, .inl (upd fk 1 (if (fk 1) < 1 then 1 else (fk 1)))))], [(a3_3, .inl (T.2 3, 2, .inr (.inr (.inr (.inr q1_6)))))], [(a4_4, .inl (T.2 4, 2, .inr (.inr (.inr (.inr q2_7)))))], [(a5_5, .inl (T.2 5, 2, .inr (.inr (.inr (.inr q3_8)))))], [(rd, .inr (7, [.ref rl, .ref rdd, .ref rg, .int r0, .int r1, .ref tp, .int r2, .int r3, .int r4, .int r5, .int r6, .int r7, .int r8]))], w2_15, wd] _ _ := G
  have hw_27 : bTold T t l0 l1 d0 d1 g0 g1 ln fl pl ft (upd fk 1 (if (fk 1) < 1 then 1 else (fk 1))) [(t, .inr (8, [.ref a1_1, .int ln, .int fl, .int pl, .ref a2_2, .ref a3_3, .ref a4_4, .ref a5_5])), (a1_1, .inl (T.2 1, 600, .inl ft)), (a2_2, .inl (T.2 0, 3, .inl (upd fk 1 (if (fk 1) < 1 then 1 else (fk 1))))), (a3_3, .inl (T.2 3, 2, .inr (.inr (.inr (.inr q1_6))))), (a4_4, .inl (T.2 4, 2, .inr (.inr (.inr (.inr q2_7))))), (a5_5, .inl (T.2 5, 2, .inr (.inr (.inr (.inr q3_8)))))] := ⟨a1_1, a2_2, a3_3, a4_4, a5_5, q1_6, q2_7, q3_8, rfl, h_9, h_10, h_11, h_12, h_13, h_14⟩
  have G : zS T A s.heap s [[(t, .inr (8, [.ref a1_1, .int ln, .int fl, .int pl, .ref a2_2, .ref a3_3, .ref a4_4, .ref a5_5])), (a1_1, .inl (T.2 1, 600, .inl ft)), (a2_2, .inl (T.2 0, 3, .inl (upd fk 1 (if (fk 1) < 1 then 1 else (fk 1))))), (a3_3, .inl (T.2 3, 2, .inr (.inr (.inr (.inr q1_6))))), (a4_4, .inl (T.2 4, 2, .inr (.inr (.inr (.inr q2_7))))), (a5_5, .inl (T.2 5, 2, .inr (.inr (.inr (.inr q3_8)))))], [(rd, .inr (7, [.ref rl, .ref rdd, .ref rg, .int r0, .int r1, .ref tp, .int r2, .int r3, .int r4, .int r5, .int r6, .int r7, .int r8]))], w2_15, wd] _ _ := G.re rfl
  have G := G.sub (bs' := [[(t, .inr (8, [.ref a1_1, .int ln, .int fl, .int pl, .ref a2_2, .ref a3_3, .ref a4_4, .ref a5_5])), (a1_1, .inl (T.2 1, 600, .inl ft)), (a2_2, .inl (T.2 0, 3, .inl (upd fk 1 (if (fk 1) < 1 then 1 else (fk 1))))), (a3_3, .inl (T.2 3, 2, .inr (.inr (.inr (.inr q1_6))))), (a4_4, .inl (T.2 4, 2, .inr (.inr (.inr (.inr q2_7))))), (a5_5, .inl (T.2 5, 2, .inr (.inr (.inr (.inr q3_8)))))], w2_15, [(rd, .inr (7, [.ref rl, .ref rdd, .ref rg, .int r0, .int r1, .ref tp, .int r2, .int r3, .int r4, .int r5, .int r6, .int r7, .int r8]))], wd]) [0, 2, 1, 3] rfl
  exact z_vret C hr hlocks G (Nat.le_of_ble_eq_true rfl) (Nat.le_of_ble_eq_true rfl) dX9_keep_91 ⟨([(t, .inr (8, [.ref a1_1, .int ln, .int fl, .int pl, .ref a2_2, .ref a3_3, .ref a4_4, .ref a5_5])), (a1_1, .inl (T.2 1, 600, .inl ft)), (a2_2, .inl (T.2 0, 3, .inl (upd fk 1 (if (fk 1) < 1 then 1 else (fk 1))))), (a3_3, .inl (T.2 3, 2, .inr (.inr (.inr (.inr q1_6))))), (a4_4, .inl (T.2 4, 2, .inr (.inr (.inr (.inr q2_7))))), (a5_5, .inl (T.2 5, 2, .inr (.inr (.inr (.inr q3_8)))))]), (upd fk 1 (if (fk 1) < 1 then 1 else (fk 1))), w2_15, g1_16, g2_17, g3_18, rfl, hw_27, h_19, (zKT_upd hK 1 (z_maxK (hK 1 (by decide)) (by decide)))⟩
set_option maxHeartbeats 4000000 in
set_option maxRecDepth 100000 in
/-- c_keep_11 -/
theorem c_keep_11 (l : Launch) (T : zTy) (t : Nat) (l0 : Nat) (l1 : Nat) (d0 : Nat) (d1 : Nat) (g0 : Nat) (g1 : Nat) (ln : Int32) (fl : Int32) (pl : Int32) (ft : Nat → Int32) (fk : Nat → Int32) (wt : va_W) (dd1_ : Int32) (p11_ : Nat → Int32) (p21_ : Nat → Int32) (p31_ : Nat → Int32) (wd1_ : va_W) (rd : Nat) (rl : Nat) (rdd : Nat) (rg : Nat) (tp : Nat) (r0 : Int32) (r1 : Int32) (r2 : Int32) (r3 : Int32) (r4 : Int32) (r5 : Int32) (r6 : Int32) (r7 : Int32) (r8 : Int32) (dd : Int32) (v1 : Nat → Int32) (v2 : Nat → Int32) (v3 : Nat → Int32) (wd : va_W) (ht : bTold T t l0 l1 d0 d1 g0 g1 ln fl pl ft fk wt) (hK : zKT fk) (hd1_ : bDay T d1 dd1_ p11_ p21_ p31_ wd1_) (hd : bDay T rdd dd v1 v2 v3 wd) : zMv l T yX9_keep cX9_keep 4 2 0 0 [.ref t, .int 1, .int 1, .ref rd] [wt, wd1_, [(rd, .inr (7, [.ref rl, .ref rdd, .ref rg, .int r0, .int r1, .ref tp, .int r2, .int r3, .int r4, .int r5, .int r6, .int r7, .int r8]))], wd] (fun bs => ∃ (wt2 : va_W) (fk2 : Nat → Int32) (w2_ : va_W) (s1 : Nat → Int32) (s2 : Nat → Int32) (s3 : Nat → Int32), bs = [wt2, w2_, [(rd, .inr (7, [.ref rl, .ref rdd, .ref rg, .int r0, .int r1, .ref tp, .int r2, .int r3, .int r4, .int r5, .int r6, .int r7, .int r8]))], wd] ∧ bTold T t l0 l1 d0 d1 g0 g1 ln fl pl ft fk2 wt2 ∧ bDay T d1 dd s1 s2 s3 w2_ ∧ zKT fk2) := by
  refine zMv_of (own := RX9) (by decide) rfl (Nat.le_of_ble_eq_true rfl) ?_
  intro p e s m args below meth c A ls C hr hlocks hnm hAe G hl
  have hx := C.1
  have hb := C.2.1
  have hl : lv_has ls 4 [(0, .ref t), (1, .int 1), (2, .int 1), (3, .ref rd)] := hl
  refine lv_iload_n hx hb dX9_keep_0 rfl (lv_at hl 1 rfl) ?_
  refine lv_if_lt (tgt := 18) hx hb dX9_keep_1 (by decide) (fun q => absurd q (by decide)) (fun _ => ?_)
  refine lv_iload_n hx hb dX9_keep_4 rfl (lv_at hl 1 rfl) ?_
  refine lv_iconst (v := 2) hx hb dX9_keep_5 (by decide) ?_
  refine lv_icmp_gt (tgt := 18) hx hb dX9_keep_6 (by decide) (fun q => absurd q (by decide)) (fun _ => ?_)
  refine lv_iload_n hx hb dX9_keep_9 rfl (lv_at hl 2 rfl) ?_
  refine lv_if_lt (tgt := 18) hx hb dX9_keep_10 (by decide) (fun q => absurd q (by decide)) (fun _ => ?_)
  refine lv_iload_n hx hb dX9_keep_13 rfl (lv_at hl 2 rfl) ?_
  refine lv_iconst (v := 2) hx hb dX9_keep_14 (by decide) ?_
  refine lv_icmp_lt (tgt := 19) hx hb dX9_keep_15 (by decide) (fun _ => ?_) (fun q => absurd (by decide) q)
  refine lv_iload_n hx hb dX9_keep_19 rfl (lv_at hl 1 rfl) ?_
  refine lv_if_ne (tgt := 39) hx hb dX9_keep_20 (by decide) (fun _ => ?_) (fun q => absurd q (by decide))
  refine lv_iload_n hx hb dX9_keep_39 rfl (lv_at hl 1 rfl) ?_
  refine lv_iconst (v := 1) hx hb dX9_keep_40 (by decide) ?_
  refine lv_icmp_ne (tgt := 60) hx hb dX9_keep_41 (by decide) (fun q => absurd (by decide) q) (fun _ => ?_)
  refine lv_aload_n hx hb dX9_keep_44 rfl (lv_at hl 0 rfl) ?_
  obtain ⟨a1_1, a2_2, a3_3, a4_4, a5_5, q1_6, q2_7, q3_8, rfl, h_9, h_10, h_11, h_12, h_13, h_14⟩ := ht
  have G : zS T A s.heap s [[(t, .inr (8, [.ref a1_1, .int ln, .int fl, .int pl, .ref a2_2, .ref a3_3, .ref a4_4, .ref a5_5]))], [(a1_1, .inl (T.2 1, 600, .inl ft))], [(a2_2, .inl (T.2 0, 3, .inl fk))], [(a3_3, .inl (T.2 3, 2, .inr (.inr (.inr (.inr q1_6)))))], [(a4_4, .inl (T.2 4, 2, .inr (.inr (.inr (.inr q2_7)))))], [(a5_5, .inl (T.2 5, 2, .inr (.inr (.inr (.inr q3_8)))))], wd1_, [(rd, .inr (7, [.ref rl, .ref rdd, .ref rg, .int r0, .int r1, .ref tp, .int r2, .int r3, .int r4, .int r5, .int r6, .int r7, .int r8]))], wd] _ _ := G.re rfl
  refine z_get C G clX9 0 rfl 6 (by decide) m_fl_RX9_33 rfl dX9_keep_45 ?_
  refine lv_iload_n hx hb dX9_keep_48 rfl (lv_at hl 2 rfl) ?_
  refine z_ald C G 4 4 rfl rfl (vp_in_nI (n := 1) (by decide) (by decide)) dX9_keep_49 ?_
  rw [show q2_7 ((1 : Int32).toNatClampNeg) = some d1 from h_12]
  refine lv_aload_n hx hb dX9_keep_50 rfl (lv_at hl 3 rfl) ?_
  refine z_get C G clX7 7 rfl 1 (by decide) m_fl_RX9_57 rfl dX9_keep_51 ?_
  refine z_Vv (bc := [wd1_, wd]) (br := [[(t, .inr (8, [.ref a1_1, .int ln, .int fl, .int pl, .ref a2_2, .ref a3_3, .ref a4_4, .ref a5_5]))], [(a1_1, .inl (T.2 1, 600, .inl ft))], [(a2_2, .inl (T.2 0, 3, .inl fk))], [(a3_3, .inl (T.2 3, 2, .inr (.inr (.inr (.inr q1_6)))))], [(a4_4, .inl (T.2 4, 2, .inr (.inr (.inr (.inr q2_7)))))], [(a5_5, .inl (T.2 5, 2, .inr (.inr (.inr (.inr q3_8)))))], [(rd, .inr (7, [.ref rl, .ref rdd, .ref rg, .int r0, .int r1, .ref tp, .int r2, .int r3, .int r4, .int r5, .int r6, .int r7, .int r8]))]]) (As := [.ref rdd]) (rest := []) C G (c_Day_takeAll l T d1 rdd dd1_ p11_ p21_ p31_ dd v1 v2 v3 wd1_ wd hd1_ hd) (kV_RX9_61 C.2.2.2.2 (Nat.le_of_ble_eq_true rfl) (Nat.le_of_ble_eq_true rfl)) [6, 8] [0, 1, 2, 3, 4, 5, 7] rfl rfl (ci := 2) (qc := (RX2, TX2, 4)) rfl rfl (List.mem_flatten.mpr ⟨_, List.mem_of_getElem? (i := 0) rfl, (bDay_mem hd1_).choose_spec⟩) rfl rfl hl.1 dX9_keep_54 (Nat.le_of_ble_eq_true rfl) (Nat.le_of_ble_eq_true rfl) (fun b1 H locs hw G => ?_)
  obtain ⟨w2_15, g1_16, g2_17, g3_18, rfl, h_19, h_20, h_21, h_22⟩ := hw
  have G : zS T A s.heap s [[(t, .inr (8, [.ref a1_1, .int ln, .int fl, .int pl, .ref a2_2, .ref a3_3, .ref a4_4, .ref a5_5]))], [(a1_1, .inl (T.2 1, 600, .inl ft))], [(a2_2, .inl (T.2 0, 3, .inl fk))], [(a3_3, .inl (T.2 3, 2, .inr (.inr (.inr (.inr q1_6)))))], [(a4_4, .inl (T.2 4, 2, .inr (.inr (.inr (.inr q2_7)))))], [(a5_5, .inl (T.2 5, 2, .inr (.inr (.inr (.inr q3_8)))))], [(rd, .inr (7, [.ref rl, .ref rdd, .ref rg, .int r0, .int r1, .ref tp, .int r2, .int r3, .int r4, .int r5, .int r6, .int r7, .int r8]))], w2_15, wd] _ _ := G
  refine lv_goto (tgt := 73) hx hb dX9_keep_57 (by decide) ?_
  refine lv_aload_n hx hb dX9_keep_73 rfl (lv_at hl 0 rfl) ?_
  refine z_get C G clX9 0 rfl 4 (by decide) m_fl_RX9_19 rfl dX9_keep_74 ?_
  refine lv_iload_n hx hb dX9_keep_77 rfl (lv_at hl 1 rfl) ?_
  refine lv_aload_n hx hb dX9_keep_78 rfl (lv_at hl 0 rfl) ?_
  refine z_get C G clX9 0 rfl 4 (by decide) m_fl_RX9_19 rfl dX9_keep_79 ?_
  refine lv_iload_n hx hb dX9_keep_82 rfl (lv_at hl 1 rfl) ?_
  refine z_ild C G 2 rfl (vp_in_nI (n := 1) (by decide) (by decide)) dX9_keep_83 ?_
  refine lv_topi (fun v_24 ev_24 => ?_)
  rw [show ((1 : Int32).toNatClampNeg) = 1 from rfl] at ev_24
  subst ev_24
  refine lv_iload_n hx hb dX9_keep_84 rfl (lv_at hl 2 rfl) ?_
  refine lv_iconst (v := 1) hx hb dX9_keep_85 (by decide) ?_
  refine lv_iadd hx hb dX9_keep_86 ?_
  refine lv_topi (fun y_25 ey_25 => ?_)
  obtain rfl : y_25 = 2 := ey_25.trans (by decide)
  refine va_mmax hx hb (C.2.2.1.trans hl.1.symm) C.2.2.2.1 (C.2.2.2.2 _ m_ml_RX9_71) (C.2.2.2.2 _ m_st_math_max) (C.2.2.2.2 _ m_ii_math) (C.2.2.2.2 _ m_co_math_max) (Nat.le_of_ble_eq_true rfl) (Nat.le_of_ble_eq_true rfl) (Nat.le_of_ble_eq_true rfl) (Nat.le_of_ble_eq_true rfl) dX9_keep_87 ?_
  refine lv_topi (fun v_26 ev_26 => ?_)
  subst ev_26
  refine z_ist C G 2 rfl (vp_in_nI (n := 1) (by decide) (by decide)) dX9_keep_90 (fun H locs G => ?_)
  have G : zS T A s.heap s [[(t, .inr (8, [.ref a1_1, .int ln, .int fl, .int pl, .ref a2_2, .ref a3_3, .ref a4_4, .ref a5_5]))], [(a1_1, .inl (T.2 1, 600, .inl ft))], [(a2_2, .inl (T.2 0, 3, .inl (upd fk 1 (if (fk 1) < 2 then 2 else (fk 1)))))], [(a3_3, .inl (T.2 3, 2, .inr (.inr (.inr (.inr q1_6)))))], [(a4_4, .inl (T.2 4, 2, .inr (.inr (.inr (.inr q2_7)))))], [(a5_5, .inl (T.2 5, 2, .inr (.inr (.inr (.inr q3_8)))))], [(rd, .inr (7, [.ref rl, .ref rdd, .ref rg, .int r0, .int r1, .ref tp, .int r2, .int r3, .int r4, .int r5, .int r6, .int r7, .int r8]))], w2_15, wd] _ _ := G
  have hw_27 : bTold T t l0 l1 d0 d1 g0 g1 ln fl pl ft (upd fk 1 (if (fk 1) < 2 then 2 else (fk 1))) [(t, .inr (8, [.ref a1_1, .int ln, .int fl, .int pl, .ref a2_2, .ref a3_3, .ref a4_4, .ref a5_5])), (a1_1, .inl (T.2 1, 600, .inl ft)), (a2_2, .inl (T.2 0, 3, .inl (upd fk 1 (if (fk 1) < 2 then 2 else (fk 1))))), (a3_3, .inl (T.2 3, 2, .inr (.inr (.inr (.inr q1_6))))), (a4_4, .inl (T.2 4, 2, .inr (.inr (.inr (.inr q2_7))))), (a5_5, .inl (T.2 5, 2, .inr (.inr (.inr (.inr q3_8)))))] := ⟨a1_1, a2_2, a3_3, a4_4, a5_5, q1_6, q2_7, q3_8, rfl, h_9, h_10, h_11, h_12, h_13, h_14⟩
  have G : zS T A s.heap s [[(t, .inr (8, [.ref a1_1, .int ln, .int fl, .int pl, .ref a2_2, .ref a3_3, .ref a4_4, .ref a5_5])), (a1_1, .inl (T.2 1, 600, .inl ft)), (a2_2, .inl (T.2 0, 3, .inl (upd fk 1 (if (fk 1) < 2 then 2 else (fk 1))))), (a3_3, .inl (T.2 3, 2, .inr (.inr (.inr (.inr q1_6))))), (a4_4, .inl (T.2 4, 2, .inr (.inr (.inr (.inr q2_7))))), (a5_5, .inl (T.2 5, 2, .inr (.inr (.inr (.inr q3_8)))))], [(rd, .inr (7, [.ref rl, .ref rdd, .ref rg, .int r0, .int r1, .ref tp, .int r2, .int r3, .int r4, .int r5, .int r6, .int r7, .int r8]))], w2_15, wd] _ _ := G.re rfl
  have G := G.sub (bs' := [[(t, .inr (8, [.ref a1_1, .int ln, .int fl, .int pl, .ref a2_2, .ref a3_3, .ref a4_4, .ref a5_5])), (a1_1, .inl (T.2 1, 600, .inl ft)), (a2_2, .inl (T.2 0, 3, .inl (upd fk 1 (if (fk 1) < 2 then 2 else (fk 1))))), (a3_3, .inl (T.2 3, 2, .inr (.inr (.inr (.inr q1_6))))), (a4_4, .inl (T.2 4, 2, .inr (.inr (.inr (.inr q2_7))))), (a5_5, .inl (T.2 5, 2, .inr (.inr (.inr (.inr q3_8)))))], w2_15, [(rd, .inr (7, [.ref rl, .ref rdd, .ref rg, .int r0, .int r1, .ref tp, .int r2, .int r3, .int r4, .int r5, .int r6, .int r7, .int r8]))], wd]) [0, 2, 1, 3] rfl
  exact z_vret C hr hlocks G (Nat.le_of_ble_eq_true rfl) (Nat.le_of_ble_eq_true rfl) dX9_keep_91 ⟨([(t, .inr (8, [.ref a1_1, .int ln, .int fl, .int pl, .ref a2_2, .ref a3_3, .ref a4_4, .ref a5_5])), (a1_1, .inl (T.2 1, 600, .inl ft)), (a2_2, .inl (T.2 0, 3, .inl (upd fk 1 (if (fk 1) < 2 then 2 else (fk 1))))), (a3_3, .inl (T.2 3, 2, .inr (.inr (.inr (.inr q1_6))))), (a4_4, .inl (T.2 4, 2, .inr (.inr (.inr (.inr q2_7))))), (a5_5, .inl (T.2 5, 2, .inr (.inr (.inr (.inr q3_8)))))]), (upd fk 1 (if (fk 1) < 2 then 2 else (fk 1))), w2_15, g1_16, g2_17, g3_18, rfl, hw_27, h_19, (zKT_upd hK 1 (z_maxK (hK 1 (by decide)) (by decide)))⟩
set_option maxHeartbeats 4000000 in
set_option maxRecDepth 100000 in
/-- c_keep_20 -/
theorem c_keep_20 (l : Launch) (T : zTy) (t : Nat) (l0 : Nat) (l1 : Nat) (d0 : Nat) (d1 : Nat) (g0 : Nat) (g1 : Nat) (ln : Int32) (fl : Int32) (pl : Int32) (ft : Nat → Int32) (fk : Nat → Int32) (wt : va_W) (gg0_ : Int32) (q10_ : Nat → Int32) (q20_ : Nat → Int32) (wg0_ : va_W) (rd : Nat) (rl : Nat) (rdd : Nat) (rg : Nat) (tp : Nat) (r0 : Int32) (r1 : Int32) (r2 : Int32) (r3 : Int32) (r4 : Int32) (r5 : Int32) (r6 : Int32) (r7 : Int32) (r8 : Int32) (gg : Int32) (e1 : Nat → Int32) (e2 : Nat → Int32) (wg : va_W) (ht : bTold T t l0 l1 d0 d1 g0 g1 ln fl pl ft fk wt) (hK : zKT fk) (hg0_ : bLog T g0 gg0_ q10_ q20_ wg0_) (hg : bLog T rg gg e1 e2 wg) : zMv l T yX9_keep cX9_keep 4 2 0 0 [.ref t, .int 2, .int 0, .ref rd] [wt, wg0_, [(rd, .inr (7, [.ref rl, .ref rdd, .ref rg, .int r0, .int r1, .ref tp, .int r2, .int r3, .int r4, .int r5, .int r6, .int r7, .int r8]))], wg] (fun bs => ∃ (wt2 : va_W) (fk2 : Nat → Int32) (w2_ : va_W) (s1 : Nat → Int32) (s2 : Nat → Int32), bs = [wt2, w2_, [(rd, .inr (7, [.ref rl, .ref rdd, .ref rg, .int r0, .int r1, .ref tp, .int r2, .int r3, .int r4, .int r5, .int r6, .int r7, .int r8]))], wg] ∧ bTold T t l0 l1 d0 d1 g0 g1 ln fl pl ft fk2 wt2 ∧ bLog T g0 gg s1 s2 w2_ ∧ zKT fk2) := by
  refine zMv_of (own := RX9) (by decide) rfl (Nat.le_of_ble_eq_true rfl) ?_
  intro p e s m args below meth c A ls C hr hlocks hnm hAe G hl
  have hx := C.1
  have hb := C.2.1
  have hl : lv_has ls 4 [(0, .ref t), (1, .int 2), (2, .int 0), (3, .ref rd)] := hl
  refine lv_iload_n hx hb dX9_keep_0 rfl (lv_at hl 1 rfl) ?_
  refine lv_if_lt (tgt := 18) hx hb dX9_keep_1 (by decide) (fun q => absurd q (by decide)) (fun _ => ?_)
  refine lv_iload_n hx hb dX9_keep_4 rfl (lv_at hl 1 rfl) ?_
  refine lv_iconst (v := 2) hx hb dX9_keep_5 (by decide) ?_
  refine lv_icmp_gt (tgt := 18) hx hb dX9_keep_6 (by decide) (fun q => absurd q (by decide)) (fun _ => ?_)
  refine lv_iload_n hx hb dX9_keep_9 rfl (lv_at hl 2 rfl) ?_
  refine lv_if_lt (tgt := 18) hx hb dX9_keep_10 (by decide) (fun q => absurd q (by decide)) (fun _ => ?_)
  refine lv_iload_n hx hb dX9_keep_13 rfl (lv_at hl 2 rfl) ?_
  refine lv_iconst (v := 2) hx hb dX9_keep_14 (by decide) ?_
  refine lv_icmp_lt (tgt := 19) hx hb dX9_keep_15 (by decide) (fun _ => ?_) (fun q => absurd (by decide) q)
  refine lv_iload_n hx hb dX9_keep_19 rfl (lv_at hl 1 rfl) ?_
  refine lv_if_ne (tgt := 39) hx hb dX9_keep_20 (by decide) (fun _ => ?_) (fun q => absurd q (by decide))
  refine lv_iload_n hx hb dX9_keep_39 rfl (lv_at hl 1 rfl) ?_
  refine lv_iconst (v := 1) hx hb dX9_keep_40 (by decide) ?_
  refine lv_icmp_ne (tgt := 60) hx hb dX9_keep_41 (by decide) (fun _ => ?_) (fun q => absurd q (by decide))
  refine lv_aload_n hx hb dX9_keep_60 rfl (lv_at hl 0 rfl) ?_
  obtain ⟨a1_1, a2_2, a3_3, a4_4, a5_5, q1_6, q2_7, q3_8, rfl, h_9, h_10, h_11, h_12, h_13, h_14⟩ := ht
  have G : zS T A s.heap s [[(t, .inr (8, [.ref a1_1, .int ln, .int fl, .int pl, .ref a2_2, .ref a3_3, .ref a4_4, .ref a5_5]))], [(a1_1, .inl (T.2 1, 600, .inl ft))], [(a2_2, .inl (T.2 0, 3, .inl fk))], [(a3_3, .inl (T.2 3, 2, .inr (.inr (.inr (.inr q1_6)))))], [(a4_4, .inl (T.2 4, 2, .inr (.inr (.inr (.inr q2_7)))))], [(a5_5, .inl (T.2 5, 2, .inr (.inr (.inr (.inr q3_8)))))], wg0_, [(rd, .inr (7, [.ref rl, .ref rdd, .ref rg, .int r0, .int r1, .ref tp, .int r2, .int r3, .int r4, .int r5, .int r6, .int r7, .int r8]))], wg] _ _ := G.re rfl
  refine z_get C G clX9 0 rfl 7 (by decide) m_fl_RX9_40 rfl dX9_keep_61 ?_
  refine lv_iload_n hx hb dX9_keep_64 rfl (lv_at hl 2 rfl) ?_
  refine z_ald C G 5 5 rfl rfl (vp_in_nI (n := 0) (by decide) (by decide)) dX9_keep_65 ?_
  rw [show q3_8 ((0 : Int32).toNatClampNeg) = some g0 from h_13]
  refine lv_aload_n hx hb dX9_keep_66 rfl (lv_at hl 3 rfl) ?_
  refine z_get C G clX7 7 rfl 2 (by decide) m_fl_RX9_64 rfl dX9_keep_67 ?_
  refine z_Vv (bc := [wg0_, wg]) (br := [[(t, .inr (8, [.ref a1_1, .int ln, .int fl, .int pl, .ref a2_2, .ref a3_3, .ref a4_4, .ref a5_5]))], [(a1_1, .inl (T.2 1, 600, .inl ft))], [(a2_2, .inl (T.2 0, 3, .inl fk))], [(a3_3, .inl (T.2 3, 2, .inr (.inr (.inr (.inr q1_6)))))], [(a4_4, .inl (T.2 4, 2, .inr (.inr (.inr (.inr q2_7)))))], [(a5_5, .inl (T.2 5, 2, .inr (.inr (.inr (.inr q3_8)))))], [(rd, .inr (7, [.ref rl, .ref rdd, .ref rg, .int r0, .int r1, .ref tp, .int r2, .int r3, .int r4, .int r5, .int r6, .int r7, .int r8]))]]) (As := [.ref rg]) (rest := []) C G (c_Log_takeAll l T g0 rg gg0_ q10_ q20_ gg e1 e2 wg0_ wg hg0_ hg) (kV_RX9_68 C.2.2.2.2 (Nat.le_of_ble_eq_true rfl) (Nat.le_of_ble_eq_true rfl)) [6, 8] [0, 1, 2, 3, 4, 5, 7] rfl rfl (ci := 5) (qc := (RX5, TX5, 3)) rfl rfl (List.mem_flatten.mpr ⟨_, List.mem_of_getElem? (i := 0) rfl, (bLog_mem hg0_).choose_spec⟩) rfl rfl hl.1 dX9_keep_70 (Nat.le_of_ble_eq_true rfl) (Nat.le_of_ble_eq_true rfl) (fun b1 H locs hw G => ?_)
  obtain ⟨w2_15, g1_16, g2_17, rfl, h_18, h_19, h_20⟩ := hw
  have G : zS T A s.heap s [[(t, .inr (8, [.ref a1_1, .int ln, .int fl, .int pl, .ref a2_2, .ref a3_3, .ref a4_4, .ref a5_5]))], [(a1_1, .inl (T.2 1, 600, .inl ft))], [(a2_2, .inl (T.2 0, 3, .inl fk))], [(a3_3, .inl (T.2 3, 2, .inr (.inr (.inr (.inr q1_6)))))], [(a4_4, .inl (T.2 4, 2, .inr (.inr (.inr (.inr q2_7)))))], [(a5_5, .inl (T.2 5, 2, .inr (.inr (.inr (.inr q3_8)))))], [(rd, .inr (7, [.ref rl, .ref rdd, .ref rg, .int r0, .int r1, .ref tp, .int r2, .int r3, .int r4, .int r5, .int r6, .int r7, .int r8]))], w2_15, wg] _ _ := G
  refine lv_aload_n hx hb dX9_keep_73 rfl (lv_at hl 0 rfl) ?_
  refine z_get C G clX9 0 rfl 4 (by decide) m_fl_RX9_19 rfl dX9_keep_74 ?_
  refine lv_iload_n hx hb dX9_keep_77 rfl (lv_at hl 1 rfl) ?_
  refine lv_aload_n hx hb dX9_keep_78 rfl (lv_at hl 0 rfl) ?_
  refine z_get C G clX9 0 rfl 4 (by decide) m_fl_RX9_19 rfl dX9_keep_79 ?_
  refine lv_iload_n hx hb dX9_keep_82 rfl (lv_at hl 1 rfl) ?_
  refine z_ild C G 2 rfl (vp_in_nI (n := 2) (by decide) (by decide)) dX9_keep_83 ?_
  refine lv_topi (fun v_22 ev_22 => ?_)
  rw [show ((2 : Int32).toNatClampNeg) = 2 from rfl] at ev_22
  subst ev_22
  refine lv_iload_n hx hb dX9_keep_84 rfl (lv_at hl 2 rfl) ?_
  refine lv_iconst (v := 1) hx hb dX9_keep_85 (by decide) ?_
  refine lv_iadd hx hb dX9_keep_86 ?_
  refine lv_topi (fun y_23 ey_23 => ?_)
  obtain rfl : y_23 = 1 := ey_23.trans (by decide)
  refine va_mmax hx hb (C.2.2.1.trans hl.1.symm) C.2.2.2.1 (C.2.2.2.2 _ m_ml_RX9_71) (C.2.2.2.2 _ m_st_math_max) (C.2.2.2.2 _ m_ii_math) (C.2.2.2.2 _ m_co_math_max) (Nat.le_of_ble_eq_true rfl) (Nat.le_of_ble_eq_true rfl) (Nat.le_of_ble_eq_true rfl) (Nat.le_of_ble_eq_true rfl) dX9_keep_87 ?_
  refine lv_topi (fun v_24 ev_24 => ?_)
  subst ev_24
  refine z_ist C G 2 rfl (vp_in_nI (n := 2) (by decide) (by decide)) dX9_keep_90 (fun H locs G => ?_)
  have G : zS T A s.heap s [[(t, .inr (8, [.ref a1_1, .int ln, .int fl, .int pl, .ref a2_2, .ref a3_3, .ref a4_4, .ref a5_5]))], [(a1_1, .inl (T.2 1, 600, .inl ft))], [(a2_2, .inl (T.2 0, 3, .inl (upd fk 2 (if (fk 2) < 1 then 1 else (fk 2)))))], [(a3_3, .inl (T.2 3, 2, .inr (.inr (.inr (.inr q1_6)))))], [(a4_4, .inl (T.2 4, 2, .inr (.inr (.inr (.inr q2_7)))))], [(a5_5, .inl (T.2 5, 2, .inr (.inr (.inr (.inr q3_8)))))], [(rd, .inr (7, [.ref rl, .ref rdd, .ref rg, .int r0, .int r1, .ref tp, .int r2, .int r3, .int r4, .int r5, .int r6, .int r7, .int r8]))], w2_15, wg] _ _ := G
  have hw_25 : bTold T t l0 l1 d0 d1 g0 g1 ln fl pl ft (upd fk 2 (if (fk 2) < 1 then 1 else (fk 2))) [(t, .inr (8, [.ref a1_1, .int ln, .int fl, .int pl, .ref a2_2, .ref a3_3, .ref a4_4, .ref a5_5])), (a1_1, .inl (T.2 1, 600, .inl ft)), (a2_2, .inl (T.2 0, 3, .inl (upd fk 2 (if (fk 2) < 1 then 1 else (fk 2))))), (a3_3, .inl (T.2 3, 2, .inr (.inr (.inr (.inr q1_6))))), (a4_4, .inl (T.2 4, 2, .inr (.inr (.inr (.inr q2_7))))), (a5_5, .inl (T.2 5, 2, .inr (.inr (.inr (.inr q3_8)))))] := ⟨a1_1, a2_2, a3_3, a4_4, a5_5, q1_6, q2_7, q3_8, rfl, h_9, h_10, h_11, h_12, h_13, h_14⟩
  have G : zS T A s.heap s [[(t, .inr (8, [.ref a1_1, .int ln, .int fl, .int pl, .ref a2_2, .ref a3_3, .ref a4_4, .ref a5_5])), (a1_1, .inl (T.2 1, 600, .inl ft)), (a2_2, .inl (T.2 0, 3, .inl (upd fk 2 (if (fk 2) < 1 then 1 else (fk 2))))), (a3_3, .inl (T.2 3, 2, .inr (.inr (.inr (.inr q1_6))))), (a4_4, .inl (T.2 4, 2, .inr (.inr (.inr (.inr q2_7))))), (a5_5, .inl (T.2 5, 2, .inr (.inr (.inr (.inr q3_8)))))], [(rd, .inr (7, [.ref rl, .ref rdd, .ref rg, .int r0, .int r1, .ref tp, .int r2, .int r3, .int r4, .int r5, .int r6, .int r7, .int r8]))], w2_15, wg] _ _ := G.re rfl
  have G := G.sub (bs' := [[(t, .inr (8, [.ref a1_1, .int ln, .int fl, .int pl, .ref a2_2, .ref a3_3, .ref a4_4, .ref a5_5])), (a1_1, .inl (T.2 1, 600, .inl ft)), (a2_2, .inl (T.2 0, 3, .inl (upd fk 2 (if (fk 2) < 1 then 1 else (fk 2))))), (a3_3, .inl (T.2 3, 2, .inr (.inr (.inr (.inr q1_6))))), (a4_4, .inl (T.2 4, 2, .inr (.inr (.inr (.inr q2_7))))), (a5_5, .inl (T.2 5, 2, .inr (.inr (.inr (.inr q3_8)))))], w2_15, [(rd, .inr (7, [.ref rl, .ref rdd, .ref rg, .int r0, .int r1, .ref tp, .int r2, .int r3, .int r4, .int r5, .int r6, .int r7, .int r8]))], wg]) [0, 2, 1, 3] rfl
  exact z_vret C hr hlocks G (Nat.le_of_ble_eq_true rfl) (Nat.le_of_ble_eq_true rfl) dX9_keep_91 ⟨([(t, .inr (8, [.ref a1_1, .int ln, .int fl, .int pl, .ref a2_2, .ref a3_3, .ref a4_4, .ref a5_5])), (a1_1, .inl (T.2 1, 600, .inl ft)), (a2_2, .inl (T.2 0, 3, .inl (upd fk 2 (if (fk 2) < 1 then 1 else (fk 2))))), (a3_3, .inl (T.2 3, 2, .inr (.inr (.inr (.inr q1_6))))), (a4_4, .inl (T.2 4, 2, .inr (.inr (.inr (.inr q2_7))))), (a5_5, .inl (T.2 5, 2, .inr (.inr (.inr (.inr q3_8)))))]), (upd fk 2 (if (fk 2) < 1 then 1 else (fk 2))), w2_15, g1_16, g2_17, rfl, hw_25, h_18, (zKT_upd hK 2 (z_maxK (hK 2 (by decide)) (by decide)))⟩
set_option maxHeartbeats 4000000 in
set_option maxRecDepth 100000 in
/-- c_keep_21 -/
theorem c_keep_21 (l : Launch) (T : zTy) (t : Nat) (l0 : Nat) (l1 : Nat) (d0 : Nat) (d1 : Nat) (g0 : Nat) (g1 : Nat) (ln : Int32) (fl : Int32) (pl : Int32) (ft : Nat → Int32) (fk : Nat → Int32) (wt : va_W) (gg1_ : Int32) (q11_ : Nat → Int32) (q21_ : Nat → Int32) (wg1_ : va_W) (rd : Nat) (rl : Nat) (rdd : Nat) (rg : Nat) (tp : Nat) (r0 : Int32) (r1 : Int32) (r2 : Int32) (r3 : Int32) (r4 : Int32) (r5 : Int32) (r6 : Int32) (r7 : Int32) (r8 : Int32) (gg : Int32) (e1 : Nat → Int32) (e2 : Nat → Int32) (wg : va_W) (ht : bTold T t l0 l1 d0 d1 g0 g1 ln fl pl ft fk wt) (hK : zKT fk) (hg1_ : bLog T g1 gg1_ q11_ q21_ wg1_) (hg : bLog T rg gg e1 e2 wg) : zMv l T yX9_keep cX9_keep 4 2 0 0 [.ref t, .int 2, .int 1, .ref rd] [wt, wg1_, [(rd, .inr (7, [.ref rl, .ref rdd, .ref rg, .int r0, .int r1, .ref tp, .int r2, .int r3, .int r4, .int r5, .int r6, .int r7, .int r8]))], wg] (fun bs => ∃ (wt2 : va_W) (fk2 : Nat → Int32) (w2_ : va_W) (s1 : Nat → Int32) (s2 : Nat → Int32), bs = [wt2, w2_, [(rd, .inr (7, [.ref rl, .ref rdd, .ref rg, .int r0, .int r1, .ref tp, .int r2, .int r3, .int r4, .int r5, .int r6, .int r7, .int r8]))], wg] ∧ bTold T t l0 l1 d0 d1 g0 g1 ln fl pl ft fk2 wt2 ∧ bLog T g1 gg s1 s2 w2_ ∧ zKT fk2) := by
  refine zMv_of (own := RX9) (by decide) rfl (Nat.le_of_ble_eq_true rfl) ?_
  intro p e s m args below meth c A ls C hr hlocks hnm hAe G hl
  have hx := C.1
  have hb := C.2.1
  have hl : lv_has ls 4 [(0, .ref t), (1, .int 2), (2, .int 1), (3, .ref rd)] := hl
  refine lv_iload_n hx hb dX9_keep_0 rfl (lv_at hl 1 rfl) ?_
  refine lv_if_lt (tgt := 18) hx hb dX9_keep_1 (by decide) (fun q => absurd q (by decide)) (fun _ => ?_)
  refine lv_iload_n hx hb dX9_keep_4 rfl (lv_at hl 1 rfl) ?_
  refine lv_iconst (v := 2) hx hb dX9_keep_5 (by decide) ?_
  refine lv_icmp_gt (tgt := 18) hx hb dX9_keep_6 (by decide) (fun q => absurd q (by decide)) (fun _ => ?_)
  refine lv_iload_n hx hb dX9_keep_9 rfl (lv_at hl 2 rfl) ?_
  refine lv_if_lt (tgt := 18) hx hb dX9_keep_10 (by decide) (fun q => absurd q (by decide)) (fun _ => ?_)
  refine lv_iload_n hx hb dX9_keep_13 rfl (lv_at hl 2 rfl) ?_
  refine lv_iconst (v := 2) hx hb dX9_keep_14 (by decide) ?_
  refine lv_icmp_lt (tgt := 19) hx hb dX9_keep_15 (by decide) (fun _ => ?_) (fun q => absurd (by decide) q)
  refine lv_iload_n hx hb dX9_keep_19 rfl (lv_at hl 1 rfl) ?_
  refine lv_if_ne (tgt := 39) hx hb dX9_keep_20 (by decide) (fun _ => ?_) (fun q => absurd q (by decide))
  refine lv_iload_n hx hb dX9_keep_39 rfl (lv_at hl 1 rfl) ?_
  refine lv_iconst (v := 1) hx hb dX9_keep_40 (by decide) ?_
  refine lv_icmp_ne (tgt := 60) hx hb dX9_keep_41 (by decide) (fun _ => ?_) (fun q => absurd q (by decide))
  refine lv_aload_n hx hb dX9_keep_60 rfl (lv_at hl 0 rfl) ?_
  obtain ⟨a1_1, a2_2, a3_3, a4_4, a5_5, q1_6, q2_7, q3_8, rfl, h_9, h_10, h_11, h_12, h_13, h_14⟩ := ht
  have G : zS T A s.heap s [[(t, .inr (8, [.ref a1_1, .int ln, .int fl, .int pl, .ref a2_2, .ref a3_3, .ref a4_4, .ref a5_5]))], [(a1_1, .inl (T.2 1, 600, .inl ft))], [(a2_2, .inl (T.2 0, 3, .inl fk))], [(a3_3, .inl (T.2 3, 2, .inr (.inr (.inr (.inr q1_6)))))], [(a4_4, .inl (T.2 4, 2, .inr (.inr (.inr (.inr q2_7)))))], [(a5_5, .inl (T.2 5, 2, .inr (.inr (.inr (.inr q3_8)))))], wg1_, [(rd, .inr (7, [.ref rl, .ref rdd, .ref rg, .int r0, .int r1, .ref tp, .int r2, .int r3, .int r4, .int r5, .int r6, .int r7, .int r8]))], wg] _ _ := G.re rfl
  refine z_get C G clX9 0 rfl 7 (by decide) m_fl_RX9_40 rfl dX9_keep_61 ?_
  refine lv_iload_n hx hb dX9_keep_64 rfl (lv_at hl 2 rfl) ?_
  refine z_ald C G 5 5 rfl rfl (vp_in_nI (n := 1) (by decide) (by decide)) dX9_keep_65 ?_
  rw [show q3_8 ((1 : Int32).toNatClampNeg) = some g1 from h_14]
  refine lv_aload_n hx hb dX9_keep_66 rfl (lv_at hl 3 rfl) ?_
  refine z_get C G clX7 7 rfl 2 (by decide) m_fl_RX9_64 rfl dX9_keep_67 ?_
  refine z_Vv (bc := [wg1_, wg]) (br := [[(t, .inr (8, [.ref a1_1, .int ln, .int fl, .int pl, .ref a2_2, .ref a3_3, .ref a4_4, .ref a5_5]))], [(a1_1, .inl (T.2 1, 600, .inl ft))], [(a2_2, .inl (T.2 0, 3, .inl fk))], [(a3_3, .inl (T.2 3, 2, .inr (.inr (.inr (.inr q1_6)))))], [(a4_4, .inl (T.2 4, 2, .inr (.inr (.inr (.inr q2_7)))))], [(a5_5, .inl (T.2 5, 2, .inr (.inr (.inr (.inr q3_8)))))], [(rd, .inr (7, [.ref rl, .ref rdd, .ref rg, .int r0, .int r1, .ref tp, .int r2, .int r3, .int r4, .int r5, .int r6, .int r7, .int r8]))]]) (As := [.ref rg]) (rest := []) C G (c_Log_takeAll l T g1 rg gg1_ q11_ q21_ gg e1 e2 wg1_ wg hg1_ hg) (kV_RX9_68 C.2.2.2.2 (Nat.le_of_ble_eq_true rfl) (Nat.le_of_ble_eq_true rfl)) [6, 8] [0, 1, 2, 3, 4, 5, 7] rfl rfl (ci := 5) (qc := (RX5, TX5, 3)) rfl rfl (List.mem_flatten.mpr ⟨_, List.mem_of_getElem? (i := 0) rfl, (bLog_mem hg1_).choose_spec⟩) rfl rfl hl.1 dX9_keep_70 (Nat.le_of_ble_eq_true rfl) (Nat.le_of_ble_eq_true rfl) (fun b1 H locs hw G => ?_)
  obtain ⟨w2_15, g1_16, g2_17, rfl, h_18, h_19, h_20⟩ := hw
  have G : zS T A s.heap s [[(t, .inr (8, [.ref a1_1, .int ln, .int fl, .int pl, .ref a2_2, .ref a3_3, .ref a4_4, .ref a5_5]))], [(a1_1, .inl (T.2 1, 600, .inl ft))], [(a2_2, .inl (T.2 0, 3, .inl fk))], [(a3_3, .inl (T.2 3, 2, .inr (.inr (.inr (.inr q1_6)))))], [(a4_4, .inl (T.2 4, 2, .inr (.inr (.inr (.inr q2_7)))))], [(a5_5, .inl (T.2 5, 2, .inr (.inr (.inr (.inr q3_8)))))], [(rd, .inr (7, [.ref rl, .ref rdd, .ref rg, .int r0, .int r1, .ref tp, .int r2, .int r3, .int r4, .int r5, .int r6, .int r7, .int r8]))], w2_15, wg] _ _ := G
  refine lv_aload_n hx hb dX9_keep_73 rfl (lv_at hl 0 rfl) ?_
  refine z_get C G clX9 0 rfl 4 (by decide) m_fl_RX9_19 rfl dX9_keep_74 ?_
  refine lv_iload_n hx hb dX9_keep_77 rfl (lv_at hl 1 rfl) ?_
  refine lv_aload_n hx hb dX9_keep_78 rfl (lv_at hl 0 rfl) ?_
  refine z_get C G clX9 0 rfl 4 (by decide) m_fl_RX9_19 rfl dX9_keep_79 ?_
  refine lv_iload_n hx hb dX9_keep_82 rfl (lv_at hl 1 rfl) ?_
  refine z_ild C G 2 rfl (vp_in_nI (n := 2) (by decide) (by decide)) dX9_keep_83 ?_
  refine lv_topi (fun v_22 ev_22 => ?_)
  rw [show ((2 : Int32).toNatClampNeg) = 2 from rfl] at ev_22
  subst ev_22
  refine lv_iload_n hx hb dX9_keep_84 rfl (lv_at hl 2 rfl) ?_
  refine lv_iconst (v := 1) hx hb dX9_keep_85 (by decide) ?_
  refine lv_iadd hx hb dX9_keep_86 ?_
  refine lv_topi (fun y_23 ey_23 => ?_)
  obtain rfl : y_23 = 2 := ey_23.trans (by decide)
  refine va_mmax hx hb (C.2.2.1.trans hl.1.symm) C.2.2.2.1 (C.2.2.2.2 _ m_ml_RX9_71) (C.2.2.2.2 _ m_st_math_max) (C.2.2.2.2 _ m_ii_math) (C.2.2.2.2 _ m_co_math_max) (Nat.le_of_ble_eq_true rfl) (Nat.le_of_ble_eq_true rfl) (Nat.le_of_ble_eq_true rfl) (Nat.le_of_ble_eq_true rfl) dX9_keep_87 ?_
  refine lv_topi (fun v_24 ev_24 => ?_)
  subst ev_24
  refine z_ist C G 2 rfl (vp_in_nI (n := 2) (by decide) (by decide)) dX9_keep_90 (fun H locs G => ?_)
  have G : zS T A s.heap s [[(t, .inr (8, [.ref a1_1, .int ln, .int fl, .int pl, .ref a2_2, .ref a3_3, .ref a4_4, .ref a5_5]))], [(a1_1, .inl (T.2 1, 600, .inl ft))], [(a2_2, .inl (T.2 0, 3, .inl (upd fk 2 (if (fk 2) < 2 then 2 else (fk 2)))))], [(a3_3, .inl (T.2 3, 2, .inr (.inr (.inr (.inr q1_6)))))], [(a4_4, .inl (T.2 4, 2, .inr (.inr (.inr (.inr q2_7)))))], [(a5_5, .inl (T.2 5, 2, .inr (.inr (.inr (.inr q3_8)))))], [(rd, .inr (7, [.ref rl, .ref rdd, .ref rg, .int r0, .int r1, .ref tp, .int r2, .int r3, .int r4, .int r5, .int r6, .int r7, .int r8]))], w2_15, wg] _ _ := G
  have hw_25 : bTold T t l0 l1 d0 d1 g0 g1 ln fl pl ft (upd fk 2 (if (fk 2) < 2 then 2 else (fk 2))) [(t, .inr (8, [.ref a1_1, .int ln, .int fl, .int pl, .ref a2_2, .ref a3_3, .ref a4_4, .ref a5_5])), (a1_1, .inl (T.2 1, 600, .inl ft)), (a2_2, .inl (T.2 0, 3, .inl (upd fk 2 (if (fk 2) < 2 then 2 else (fk 2))))), (a3_3, .inl (T.2 3, 2, .inr (.inr (.inr (.inr q1_6))))), (a4_4, .inl (T.2 4, 2, .inr (.inr (.inr (.inr q2_7))))), (a5_5, .inl (T.2 5, 2, .inr (.inr (.inr (.inr q3_8)))))] := ⟨a1_1, a2_2, a3_3, a4_4, a5_5, q1_6, q2_7, q3_8, rfl, h_9, h_10, h_11, h_12, h_13, h_14⟩
  have G : zS T A s.heap s [[(t, .inr (8, [.ref a1_1, .int ln, .int fl, .int pl, .ref a2_2, .ref a3_3, .ref a4_4, .ref a5_5])), (a1_1, .inl (T.2 1, 600, .inl ft)), (a2_2, .inl (T.2 0, 3, .inl (upd fk 2 (if (fk 2) < 2 then 2 else (fk 2))))), (a3_3, .inl (T.2 3, 2, .inr (.inr (.inr (.inr q1_6))))), (a4_4, .inl (T.2 4, 2, .inr (.inr (.inr (.inr q2_7))))), (a5_5, .inl (T.2 5, 2, .inr (.inr (.inr (.inr q3_8)))))], [(rd, .inr (7, [.ref rl, .ref rdd, .ref rg, .int r0, .int r1, .ref tp, .int r2, .int r3, .int r4, .int r5, .int r6, .int r7, .int r8]))], w2_15, wg] _ _ := G.re rfl
  have G := G.sub (bs' := [[(t, .inr (8, [.ref a1_1, .int ln, .int fl, .int pl, .ref a2_2, .ref a3_3, .ref a4_4, .ref a5_5])), (a1_1, .inl (T.2 1, 600, .inl ft)), (a2_2, .inl (T.2 0, 3, .inl (upd fk 2 (if (fk 2) < 2 then 2 else (fk 2))))), (a3_3, .inl (T.2 3, 2, .inr (.inr (.inr (.inr q1_6))))), (a4_4, .inl (T.2 4, 2, .inr (.inr (.inr (.inr q2_7))))), (a5_5, .inl (T.2 5, 2, .inr (.inr (.inr (.inr q3_8)))))], w2_15, [(rd, .inr (7, [.ref rl, .ref rdd, .ref rg, .int r0, .int r1, .ref tp, .int r2, .int r3, .int r4, .int r5, .int r6, .int r7, .int r8]))], wg]) [0, 2, 1, 3] rfl
  exact z_vret C hr hlocks G (Nat.le_of_ble_eq_true rfl) (Nat.le_of_ble_eq_true rfl) dX9_keep_91 ⟨([(t, .inr (8, [.ref a1_1, .int ln, .int fl, .int pl, .ref a2_2, .ref a3_3, .ref a4_4, .ref a5_5])), (a1_1, .inl (T.2 1, 600, .inl ft)), (a2_2, .inl (T.2 0, 3, .inl (upd fk 2 (if (fk 2) < 2 then 2 else (fk 2))))), (a3_3, .inl (T.2 3, 2, .inr (.inr (.inr (.inr q1_6))))), (a4_4, .inl (T.2 4, 2, .inr (.inr (.inr (.inr q2_7))))), (a5_5, .inl (T.2 5, 2, .inr (.inr (.inr (.inr q3_8)))))]), (upd fk 2 (if (fk 2) < 2 then 2 else (fk 2))), w2_15, g1_16, g2_17, rfl, hw_25, h_18, (zKT_upd hK 2 (z_maxK (hK 2 (by decide)) (by decide)))⟩
set_option maxHeartbeats 4000000 in
set_option maxRecDepth 100000 in
/-- takeAll -/
theorem c_Told_takeAll (l : Launch) (T : zTy) (t : Nat) (l0 : Nat) (l1 : Nat) (d0 : Nat) (d1 : Nat) (g0 : Nat) (g1 : Nat) (ln : Int32) (fl : Int32) (pl : Int32) (ft : Nat → Int32) (fk : Nat → Int32) (wt : va_W) (cr0_ : Int32) (inn0_ : Int32) (k10_ : Nat → Int32) (k20_ : Nat → Int32) (k30_ : Nat → Int32) (k40_ : Nat → Int32) (z0_ : va_W) (cr1_ : Int32) (inn1_ : Int32) (k11_ : Nat → Int32) (k21_ : Nat → Int32) (k31_ : Nat → Int32) (k41_ : Nat → Int32) (z1_ : va_W) (dd0_ : Int32) (p10_ : Nat → Int32) (p20_ : Nat → Int32) (p30_ : Nat → Int32) (wd0_ : va_W) (dd1_ : Int32) (p11_ : Nat → Int32) (p21_ : Nat → Int32) (p31_ : Nat → Int32) (wd1_ : va_W) (gg0_ : Int32) (q10_ : Nat → Int32) (q20_ : Nat → Int32) (wg0_ : va_W) (gg1_ : Int32) (q11_ : Nat → Int32) (q21_ : Nat → Int32) (wg1_ : va_W) (o : Nat) (l0o : Nat) (l1o : Nat) (d0o : Nat) (d1o : Nat) (g0o : Nat) (g1o : Nat) (lno : Int32) (flo : Int32) (plo : Int32) (fto : Nat → Int32) (fko : Nat → Int32) (wto : va_W) (cr0_o : Int32) (inn0_o : Int32) (k10_o : Nat → Int32) (k20_o : Nat → Int32) (k30_o : Nat → Int32) (k40_o : Nat → Int32) (z0_o : va_W) (cr1_o : Int32) (inn1_o : Int32) (k11_o : Nat → Int32) (k21_o : Nat → Int32) (k31_o : Nat → Int32) (k41_o : Nat → Int32) (z1_o : va_W) (dd0_o : Int32) (p10_o : Nat → Int32) (p20_o : Nat → Int32) (p30_o : Nat → Int32) (wd0_o : va_W) (dd1_o : Int32) (p11_o : Nat → Int32) (p21_o : Nat → Int32) (p31_o : Nat → Int32) (wd1_o : va_W) (gg0_o : Int32) (q10_o : Nat → Int32) (q20_o : Nat → Int32) (wg0_o : va_W) (gg1_o : Int32) (q11_o : Nat → Int32) (q21_o : Nat → Int32) (wg1_o : va_W) (ht : bTold T t l0 l1 d0 d1 g0 g1 ln fl pl ft fk wt) (hK : zKT fk) (hz0_ : bLand T l0 cr0_ inn0_ k10_ k20_ k30_ k40_ z0_) (hI0_ : zLI cr0_ k10_ k30_) (hz1_ : bLand T l1 cr1_ inn1_ k11_ k21_ k31_ k41_ z1_) (hI1_ : zLI cr1_ k11_ k31_) (hd0_ : bDay T d0 dd0_ p10_ p20_ p30_ wd0_) (hd1_ : bDay T d1 dd1_ p11_ p21_ p31_ wd1_) (hg0_ : bLog T g0 gg0_ q10_ q20_ wg0_) (hg1_ : bLog T g1 gg1_ q11_ q21_ wg1_) (hto : bTold T o l0o l1o d0o d1o g0o g1o lno flo plo fto fko wto) (hKo : zKT fko) (hz0_o : bLand T l0o cr0_o inn0_o k10_o k20_o k30_o k40_o z0_o) (hI0_o : zLI cr0_o k10_o k30_o) (hz1_o : bLand T l1o cr1_o inn1_o k11_o k21_o k31_o k41_o z1_o) (hI1_o : zLI cr1_o k11_o k31_o) (hd0_o : bDay T d0o dd0_o p10_o p20_o p30_o wd0_o) (hd1_o : bDay T d1o dd1_o p11_o p21_o p31_o wd1_o) (hg0_o : bLog T g0o gg0_o q10_o q20_o wg0_o) (hg1_o : bLog T g1o gg1_o q11_o q21_o wg1_o) : zMv l T yX9_takeAll cX9_takeAll 3 2 0 0 [.ref t, .ref o] [wt, z0_, z1_, wd0_, wd1_, wg0_, wg1_, wto, z0_o, z1_o, wd0_o, wd1_o, wg0_o, wg1_o] (fun bs => ∃ (wt2 : va_W) (g9 : Nat → Int32) (fk2 : Nat → Int32) (w2_0 : va_W) (s0_0 : Nat → Int32) (s0_1 : Nat → Int32) (s0_2 : Nat → Int32) (s0_3 : Nat → Int32) (w2_1 : va_W) (s1_0 : Nat → Int32) (s1_1 : Nat → Int32) (s1_2 : Nat → Int32) (s1_3 : Nat → Int32) (w2_2 : va_W) (s2_0 : Nat → Int32) (s2_1 : Nat → Int32) (s2_2 : Nat → Int32) (w2_3 : va_W) (s3_0 : Nat → Int32) (s3_1 : Nat → Int32) (s3_2 : Nat → Int32) (w2_4 : va_W) (s4_0 : Nat → Int32) (s4_1 : Nat → Int32) (w2_5 : va_W) (s5_0 : Nat → Int32) (s5_1 : Nat → Int32), bs = [wt2, w2_0, w2_1, w2_2, w2_3, w2_4, w2_5, wto, z0_o, z1_o, wd0_o, wd1_o, wg0_o, wg1_o] ∧ bTold T t l0 l1 d0 d1 g0 g1 lno flo plo g9 fk2 wt2 ∧ True ∧ (∀ j, j < 3 → fk2 j = fko j) ∧ zKT fk2 ∧ bLand T l0 cr0_o inn0_o s0_0 s0_1 s0_2 s0_3 w2_0 ∧ bLand T l1 cr1_o inn1_o s1_0 s1_1 s1_2 s1_3 w2_1 ∧ bDay T d0 dd0_o s2_0 s2_1 s2_2 w2_2 ∧ bDay T d1 dd1_o s3_0 s3_1 s3_2 w2_3 ∧ bLog T g0 gg0_o s4_0 s4_1 w2_4 ∧ bLog T g1 gg1_o s5_0 s5_1 w2_5 ∧ (∀ j, j < 7 → s0_0 j = k10_o j) ∧ (∀ j, j < 28 → s0_1 j = k20_o j) ∧ (∀ j, j < 7 → s0_2 j = k30_o j) ∧ (∀ j, j < 7 → s0_3 j = k40_o j) ∧ (∀ j, j < 7 → s1_0 j = k11_o j) ∧ (∀ j, j < 28 → s1_1 j = k21_o j) ∧ (∀ j, j < 7 → s1_2 j = k31_o j) ∧ (∀ j, j < 7 → s1_3 j = k41_o j) ∧ (∀ j, j < 40 → s2_0 j = p10_o j) ∧ (∀ j, j < 40 → s2_1 j = p20_o j) ∧ (∀ j, j < 40 → s2_2 j = p30_o j) ∧ (∀ j, j < 40 → s3_0 j = p11_o j) ∧ (∀ j, j < 40 → s3_1 j = p21_o j) ∧ (∀ j, j < 40 → s3_2 j = p31_o j) ∧ (∀ j, j < 8 → s4_0 j = q10_o j) ∧ (∀ j, j < 8 → s4_1 j = q20_o j) ∧ (∀ j, j < 8 → s5_0 j = q11_o j) ∧ (∀ j, j < 8 → s5_1 j = q21_o j) ∧ zLI cr0_o s0_0 s0_2 ∧ zLI cr1_o s1_0 s1_2) := by
  refine zMv_of (own := RX9) (by decide) rfl (Nat.le_of_ble_eq_true rfl) ?_
  intro p e s m args below meth c A ls C hr hlocks hnm hAe G hl
  have hx := C.1
  have hb := C.2.1
  have hl : lv_has ls 3 [(0, .ref t), (1, .ref o)] := hl
  refine lv_iconst (v := 0) hx hb dX9_takeAll_0 (by decide) ?_
  refine lv_istore_n (lv' := [(2, .int 0), (0, .ref t), (1, .ref o)]) hx hb dX9_takeAll_1 rfl hl (by decide) rfl (fun ls hl => ?_)
  obtain ⟨a1_1, a2_2, a3_3, a4_4, a5_5, q1_6, q2_7, q3_8, rfl, h_9, h_10, h_11, h_12, h_13, h_14⟩ := ht
  have G : zS T A s.heap s [[(t, .inr (8, [.ref a1_1, .int ln, .int fl, .int pl, .ref a2_2, .ref a3_3, .ref a4_4, .ref a5_5]))], [(a1_1, .inl (T.2 1, 600, .inl ft))], [(a2_2, .inl (T.2 0, 3, .inl fk))], [(a3_3, .inl (T.2 3, 2, .inr (.inr (.inr (.inr q1_6)))))], [(a4_4, .inl (T.2 4, 2, .inr (.inr (.inr (.inr q2_7)))))], [(a5_5, .inl (T.2 5, 2, .inr (.inr (.inr (.inr q3_8)))))], z0_, z1_, wd0_, wd1_, wg0_, wg1_, wto, z0_o, z1_o, wd0_o, wd1_o, wg0_o, wg1_o] _ _ := G.re rfl
  obtain ⟨a1_15, a2_16, a3_17, a4_18, a5_19, q1_20, q2_21, q3_22, rfl, h_23, h_24, h_25, h_26, h_27, h_28⟩ := hto
  have G : zS T A s.heap s [[(t, .inr (8, [.ref a1_1, .int ln, .int fl, .int pl, .ref a2_2, .ref a3_3, .ref a4_4, .ref a5_5]))], [(a1_1, .inl (T.2 1, 600, .inl ft))], [(a2_2, .inl (T.2 0, 3, .inl fk))], [(a3_3, .inl (T.2 3, 2, .inr (.inr (.inr (.inr q1_6)))))], [(a4_4, .inl (T.2 4, 2, .inr (.inr (.inr (.inr q2_7)))))], [(a5_5, .inl (T.2 5, 2, .inr (.inr (.inr (.inr q3_8)))))], z0_, z1_, wd0_, wd1_, wg0_, wg1_, [(o, .inr (8, [.ref a1_15, .int lno, .int flo, .int plo, .ref a2_16, .ref a3_17, .ref a4_18, .ref a5_19]))], [(a1_15, .inl (T.2 1, 600, .inl fto))], [(a2_16, .inl (T.2 0, 3, .inl fko))], [(a3_17, .inl (T.2 3, 2, .inr (.inr (.inr (.inr q1_20)))))], [(a4_18, .inl (T.2 4, 2, .inr (.inr (.inr (.inr q2_21)))))], [(a5_19, .inl (T.2 5, 2, .inr (.inr (.inr (.inr q3_22)))))], z0_o, z1_o, wd0_o, wd1_o, wg0_o, wg1_o] _ _ := G.re rfl
  have hw_29 : bTold T t l0 l1 d0 d1 g0 g1 ln fl pl ft fk [(t, .inr (8, [.ref a1_1, .int ln, .int fl, .int pl, .ref a2_2, .ref a3_3, .ref a4_4, .ref a5_5])), (a1_1, .inl (T.2 1, 600, .inl ft)), (a2_2, .inl (T.2 0, 3, .inl fk)), (a3_3, .inl (T.2 3, 2, .inr (.inr (.inr (.inr q1_6))))), (a4_4, .inl (T.2 4, 2, .inr (.inr (.inr (.inr q2_7))))), (a5_5, .inl (T.2 5, 2, .inr (.inr (.inr (.inr q3_8)))))] := ⟨a1_1, a2_2, a3_3, a4_4, a5_5, q1_6, q2_7, q3_8, rfl, h_9, h_10, h_11, h_12, h_13, h_14⟩
  have G : zS T A s.heap s [[(t, .inr (8, [.ref a1_1, .int ln, .int fl, .int pl, .ref a2_2, .ref a3_3, .ref a4_4, .ref a5_5])), (a1_1, .inl (T.2 1, 600, .inl ft)), (a2_2, .inl (T.2 0, 3, .inl fk)), (a3_3, .inl (T.2 3, 2, .inr (.inr (.inr (.inr q1_6))))), (a4_4, .inl (T.2 4, 2, .inr (.inr (.inr (.inr q2_7))))), (a5_5, .inl (T.2 5, 2, .inr (.inr (.inr (.inr q3_8)))))], z0_, z1_, wd0_, wd1_, wg0_, wg1_, [(o, .inr (8, [.ref a1_15, .int lno, .int flo, .int plo, .ref a2_16, .ref a3_17, .ref a4_18, .ref a5_19]))], [(a1_15, .inl (T.2 1, 600, .inl fto))], [(a2_16, .inl (T.2 0, 3, .inl fko))], [(a3_17, .inl (T.2 3, 2, .inr (.inr (.inr (.inr q1_20)))))], [(a4_18, .inl (T.2 4, 2, .inr (.inr (.inr (.inr q2_21)))))], [(a5_19, .inl (T.2 5, 2, .inr (.inr (.inr (.inr q3_22)))))], z0_o, z1_o, wd0_o, wd1_o, wg0_o, wg1_o] _ _ := G.re rfl
  have hw_30 : bTold T o l0o l1o d0o d1o g0o g1o lno flo plo fto fko [(o, .inr (8, [.ref a1_15, .int lno, .int flo, .int plo, .ref a2_16, .ref a3_17, .ref a4_18, .ref a5_19])), (a1_15, .inl (T.2 1, 600, .inl fto)), (a2_16, .inl (T.2 0, 3, .inl fko)), (a3_17, .inl (T.2 3, 2, .inr (.inr (.inr (.inr q1_20))))), (a4_18, .inl (T.2 4, 2, .inr (.inr (.inr (.inr q2_21))))), (a5_19, .inl (T.2 5, 2, .inr (.inr (.inr (.inr q3_22)))))] := ⟨a1_15, a2_16, a3_17, a4_18, a5_19, q1_20, q2_21, q3_22, rfl, h_23, h_24, h_25, h_26, h_27, h_28⟩
  have G : zS T A s.heap s [[(t, .inr (8, [.ref a1_1, .int ln, .int fl, .int pl, .ref a2_2, .ref a3_3, .ref a4_4, .ref a5_5])), (a1_1, .inl (T.2 1, 600, .inl ft)), (a2_2, .inl (T.2 0, 3, .inl fk)), (a3_3, .inl (T.2 3, 2, .inr (.inr (.inr (.inr q1_6))))), (a4_4, .inl (T.2 4, 2, .inr (.inr (.inr (.inr q2_7))))), (a5_5, .inl (T.2 5, 2, .inr (.inr (.inr (.inr q3_8)))))], z0_, z1_, wd0_, wd1_, wg0_, wg1_, [(o, .inr (8, [.ref a1_15, .int lno, .int flo, .int plo, .ref a2_16, .ref a3_17, .ref a4_18, .ref a5_19])), (a1_15, .inl (T.2 1, 600, .inl fto)), (a2_16, .inl (T.2 0, 3, .inl fko)), (a3_17, .inl (T.2 3, 2, .inr (.inr (.inr (.inr q1_20))))), (a4_18, .inl (T.2 4, 2, .inr (.inr (.inr (.inr q2_21))))), (a5_19, .inl (T.2 5, 2, .inr (.inr (.inr (.inr q3_22)))))], z0_o, z1_o, wd0_o, wd1_o, wg0_o, wg1_o] _ _ := G.re rfl
  refine z_loop (T := T) (α := Nat × va_W × (Nat → Int32)) 2 (fun (i, wt9, x9) => [wt9, z0_, z1_, wd0_, wd1_, wg0_, wg1_, [(o, .inr (8, [.ref a1_15, .int lno, .int flo, .int plo, .ref a2_16, .ref a3_17, .ref a4_18, .ref a5_19])), (a1_15, .inl (T.2 1, 600, .inl fto)), (a2_16, .inl (T.2 0, 3, .inl fko)), (a3_17, .inl (T.2 3, 2, .inr (.inr (.inr (.inr q1_20))))), (a4_18, .inl (T.2 4, 2, .inr (.inr (.inr (.inr q2_21))))), (a5_19, .inl (T.2 5, 2, .inr (.inr (.inr (.inr q3_22)))))], z0_o, z1_o, wd0_o, wd1_o, wg0_o, wg1_o]) (fun (i, wt9, x9) => [(2, .int (nI i)), (0, .ref t), (1, .ref o)]) (fun (i, wt9, x9) => bTold T t l0 l1 d0 d1 g0 g1 ln fl pl x9 fk wt9 ∧ i ≤ 600) (fun (i, wt9, x9) => 600 - i) ?_ (0, ([(t, .inr (8, [.ref a1_1, .int ln, .int fl, .int pl, .ref a2_2, .ref a3_3, .ref a4_4, .ref a5_5])), (a1_1, .inl (T.2 1, 600, .inl ft)), (a2_2, .inl (T.2 0, 3, .inl fk)), (a3_3, .inl (T.2 3, 2, .inr (.inr (.inr (.inr q1_6))))), (a4_4, .inl (T.2 4, 2, .inr (.inr (.inr (.inr q2_7))))), (a5_5, .inl (T.2 5, 2, .inr (.inr (.inr (.inr q3_8)))))]), ft) (show bTold T t l0 l1 d0 d1 g0 g1 ln fl pl ft fk ([(t, .inr (8, [.ref a1_1, .int ln, .int fl, .int pl, .ref a2_2, .ref a3_3, .ref a4_4, .ref a5_5])), (a1_1, .inl (T.2 1, 600, .inl ft)), (a2_2, .inl (T.2 0, 3, .inl fk)), (a3_3, .inl (T.2 3, 2, .inr (.inr (.inr (.inr q1_6))))), (a4_4, .inl (T.2 4, 2, .inr (.inr (.inr (.inr q2_7))))), (a5_5, .inl (T.2 5, 2, .inr (.inr (.inr (.inr q3_8)))))]) ∧ 0 ≤ 600 from ⟨hw_29, by omega⟩) G (lv_sub hl [0, 1, 2] rfl)
  rintro ⟨i, wt9, x9⟩ ⟨ht9, hi⟩ ih_2 H locs ls G hl
  replace ht9 : bTold T t l0 l1 d0 d1 g0 g1 ln fl pl x9 fk wt9 := ht9
  replace hi : i ≤ 600 := hi
  replace G : zS T A s.heap s [wt9, z0_, z1_, wd0_, wd1_, wg0_, wg1_, [(o, .inr (8, [.ref a1_15, .int lno, .int flo, .int plo, .ref a2_16, .ref a3_17, .ref a4_18, .ref a5_19])), (a1_15, .inl (T.2 1, 600, .inl fto)), (a2_16, .inl (T.2 0, 3, .inl fko)), (a3_17, .inl (T.2 3, 2, .inr (.inr (.inr (.inr q1_20))))), (a4_18, .inl (T.2 4, 2, .inr (.inr (.inr (.inr q2_21))))), (a5_19, .inl (T.2 5, 2, .inr (.inr (.inr (.inr q3_22)))))], z0_o, z1_o, wd0_o, wd1_o, wg0_o, wg1_o] _ _ := G
  replace hl : lv_has ls 3 [(2, .int (nI i)), (0, .ref t), (1, .ref o)] := hl
  refine lv_iload_n hx hb dX9_takeAll_2 rfl (lv_at hl 0 rfl) ?_
  refine lv_sipush (v := 600) hx hb dX9_takeAll_3 (by decide) ?_
  refine lv_icmp_ge (tgt := 27) hx hb dX9_takeAll_6 (by decide) (fun c_31 => ?_) (fun c_31 => ?_)
  · have c_31n : 600 ≤ i := (nI_leI (a := 600) (b := i) (by omega) (by omega)).mp c_31
    refine lv_aload_n hx hb dX9_takeAll_27 rfl (lv_at hl 1 rfl) ?_
    refine lv_aload_n hx hb dX9_takeAll_28 rfl (lv_at hl 2 rfl) ?_
    have G : zS T A s.heap s [wt9, z0_, z1_, wd0_, wd1_, wg0_, wg1_, [(o, .inr (8, [.ref a1_15, .int lno, .int flo, .int plo, .ref a2_16, .ref a3_17, .ref a4_18, .ref a5_19]))], [(a1_15, .inl (T.2 1, 600, .inl fto))], [(a2_16, .inl (T.2 0, 3, .inl fko))], [(a3_17, .inl (T.2 3, 2, .inr (.inr (.inr (.inr q1_20)))))], [(a4_18, .inl (T.2 4, 2, .inr (.inr (.inr (.inr q2_21)))))], [(a5_19, .inl (T.2 5, 2, .inr (.inr (.inr (.inr q3_22)))))], z0_o, z1_o, wd0_o, wd1_o, wg0_o, wg1_o] _ _ := G.re rfl
    refine z_get C G clX9 7 rfl 1 (by decide) m_fl_RX9_44 rfl dX9_takeAll_29 ?_
    obtain ⟨a1_32, a2_33, a3_34, a4_35, a5_36, q1_37, q2_38, q3_39, rfl, h_40, h_41, h_42, h_43, h_44, h_45⟩ := ht9
    have G : zS T A s.heap s [[(t, .inr (8, [.ref a1_32, .int ln, .int fl, .int pl, .ref a2_33, .ref a3_34, .ref a4_35, .ref a5_36]))], [(a1_32, .inl (T.2 1, 600, .inl x9))], [(a2_33, .inl (T.2 0, 3, .inl fk))], [(a3_34, .inl (T.2 3, 2, .inr (.inr (.inr (.inr q1_37)))))], [(a4_35, .inl (T.2 4, 2, .inr (.inr (.inr (.inr q2_38)))))], [(a5_36, .inl (T.2 5, 2, .inr (.inr (.inr (.inr q3_39)))))], z0_, z1_, wd0_, wd1_, wg0_, wg1_, [(o, .inr (8, [.ref a1_15, .int lno, .int flo, .int plo, .ref a2_16, .ref a3_17, .ref a4_18, .ref a5_19]))], [(a1_15, .inl (T.2 1, 600, .inl fto))], [(a2_16, .inl (T.2 0, 3, .inl fko))], [(a3_17, .inl (T.2 3, 2, .inr (.inr (.inr (.inr q1_20)))))], [(a4_18, .inl (T.2 4, 2, .inr (.inr (.inr (.inr q2_21)))))], [(a5_19, .inl (T.2 5, 2, .inr (.inr (.inr (.inr q3_22)))))], z0_o, z1_o, wd0_o, wd1_o, wg0_o, wg1_o] _ _ := G.re rfl
    refine z_put C G clX9 0 rfl 1 (by decide) m_fl_RX9_44 rfl rfl rfl (Nat.le_of_ble_eq_true rfl) dX9_takeAll_32 (fun H locs G => ?_)
    have G : zS T A s.heap s [[(t, .inr (8, [.ref a1_32, .int lno, .int fl, .int pl, .ref a2_33, .ref a3_34, .ref a4_35, .ref a5_36]))], [(a1_32, .inl (T.2 1, 600, .inl x9))], [(a2_33, .inl (T.2 0, 3, .inl fk))], [(a3_34, .inl (T.2 3, 2, .inr (.inr (.inr (.inr q1_37)))))], [(a4_35, .inl (T.2 4, 2, .inr (.inr (.inr (.inr q2_38)))))], [(a5_36, .inl (T.2 5, 2, .inr (.inr (.inr (.inr q3_39)))))], z0_, z1_, wd0_, wd1_, wg0_, wg1_, [(o, .inr (8, [.ref a1_15, .int lno, .int flo, .int plo, .ref a2_16, .ref a3_17, .ref a4_18, .ref a5_19]))], [(a1_15, .inl (T.2 1, 600, .inl fto))], [(a2_16, .inl (T.2 0, 3, .inl fko))], [(a3_17, .inl (T.2 3, 2, .inr (.inr (.inr (.inr q1_20)))))], [(a4_18, .inl (T.2 4, 2, .inr (.inr (.inr (.inr q2_21)))))], [(a5_19, .inl (T.2 5, 2, .inr (.inr (.inr (.inr q3_22)))))], z0_o, z1_o, wd0_o, wd1_o, wg0_o, wg1_o] _ _ := G
    refine lv_aload_n hx hb dX9_takeAll_35 rfl (lv_at hl 1 rfl) ?_
    refine lv_aload_n hx hb dX9_takeAll_36 rfl (lv_at hl 2 rfl) ?_
    refine z_get C G clX9 12 rfl 2 (by decide) m_fl_RX9_77 rfl dX9_takeAll_37 ?_
    refine z_put C G clX9 0 rfl 2 (by decide) m_fl_RX9_77 rfl rfl rfl (Nat.le_of_ble_eq_true rfl) dX9_takeAll_40 (fun H locs G => ?_)
    have G : zS T A s.heap s [[(t, .inr (8, [.ref a1_32, .int lno, .int flo, .int pl, .ref a2_33, .ref a3_34, .ref a4_35, .ref a5_36]))], [(a1_32, .inl (T.2 1, 600, .inl x9))], [(a2_33, .inl (T.2 0, 3, .inl fk))], [(a3_34, .inl (T.2 3, 2, .inr (.inr (.inr (.inr q1_37)))))], [(a4_35, .inl (T.2 4, 2, .inr (.inr (.inr (.inr q2_38)))))], [(a5_36, .inl (T.2 5, 2, .inr (.inr (.inr (.inr q3_39)))))], z0_, z1_, wd0_, wd1_, wg0_, wg1_, [(o, .inr (8, [.ref a1_15, .int lno, .int flo, .int plo, .ref a2_16, .ref a3_17, .ref a4_18, .ref a5_19]))], [(a1_15, .inl (T.2 1, 600, .inl fto))], [(a2_16, .inl (T.2 0, 3, .inl fko))], [(a3_17, .inl (T.2 3, 2, .inr (.inr (.inr (.inr q1_20)))))], [(a4_18, .inl (T.2 4, 2, .inr (.inr (.inr (.inr q2_21)))))], [(a5_19, .inl (T.2 5, 2, .inr (.inr (.inr (.inr q3_22)))))], z0_o, z1_o, wd0_o, wd1_o, wg0_o, wg1_o] _ _ := G
    refine lv_aload_n hx hb dX9_takeAll_43 rfl (lv_at hl 1 rfl) ?_
    refine lv_aload_n hx hb dX9_takeAll_44 rfl (lv_at hl 2 rfl) ?_
    refine z_get C G clX9 12 rfl 3 (by decide) m_fl_RX9_15 rfl dX9_takeAll_45 ?_
    refine z_put C G clX9 0 rfl 3 (by decide) m_fl_RX9_15 rfl rfl rfl (Nat.le_of_ble_eq_true rfl) dX9_takeAll_48 (fun H locs G => ?_)
    have G : zS T A s.heap s [[(t, .inr (8, [.ref a1_32, .int lno, .int flo, .int plo, .ref a2_33, .ref a3_34, .ref a4_35, .ref a5_36]))], [(a1_32, .inl (T.2 1, 600, .inl x9))], [(a2_33, .inl (T.2 0, 3, .inl fk))], [(a3_34, .inl (T.2 3, 2, .inr (.inr (.inr (.inr q1_37)))))], [(a4_35, .inl (T.2 4, 2, .inr (.inr (.inr (.inr q2_38)))))], [(a5_36, .inl (T.2 5, 2, .inr (.inr (.inr (.inr q3_39)))))], z0_, z1_, wd0_, wd1_, wg0_, wg1_, [(o, .inr (8, [.ref a1_15, .int lno, .int flo, .int plo, .ref a2_16, .ref a3_17, .ref a4_18, .ref a5_19]))], [(a1_15, .inl (T.2 1, 600, .inl fto))], [(a2_16, .inl (T.2 0, 3, .inl fko))], [(a3_17, .inl (T.2 3, 2, .inr (.inr (.inr (.inr q1_20)))))], [(a4_18, .inl (T.2 4, 2, .inr (.inr (.inr (.inr q2_21)))))], [(a5_19, .inl (T.2 5, 2, .inr (.inr (.inr (.inr q3_22)))))], z0_o, z1_o, wd0_o, wd1_o, wg0_o, wg1_o] _ _ := G
    refine lv_iconst (v := 0) hx hb dX9_takeAll_51 (by decide) ?_
    refine lv_istore_n (lv' := [(2, .int 0), (0, .ref t), (1, .ref o)]) hx hb dX9_takeAll_52 rfl hl (by decide) rfl (fun ls hl => ?_)
    refine lv_iload_n hx hb dX9_takeAll_53 rfl (lv_at hl 0 rfl) ?_
    refine lv_iconst (v := 2) hx hb dX9_takeAll_54 (by decide) ?_
    refine lv_icmp_gt (tgt := 76) hx hb dX9_takeAll_55 (by decide) (fun q => absurd q (by decide)) (fun _ => ?_)
    refine lv_aload_n hx hb dX9_takeAll_58 rfl (lv_at hl 1 rfl) ?_
    refine z_get C G clX9 0 rfl 4 (by decide) m_fl_RX9_19 rfl dX9_takeAll_59 ?_
    refine lv_iload_n hx hb dX9_takeAll_62 rfl (lv_at hl 0 rfl) ?_
    refine lv_aload_n hx hb dX9_takeAll_63 rfl (lv_at hl 2 rfl) ?_
    refine z_get C G clX9 12 rfl 4 (by decide) m_fl_RX9_19 rfl dX9_takeAll_64 ?_
    refine lv_iload_n hx hb dX9_takeAll_67 rfl (lv_at hl 0 rfl) ?_
    refine z_ild C G 14 rfl (vp_in_nI (n := 0) (by decide) (by decide)) dX9_takeAll_68 ?_
    refine lv_topi (fun v_46 ev_46 => ?_)
    rw [show ((0 : Int32).toNatClampNeg) = 0 from rfl] at ev_46
    subst ev_46
    refine z_ist C G 2 rfl (vp_in_nI (n := 0) (by decide) (by decide)) dX9_takeAll_69 (fun H locs G => ?_)
    have G : zS T A s.heap s [[(t, .inr (8, [.ref a1_32, .int lno, .int flo, .int plo, .ref a2_33, .ref a3_34, .ref a4_35, .ref a5_36]))], [(a1_32, .inl (T.2 1, 600, .inl x9))], [(a2_33, .inl (T.2 0, 3, .inl (upd fk 0 (fko 0))))], [(a3_34, .inl (T.2 3, 2, .inr (.inr (.inr (.inr q1_37)))))], [(a4_35, .inl (T.2 4, 2, .inr (.inr (.inr (.inr q2_38)))))], [(a5_36, .inl (T.2 5, 2, .inr (.inr (.inr (.inr q3_39)))))], z0_, z1_, wd0_, wd1_, wg0_, wg1_, [(o, .inr (8, [.ref a1_15, .int lno, .int flo, .int plo, .ref a2_16, .ref a3_17, .ref a4_18, .ref a5_19]))], [(a1_15, .inl (T.2 1, 600, .inl fto))], [(a2_16, .inl (T.2 0, 3, .inl fko))], [(a3_17, .inl (T.2 3, 2, .inr (.inr (.inr (.inr q1_20)))))], [(a4_18, .inl (T.2 4, 2, .inr (.inr (.inr (.inr q2_21)))))], [(a5_19, .inl (T.2 5, 2, .inr (.inr (.inr (.inr q3_22)))))], z0_o, z1_o, wd0_o, wd1_o, wg0_o, wg1_o] _ _ := G
    refine lv_iinc (v := 1) (lv' := [(2, .int 1), (0, .ref t), (1, .ref o)]) hx hb dX9_takeAll_70 hl (k := 0) rfl (by decide) (by decide) rfl (fun ls hl => ?_)
    refine lv_goto (tgt := 53) hx hb dX9_takeAll_73 (by decide) ?_
    refine lv_iload_n hx hb dX9_takeAll_53 rfl (lv_at hl 0 rfl) ?_
    refine lv_iconst (v := 2) hx hb dX9_takeAll_54 (by decide) ?_
    refine lv_icmp_gt (tgt := 76) hx hb dX9_takeAll_55 (by decide) (fun q => absurd q (by decide)) (fun _ => ?_)
    refine lv_aload_n hx hb dX9_takeAll_58 rfl (lv_at hl 1 rfl) ?_
    refine z_get C G clX9 0 rfl 4 (by decide) m_fl_RX9_19 rfl dX9_takeAll_59 ?_
    refine lv_iload_n hx hb dX9_takeAll_62 rfl (lv_at hl 0 rfl) ?_
    refine lv_aload_n hx hb dX9_takeAll_63 rfl (lv_at hl 2 rfl) ?_
    refine z_get C G clX9 12 rfl 4 (by decide) m_fl_RX9_19 rfl dX9_takeAll_64 ?_
    refine lv_iload_n hx hb dX9_takeAll_67 rfl (lv_at hl 0 rfl) ?_
    refine z_ild C G 14 rfl (vp_in_nI (n := 1) (by decide) (by decide)) dX9_takeAll_68 ?_
    refine lv_topi (fun v_47 ev_47 => ?_)
    rw [show ((1 : Int32).toNatClampNeg) = 1 from rfl] at ev_47
    subst ev_47
    refine z_ist C G 2 rfl (vp_in_nI (n := 1) (by decide) (by decide)) dX9_takeAll_69 (fun H locs G => ?_)
    have G : zS T A s.heap s [[(t, .inr (8, [.ref a1_32, .int lno, .int flo, .int plo, .ref a2_33, .ref a3_34, .ref a4_35, .ref a5_36]))], [(a1_32, .inl (T.2 1, 600, .inl x9))], [(a2_33, .inl (T.2 0, 3, .inl (upd (upd fk 0 (fko 0)) 1 (fko 1))))], [(a3_34, .inl (T.2 3, 2, .inr (.inr (.inr (.inr q1_37)))))], [(a4_35, .inl (T.2 4, 2, .inr (.inr (.inr (.inr q2_38)))))], [(a5_36, .inl (T.2 5, 2, .inr (.inr (.inr (.inr q3_39)))))], z0_, z1_, wd0_, wd1_, wg0_, wg1_, [(o, .inr (8, [.ref a1_15, .int lno, .int flo, .int plo, .ref a2_16, .ref a3_17, .ref a4_18, .ref a5_19]))], [(a1_15, .inl (T.2 1, 600, .inl fto))], [(a2_16, .inl (T.2 0, 3, .inl fko))], [(a3_17, .inl (T.2 3, 2, .inr (.inr (.inr (.inr q1_20)))))], [(a4_18, .inl (T.2 4, 2, .inr (.inr (.inr (.inr q2_21)))))], [(a5_19, .inl (T.2 5, 2, .inr (.inr (.inr (.inr q3_22)))))], z0_o, z1_o, wd0_o, wd1_o, wg0_o, wg1_o] _ _ := G
    refine lv_iinc (v := 2) (lv' := [(2, .int 2), (0, .ref t), (1, .ref o)]) hx hb dX9_takeAll_70 hl (k := 0) rfl (by decide) (by decide) rfl (fun ls hl => ?_)
    refine lv_goto (tgt := 53) hx hb dX9_takeAll_73 (by decide) ?_
    refine lv_iload_n hx hb dX9_takeAll_53 rfl (lv_at hl 0 rfl) ?_
    refine lv_iconst (v := 2) hx hb dX9_takeAll_54 (by decide) ?_
    refine lv_icmp_gt (tgt := 76) hx hb dX9_takeAll_55 (by decide) (fun q => absurd q (by decide)) (fun _ => ?_)
    refine lv_aload_n hx hb dX9_takeAll_58 rfl (lv_at hl 1 rfl) ?_
    refine z_get C G clX9 0 rfl 4 (by decide) m_fl_RX9_19 rfl dX9_takeAll_59 ?_
    refine lv_iload_n hx hb dX9_takeAll_62 rfl (lv_at hl 0 rfl) ?_
    refine lv_aload_n hx hb dX9_takeAll_63 rfl (lv_at hl 2 rfl) ?_
    refine z_get C G clX9 12 rfl 4 (by decide) m_fl_RX9_19 rfl dX9_takeAll_64 ?_
    refine lv_iload_n hx hb dX9_takeAll_67 rfl (lv_at hl 0 rfl) ?_
    refine z_ild C G 14 rfl (vp_in_nI (n := 2) (by decide) (by decide)) dX9_takeAll_68 ?_
    refine lv_topi (fun v_48 ev_48 => ?_)
    rw [show ((2 : Int32).toNatClampNeg) = 2 from rfl] at ev_48
    subst ev_48
    refine z_ist C G 2 rfl (vp_in_nI (n := 2) (by decide) (by decide)) dX9_takeAll_69 (fun H locs G => ?_)
    have G : zS T A s.heap s [[(t, .inr (8, [.ref a1_32, .int lno, .int flo, .int plo, .ref a2_33, .ref a3_34, .ref a4_35, .ref a5_36]))], [(a1_32, .inl (T.2 1, 600, .inl x9))], [(a2_33, .inl (T.2 0, 3, .inl (upd (upd (upd fk 0 (fko 0)) 1 (fko 1)) 2 (fko 2))))], [(a3_34, .inl (T.2 3, 2, .inr (.inr (.inr (.inr q1_37)))))], [(a4_35, .inl (T.2 4, 2, .inr (.inr (.inr (.inr q2_38)))))], [(a5_36, .inl (T.2 5, 2, .inr (.inr (.inr (.inr q3_39)))))], z0_, z1_, wd0_, wd1_, wg0_, wg1_, [(o, .inr (8, [.ref a1_15, .int lno, .int flo, .int plo, .ref a2_16, .ref a3_17, .ref a4_18, .ref a5_19]))], [(a1_15, .inl (T.2 1, 600, .inl fto))], [(a2_16, .inl (T.2 0, 3, .inl fko))], [(a3_17, .inl (T.2 3, 2, .inr (.inr (.inr (.inr q1_20)))))], [(a4_18, .inl (T.2 4, 2, .inr (.inr (.inr (.inr q2_21)))))], [(a5_19, .inl (T.2 5, 2, .inr (.inr (.inr (.inr q3_22)))))], z0_o, z1_o, wd0_o, wd1_o, wg0_o, wg1_o] _ _ := G
    refine lv_iinc (v := 3) (lv' := [(2, .int 3), (0, .ref t), (1, .ref o)]) hx hb dX9_takeAll_70 hl (k := 0) rfl (by decide) (by decide) rfl (fun ls hl => ?_)
    refine lv_goto (tgt := 53) hx hb dX9_takeAll_73 (by decide) ?_
    refine lv_iload_n hx hb dX9_takeAll_53 rfl (lv_at hl 0 rfl) ?_
    refine lv_iconst (v := 2) hx hb dX9_takeAll_54 (by decide) ?_
    refine lv_icmp_gt (tgt := 76) hx hb dX9_takeAll_55 (by decide) (fun _ => ?_) (fun q => absurd (by decide) q)
    refine lv_iconst (v := 0) hx hb dX9_takeAll_76 (by decide) ?_
    refine lv_istore_n (lv' := [(2, .int 0), (0, .ref t), (1, .ref o)]) hx hb dX9_takeAll_77 rfl hl (by decide) rfl (fun ls hl => ?_)
    refine lv_iload_n hx hb dX9_takeAll_78 rfl (lv_at hl 0 rfl) ?_
    refine lv_iconst (v := 2) hx hb dX9_takeAll_79 (by decide) ?_
    refine lv_icmp_ge (tgt := 134) hx hb dX9_takeAll_80 (by decide) (fun q => absurd q (by decide)) (fun _ => ?_)
    refine lv_aload_n hx hb dX9_takeAll_83 rfl (lv_at hl 1 rfl) ?_
    refine z_get C G clX9 0 rfl 5 (by decide) m_fl_RX9_26 rfl dX9_takeAll_84 ?_
    refine lv_iload_n hx hb dX9_takeAll_87 rfl (lv_at hl 0 rfl) ?_
    refine z_ald C G 3 3 rfl rfl (vp_in_nI (n := 0) (by decide) (by decide)) dX9_takeAll_88 ?_
    rw [show q1_37 ((0 : Int32).toNatClampNeg) = some l0 from h_40]
    refine lv_aload_n hx hb dX9_takeAll_89 rfl (lv_at hl 2 rfl) ?_
    refine z_get C G clX9 12 rfl 5 (by decide) m_fl_RX9_26 rfl dX9_takeAll_90 ?_
    refine lv_iload_n hx hb dX9_takeAll_93 rfl (lv_at hl 0 rfl) ?_
    refine z_ald C G 15 3 rfl rfl (vp_in_nI (n := 0) (by decide) (by decide)) dX9_takeAll_94 ?_
    rw [show q1_20 ((0 : Int32).toNatClampNeg) = some l0o from h_23]
    refine z_Vv (bc := [z0_, z0_o]) (br := [[(t, .inr (8, [.ref a1_32, .int lno, .int flo, .int plo, .ref a2_33, .ref a3_34, .ref a4_35, .ref a5_36]))], [(a1_32, .inl (T.2 1, 600, .inl x9))], [(a2_33, .inl (T.2 0, 3, .inl (upd (upd (upd fk 0 (fko 0)) 1 (fko 1)) 2 (fko 2))))], [(a3_34, .inl (T.2 3, 2, .inr (.inr (.inr (.inr q1_37)))))], [(a4_35, .inl (T.2 4, 2, .inr (.inr (.inr (.inr q2_38)))))], [(a5_36, .inl (T.2 5, 2, .inr (.inr (.inr (.inr q3_39)))))], z1_, wd0_, wd1_, wg0_, wg1_, [(o, .inr (8, [.ref a1_15, .int lno, .int flo, .int plo, .ref a2_16, .ref a3_17, .ref a4_18, .ref a5_19]))], [(a1_15, .inl (T.2 1, 600, .inl fto))], [(a2_16, .inl (T.2 0, 3, .inl fko))], [(a3_17, .inl (T.2 3, 2, .inr (.inr (.inr (.inr q1_20)))))], [(a4_18, .inl (T.2 4, 2, .inr (.inr (.inr (.inr q2_21)))))], [(a5_19, .inl (T.2 5, 2, .inr (.inr (.inr (.inr q3_22)))))], z1_o, wd0_o, wd1_o, wg0_o, wg1_o]) (As := [.ref l0o]) (rest := []) C G (c_Land_takeAll l T l0 l0o cr0_ inn0_ k10_ k20_ k30_ k40_ cr0_o inn0_o k10_o k20_o k30_o k40_o z0_ z0_o hz0_ hz0_o) (kV_RX9_53 C.2.2.2.2 (Nat.le_of_ble_eq_true rfl) (Nat.le_of_ble_eq_true rfl)) [6, 18] [0, 1, 2, 3, 4, 5, 7, 8, 9, 10, 11, 12, 13, 14, 15, 16, 17, 19, 20, 21, 22, 23] rfl rfl (ci := 4) (qc := (RX4, TX4, 6)) rfl rfl (List.mem_flatten.mpr ⟨_, List.mem_of_getElem? (i := 0) rfl, (bLand_mem hz0_).choose_spec⟩) rfl rfl hl.1 dX9_takeAll_95 (Nat.le_of_ble_eq_true rfl) (Nat.le_of_ble_eq_true rfl) (fun b1 H locs hw G => ?_)
    obtain ⟨w2_49, g1_50, g2_51, g3_52, g4_53, rfl, h_54, h_55, h_56, h_57, h_58⟩ := hw
    have G : zS T A s.heap s [[(t, .inr (8, [.ref a1_32, .int lno, .int flo, .int plo, .ref a2_33, .ref a3_34, .ref a4_35, .ref a5_36]))], [(a1_32, .inl (T.2 1, 600, .inl x9))], [(a2_33, .inl (T.2 0, 3, .inl (upd (upd (upd fk 0 (fko 0)) 1 (fko 1)) 2 (fko 2))))], [(a3_34, .inl (T.2 3, 2, .inr (.inr (.inr (.inr q1_37)))))], [(a4_35, .inl (T.2 4, 2, .inr (.inr (.inr (.inr q2_38)))))], [(a5_36, .inl (T.2 5, 2, .inr (.inr (.inr (.inr q3_39)))))], z1_, wd0_, wd1_, wg0_, wg1_, [(o, .inr (8, [.ref a1_15, .int lno, .int flo, .int plo, .ref a2_16, .ref a3_17, .ref a4_18, .ref a5_19]))], [(a1_15, .inl (T.2 1, 600, .inl fto))], [(a2_16, .inl (T.2 0, 3, .inl fko))], [(a3_17, .inl (T.2 3, 2, .inr (.inr (.inr (.inr q1_20)))))], [(a4_18, .inl (T.2 4, 2, .inr (.inr (.inr (.inr q2_21)))))], [(a5_19, .inl (T.2 5, 2, .inr (.inr (.inr (.inr q3_22)))))], z1_o, wd0_o, wd1_o, wg0_o, wg1_o, w2_49, z0_o] _ _ := G
    refine lv_aload_n hx hb dX9_takeAll_98 rfl (lv_at hl 1 rfl) ?_
    refine z_get C G clX9 0 rfl 6 (by decide) m_fl_RX9_33 rfl dX9_takeAll_99 ?_
    refine lv_iload_n hx hb dX9_takeAll_102 rfl (lv_at hl 0 rfl) ?_
    refine z_ald C G 4 4 rfl rfl (vp_in_nI (n := 0) (by decide) (by decide)) dX9_takeAll_103 ?_
    rw [show q2_38 ((0 : Int32).toNatClampNeg) = some d0 from h_42]
    refine lv_aload_n hx hb dX9_takeAll_104 rfl (lv_at hl 2 rfl) ?_
    refine z_get C G clX9 11 rfl 6 (by decide) m_fl_RX9_33 rfl dX9_takeAll_105 ?_
    refine lv_iload_n hx hb dX9_takeAll_108 rfl (lv_at hl 0 rfl) ?_
    refine z_ald C G 15 4 rfl rfl (vp_in_nI (n := 0) (by decide) (by decide)) dX9_takeAll_109 ?_
    rw [show q2_21 ((0 : Int32).toNatClampNeg) = some d0o from h_25]
    refine z_Vv (bc := [wd0_, wd0_o]) (br := [[(t, .inr (8, [.ref a1_32, .int lno, .int flo, .int plo, .ref a2_33, .ref a3_34, .ref a4_35, .ref a5_36]))], [(a1_32, .inl (T.2 1, 600, .inl x9))], [(a2_33, .inl (T.2 0, 3, .inl (upd (upd (upd fk 0 (fko 0)) 1 (fko 1)) 2 (fko 2))))], [(a3_34, .inl (T.2 3, 2, .inr (.inr (.inr (.inr q1_37)))))], [(a4_35, .inl (T.2 4, 2, .inr (.inr (.inr (.inr q2_38)))))], [(a5_36, .inl (T.2 5, 2, .inr (.inr (.inr (.inr q3_39)))))], z1_, wd1_, wg0_, wg1_, [(o, .inr (8, [.ref a1_15, .int lno, .int flo, .int plo, .ref a2_16, .ref a3_17, .ref a4_18, .ref a5_19]))], [(a1_15, .inl (T.2 1, 600, .inl fto))], [(a2_16, .inl (T.2 0, 3, .inl fko))], [(a3_17, .inl (T.2 3, 2, .inr (.inr (.inr (.inr q1_20)))))], [(a4_18, .inl (T.2 4, 2, .inr (.inr (.inr (.inr q2_21)))))], [(a5_19, .inl (T.2 5, 2, .inr (.inr (.inr (.inr q3_22)))))], z1_o, wd1_o, wg0_o, wg1_o, w2_49, z0_o]) (As := [.ref d0o]) (rest := []) C G (c_Day_takeAll l T d0 d0o dd0_ p10_ p20_ p30_ dd0_o p10_o p20_o p30_o wd0_ wd0_o hd0_ hd0_o) (kV_RX9_61 C.2.2.2.2 (Nat.le_of_ble_eq_true rfl) (Nat.le_of_ble_eq_true rfl)) [7, 18] [0, 1, 2, 3, 4, 5, 6, 8, 9, 10, 11, 12, 13, 14, 15, 16, 17, 19, 20, 21, 22, 23] rfl rfl (ci := 2) (qc := (RX2, TX2, 4)) rfl rfl (List.mem_flatten.mpr ⟨_, List.mem_of_getElem? (i := 0) rfl, (bDay_mem hd0_).choose_spec⟩) rfl rfl hl.1 dX9_takeAll_110 (Nat.le_of_ble_eq_true rfl) (Nat.le_of_ble_eq_true rfl) (fun b1 H locs hw G => ?_)
    obtain ⟨w2_60, g1_61, g2_62, g3_63, rfl, h_64, h_65, h_66, h_67⟩ := hw
    have G : zS T A s.heap s [[(t, .inr (8, [.ref a1_32, .int lno, .int flo, .int plo, .ref a2_33, .ref a3_34, .ref a4_35, .ref a5_36]))], [(a1_32, .inl (T.2 1, 600, .inl x9))], [(a2_33, .inl (T.2 0, 3, .inl (upd (upd (upd fk 0 (fko 0)) 1 (fko 1)) 2 (fko 2))))], [(a3_34, .inl (T.2 3, 2, .inr (.inr (.inr (.inr q1_37)))))], [(a4_35, .inl (T.2 4, 2, .inr (.inr (.inr (.inr q2_38)))))], [(a5_36, .inl (T.2 5, 2, .inr (.inr (.inr (.inr q3_39)))))], z1_, wd1_, wg0_, wg1_, [(o, .inr (8, [.ref a1_15, .int lno, .int flo, .int plo, .ref a2_16, .ref a3_17, .ref a4_18, .ref a5_19]))], [(a1_15, .inl (T.2 1, 600, .inl fto))], [(a2_16, .inl (T.2 0, 3, .inl fko))], [(a3_17, .inl (T.2 3, 2, .inr (.inr (.inr (.inr q1_20)))))], [(a4_18, .inl (T.2 4, 2, .inr (.inr (.inr (.inr q2_21)))))], [(a5_19, .inl (T.2 5, 2, .inr (.inr (.inr (.inr q3_22)))))], z1_o, wd1_o, wg0_o, wg1_o, w2_49, z0_o, w2_60, wd0_o] _ _ := G
    refine lv_aload_n hx hb dX9_takeAll_113 rfl (lv_at hl 1 rfl) ?_
    refine z_get C G clX9 0 rfl 7 (by decide) m_fl_RX9_40 rfl dX9_takeAll_114 ?_
    refine lv_iload_n hx hb dX9_takeAll_117 rfl (lv_at hl 0 rfl) ?_
    refine z_ald C G 5 5 rfl rfl (vp_in_nI (n := 0) (by decide) (by decide)) dX9_takeAll_118 ?_
    rw [show q3_39 ((0 : Int32).toNatClampNeg) = some g0 from h_44]
    refine lv_aload_n hx hb dX9_takeAll_119 rfl (lv_at hl 2 rfl) ?_
    refine z_get C G clX9 10 rfl 7 (by decide) m_fl_RX9_40 rfl dX9_takeAll_120 ?_
    refine lv_iload_n hx hb dX9_takeAll_123 rfl (lv_at hl 0 rfl) ?_
    refine z_ald C G 15 5 rfl rfl (vp_in_nI (n := 0) (by decide) (by decide)) dX9_takeAll_124 ?_
    rw [show q3_22 ((0 : Int32).toNatClampNeg) = some g0o from h_27]
    refine z_Vv (bc := [wg0_, wg0_o]) (br := [[(t, .inr (8, [.ref a1_32, .int lno, .int flo, .int plo, .ref a2_33, .ref a3_34, .ref a4_35, .ref a5_36]))], [(a1_32, .inl (T.2 1, 600, .inl x9))], [(a2_33, .inl (T.2 0, 3, .inl (upd (upd (upd fk 0 (fko 0)) 1 (fko 1)) 2 (fko 2))))], [(a3_34, .inl (T.2 3, 2, .inr (.inr (.inr (.inr q1_37)))))], [(a4_35, .inl (T.2 4, 2, .inr (.inr (.inr (.inr q2_38)))))], [(a5_36, .inl (T.2 5, 2, .inr (.inr (.inr (.inr q3_39)))))], z1_, wd1_, wg1_, [(o, .inr (8, [.ref a1_15, .int lno, .int flo, .int plo, .ref a2_16, .ref a3_17, .ref a4_18, .ref a5_19]))], [(a1_15, .inl (T.2 1, 600, .inl fto))], [(a2_16, .inl (T.2 0, 3, .inl fko))], [(a3_17, .inl (T.2 3, 2, .inr (.inr (.inr (.inr q1_20)))))], [(a4_18, .inl (T.2 4, 2, .inr (.inr (.inr (.inr q2_21)))))], [(a5_19, .inl (T.2 5, 2, .inr (.inr (.inr (.inr q3_22)))))], z1_o, wd1_o, wg1_o, w2_49, z0_o, w2_60, wd0_o]) (As := [.ref g0o]) (rest := []) C G (c_Log_takeAll l T g0 g0o gg0_ q10_ q20_ gg0_o q10_o q20_o wg0_ wg0_o hg0_ hg0_o) (kV_RX9_68 C.2.2.2.2 (Nat.le_of_ble_eq_true rfl) (Nat.le_of_ble_eq_true rfl)) [8, 18] [0, 1, 2, 3, 4, 5, 6, 7, 9, 10, 11, 12, 13, 14, 15, 16, 17, 19, 20, 21, 22, 23] rfl rfl (ci := 5) (qc := (RX5, TX5, 3)) rfl rfl (List.mem_flatten.mpr ⟨_, List.mem_of_getElem? (i := 0) rfl, (bLog_mem hg0_).choose_spec⟩) rfl rfl hl.1 dX9_takeAll_125 (Nat.le_of_ble_eq_true rfl) (Nat.le_of_ble_eq_true rfl) (fun b1 H locs hw G => ?_)
    obtain ⟨w2_69, g1_70, g2_71, rfl, h_72, h_73, h_74⟩ := hw
    have G : zS T A s.heap s [[(t, .inr (8, [.ref a1_32, .int lno, .int flo, .int plo, .ref a2_33, .ref a3_34, .ref a4_35, .ref a5_36]))], [(a1_32, .inl (T.2 1, 600, .inl x9))], [(a2_33, .inl (T.2 0, 3, .inl (upd (upd (upd fk 0 (fko 0)) 1 (fko 1)) 2 (fko 2))))], [(a3_34, .inl (T.2 3, 2, .inr (.inr (.inr (.inr q1_37)))))], [(a4_35, .inl (T.2 4, 2, .inr (.inr (.inr (.inr q2_38)))))], [(a5_36, .inl (T.2 5, 2, .inr (.inr (.inr (.inr q3_39)))))], z1_, wd1_, wg1_, [(o, .inr (8, [.ref a1_15, .int lno, .int flo, .int plo, .ref a2_16, .ref a3_17, .ref a4_18, .ref a5_19]))], [(a1_15, .inl (T.2 1, 600, .inl fto))], [(a2_16, .inl (T.2 0, 3, .inl fko))], [(a3_17, .inl (T.2 3, 2, .inr (.inr (.inr (.inr q1_20)))))], [(a4_18, .inl (T.2 4, 2, .inr (.inr (.inr (.inr q2_21)))))], [(a5_19, .inl (T.2 5, 2, .inr (.inr (.inr (.inr q3_22)))))], z1_o, wd1_o, wg1_o, w2_49, z0_o, w2_60, wd0_o, w2_69, wg0_o] _ _ := G
    refine lv_iinc (v := 1) (lv' := [(2, .int 1), (0, .ref t), (1, .ref o)]) hx hb dX9_takeAll_128 hl (k := 0) rfl (by decide) (by decide) rfl (fun ls hl => ?_)
    refine lv_goto (tgt := 78) hx hb dX9_takeAll_131 (by decide) ?_
    refine lv_iload_n hx hb dX9_takeAll_78 rfl (lv_at hl 0 rfl) ?_
    refine lv_iconst (v := 2) hx hb dX9_takeAll_79 (by decide) ?_
    refine lv_icmp_ge (tgt := 134) hx hb dX9_takeAll_80 (by decide) (fun q => absurd q (by decide)) (fun _ => ?_)
    refine lv_aload_n hx hb dX9_takeAll_83 rfl (lv_at hl 1 rfl) ?_
    refine z_get C G clX9 0 rfl 5 (by decide) m_fl_RX9_26 rfl dX9_takeAll_84 ?_
    refine lv_iload_n hx hb dX9_takeAll_87 rfl (lv_at hl 0 rfl) ?_
    refine z_ald C G 3 3 rfl rfl (vp_in_nI (n := 1) (by decide) (by decide)) dX9_takeAll_88 ?_
    rw [show q1_37 ((1 : Int32).toNatClampNeg) = some l1 from h_41]
    refine lv_aload_n hx hb dX9_takeAll_89 rfl (lv_at hl 2 rfl) ?_
    refine z_get C G clX9 9 rfl 5 (by decide) m_fl_RX9_26 rfl dX9_takeAll_90 ?_
    refine lv_iload_n hx hb dX9_takeAll_93 rfl (lv_at hl 0 rfl) ?_
    refine z_ald C G 12 3 rfl rfl (vp_in_nI (n := 1) (by decide) (by decide)) dX9_takeAll_94 ?_
    rw [show q1_20 ((1 : Int32).toNatClampNeg) = some l1o from h_24]
    refine z_Vv (bc := [z1_, z1_o]) (br := [[(t, .inr (8, [.ref a1_32, .int lno, .int flo, .int plo, .ref a2_33, .ref a3_34, .ref a4_35, .ref a5_36]))], [(a1_32, .inl (T.2 1, 600, .inl x9))], [(a2_33, .inl (T.2 0, 3, .inl (upd (upd (upd fk 0 (fko 0)) 1 (fko 1)) 2 (fko 2))))], [(a3_34, .inl (T.2 3, 2, .inr (.inr (.inr (.inr q1_37)))))], [(a4_35, .inl (T.2 4, 2, .inr (.inr (.inr (.inr q2_38)))))], [(a5_36, .inl (T.2 5, 2, .inr (.inr (.inr (.inr q3_39)))))], wd1_, wg1_, [(o, .inr (8, [.ref a1_15, .int lno, .int flo, .int plo, .ref a2_16, .ref a3_17, .ref a4_18, .ref a5_19]))], [(a1_15, .inl (T.2 1, 600, .inl fto))], [(a2_16, .inl (T.2 0, 3, .inl fko))], [(a3_17, .inl (T.2 3, 2, .inr (.inr (.inr (.inr q1_20)))))], [(a4_18, .inl (T.2 4, 2, .inr (.inr (.inr (.inr q2_21)))))], [(a5_19, .inl (T.2 5, 2, .inr (.inr (.inr (.inr q3_22)))))], wd1_o, wg1_o, w2_49, z0_o, w2_60, wd0_o, w2_69, wg0_o]) (As := [.ref l1o]) (rest := []) C G (c_Land_takeAll l T l1 l1o cr1_ inn1_ k11_ k21_ k31_ k41_ cr1_o inn1_o k11_o k21_o k31_o k41_o z1_ z1_o hz1_ hz1_o) (kV_RX9_53 C.2.2.2.2 (Nat.le_of_ble_eq_true rfl) (Nat.le_of_ble_eq_true rfl)) [6, 15] [0, 1, 2, 3, 4, 5, 7, 8, 9, 10, 11, 12, 13, 14, 16, 17, 18, 19, 20, 21, 22, 23] rfl rfl (ci := 4) (qc := (RX4, TX4, 6)) rfl rfl (List.mem_flatten.mpr ⟨_, List.mem_of_getElem? (i := 0) rfl, (bLand_mem hz1_).choose_spec⟩) rfl rfl hl.1 dX9_takeAll_95 (Nat.le_of_ble_eq_true rfl) (Nat.le_of_ble_eq_true rfl) (fun b1 H locs hw G => ?_)
    obtain ⟨w2_76, g1_77, g2_78, g3_79, g4_80, rfl, h_81, h_82, h_83, h_84, h_85⟩ := hw
    have G : zS T A s.heap s [[(t, .inr (8, [.ref a1_32, .int lno, .int flo, .int plo, .ref a2_33, .ref a3_34, .ref a4_35, .ref a5_36]))], [(a1_32, .inl (T.2 1, 600, .inl x9))], [(a2_33, .inl (T.2 0, 3, .inl (upd (upd (upd fk 0 (fko 0)) 1 (fko 1)) 2 (fko 2))))], [(a3_34, .inl (T.2 3, 2, .inr (.inr (.inr (.inr q1_37)))))], [(a4_35, .inl (T.2 4, 2, .inr (.inr (.inr (.inr q2_38)))))], [(a5_36, .inl (T.2 5, 2, .inr (.inr (.inr (.inr q3_39)))))], wd1_, wg1_, [(o, .inr (8, [.ref a1_15, .int lno, .int flo, .int plo, .ref a2_16, .ref a3_17, .ref a4_18, .ref a5_19]))], [(a1_15, .inl (T.2 1, 600, .inl fto))], [(a2_16, .inl (T.2 0, 3, .inl fko))], [(a3_17, .inl (T.2 3, 2, .inr (.inr (.inr (.inr q1_20)))))], [(a4_18, .inl (T.2 4, 2, .inr (.inr (.inr (.inr q2_21)))))], [(a5_19, .inl (T.2 5, 2, .inr (.inr (.inr (.inr q3_22)))))], wd1_o, wg1_o, w2_49, z0_o, w2_60, wd0_o, w2_69, wg0_o, w2_76, z1_o] _ _ := G
    refine lv_aload_n hx hb dX9_takeAll_98 rfl (lv_at hl 1 rfl) ?_
    refine z_get C G clX9 0 rfl 6 (by decide) m_fl_RX9_33 rfl dX9_takeAll_99 ?_
    refine lv_iload_n hx hb dX9_takeAll_102 rfl (lv_at hl 0 rfl) ?_
    refine z_ald C G 4 4 rfl rfl (vp_in_nI (n := 1) (by decide) (by decide)) dX9_takeAll_103 ?_
    rw [show q2_38 ((1 : Int32).toNatClampNeg) = some d1 from h_43]
    refine lv_aload_n hx hb dX9_takeAll_104 rfl (lv_at hl 2 rfl) ?_
    refine z_get C G clX9 8 rfl 6 (by decide) m_fl_RX9_33 rfl dX9_takeAll_105 ?_
    refine lv_iload_n hx hb dX9_takeAll_108 rfl (lv_at hl 0 rfl) ?_
    refine z_ald C G 12 4 rfl rfl (vp_in_nI (n := 1) (by decide) (by decide)) dX9_takeAll_109 ?_
    rw [show q2_21 ((1 : Int32).toNatClampNeg) = some d1o from h_26]
    refine z_Vv (bc := [wd1_, wd1_o]) (br := [[(t, .inr (8, [.ref a1_32, .int lno, .int flo, .int plo, .ref a2_33, .ref a3_34, .ref a4_35, .ref a5_36]))], [(a1_32, .inl (T.2 1, 600, .inl x9))], [(a2_33, .inl (T.2 0, 3, .inl (upd (upd (upd fk 0 (fko 0)) 1 (fko 1)) 2 (fko 2))))], [(a3_34, .inl (T.2 3, 2, .inr (.inr (.inr (.inr q1_37)))))], [(a4_35, .inl (T.2 4, 2, .inr (.inr (.inr (.inr q2_38)))))], [(a5_36, .inl (T.2 5, 2, .inr (.inr (.inr (.inr q3_39)))))], wg1_, [(o, .inr (8, [.ref a1_15, .int lno, .int flo, .int plo, .ref a2_16, .ref a3_17, .ref a4_18, .ref a5_19]))], [(a1_15, .inl (T.2 1, 600, .inl fto))], [(a2_16, .inl (T.2 0, 3, .inl fko))], [(a3_17, .inl (T.2 3, 2, .inr (.inr (.inr (.inr q1_20)))))], [(a4_18, .inl (T.2 4, 2, .inr (.inr (.inr (.inr q2_21)))))], [(a5_19, .inl (T.2 5, 2, .inr (.inr (.inr (.inr q3_22)))))], wg1_o, w2_49, z0_o, w2_60, wd0_o, w2_69, wg0_o, w2_76, z1_o]) (As := [.ref d1o]) (rest := []) C G (c_Day_takeAll l T d1 d1o dd1_ p11_ p21_ p31_ dd1_o p11_o p21_o p31_o wd1_ wd1_o hd1_ hd1_o) (kV_RX9_61 C.2.2.2.2 (Nat.le_of_ble_eq_true rfl) (Nat.le_of_ble_eq_true rfl)) [6, 14] [0, 1, 2, 3, 4, 5, 7, 8, 9, 10, 11, 12, 13, 15, 16, 17, 18, 19, 20, 21, 22, 23] rfl rfl (ci := 2) (qc := (RX2, TX2, 4)) rfl rfl (List.mem_flatten.mpr ⟨_, List.mem_of_getElem? (i := 0) rfl, (bDay_mem hd1_).choose_spec⟩) rfl rfl hl.1 dX9_takeAll_110 (Nat.le_of_ble_eq_true rfl) (Nat.le_of_ble_eq_true rfl) (fun b1 H locs hw G => ?_)
    obtain ⟨w2_87, g1_88, g2_89, g3_90, rfl, h_91, h_92, h_93, h_94⟩ := hw
    have G : zS T A s.heap s [[(t, .inr (8, [.ref a1_32, .int lno, .int flo, .int plo, .ref a2_33, .ref a3_34, .ref a4_35, .ref a5_36]))], [(a1_32, .inl (T.2 1, 600, .inl x9))], [(a2_33, .inl (T.2 0, 3, .inl (upd (upd (upd fk 0 (fko 0)) 1 (fko 1)) 2 (fko 2))))], [(a3_34, .inl (T.2 3, 2, .inr (.inr (.inr (.inr q1_37)))))], [(a4_35, .inl (T.2 4, 2, .inr (.inr (.inr (.inr q2_38)))))], [(a5_36, .inl (T.2 5, 2, .inr (.inr (.inr (.inr q3_39)))))], wg1_, [(o, .inr (8, [.ref a1_15, .int lno, .int flo, .int plo, .ref a2_16, .ref a3_17, .ref a4_18, .ref a5_19]))], [(a1_15, .inl (T.2 1, 600, .inl fto))], [(a2_16, .inl (T.2 0, 3, .inl fko))], [(a3_17, .inl (T.2 3, 2, .inr (.inr (.inr (.inr q1_20)))))], [(a4_18, .inl (T.2 4, 2, .inr (.inr (.inr (.inr q2_21)))))], [(a5_19, .inl (T.2 5, 2, .inr (.inr (.inr (.inr q3_22)))))], wg1_o, w2_49, z0_o, w2_60, wd0_o, w2_69, wg0_o, w2_76, z1_o, w2_87, wd1_o] _ _ := G
    refine lv_aload_n hx hb dX9_takeAll_113 rfl (lv_at hl 1 rfl) ?_
    refine z_get C G clX9 0 rfl 7 (by decide) m_fl_RX9_40 rfl dX9_takeAll_114 ?_
    refine lv_iload_n hx hb dX9_takeAll_117 rfl (lv_at hl 0 rfl) ?_
    refine z_ald C G 5 5 rfl rfl (vp_in_nI (n := 1) (by decide) (by decide)) dX9_takeAll_118 ?_
    rw [show q3_39 ((1 : Int32).toNatClampNeg) = some g1 from h_45]
    refine lv_aload_n hx hb dX9_takeAll_119 rfl (lv_at hl 2 rfl) ?_
    refine z_get C G clX9 7 rfl 7 (by decide) m_fl_RX9_40 rfl dX9_takeAll_120 ?_
    refine lv_iload_n hx hb dX9_takeAll_123 rfl (lv_at hl 0 rfl) ?_
    refine z_ald C G 12 5 rfl rfl (vp_in_nI (n := 1) (by decide) (by decide)) dX9_takeAll_124 ?_
    rw [show q3_22 ((1 : Int32).toNatClampNeg) = some g1o from h_28]
    refine z_Vv (bc := [wg1_, wg1_o]) (br := [[(t, .inr (8, [.ref a1_32, .int lno, .int flo, .int plo, .ref a2_33, .ref a3_34, .ref a4_35, .ref a5_36]))], [(a1_32, .inl (T.2 1, 600, .inl x9))], [(a2_33, .inl (T.2 0, 3, .inl (upd (upd (upd fk 0 (fko 0)) 1 (fko 1)) 2 (fko 2))))], [(a3_34, .inl (T.2 3, 2, .inr (.inr (.inr (.inr q1_37)))))], [(a4_35, .inl (T.2 4, 2, .inr (.inr (.inr (.inr q2_38)))))], [(a5_36, .inl (T.2 5, 2, .inr (.inr (.inr (.inr q3_39)))))], [(o, .inr (8, [.ref a1_15, .int lno, .int flo, .int plo, .ref a2_16, .ref a3_17, .ref a4_18, .ref a5_19]))], [(a1_15, .inl (T.2 1, 600, .inl fto))], [(a2_16, .inl (T.2 0, 3, .inl fko))], [(a3_17, .inl (T.2 3, 2, .inr (.inr (.inr (.inr q1_20)))))], [(a4_18, .inl (T.2 4, 2, .inr (.inr (.inr (.inr q2_21)))))], [(a5_19, .inl (T.2 5, 2, .inr (.inr (.inr (.inr q3_22)))))], w2_49, z0_o, w2_60, wd0_o, w2_69, wg0_o, w2_76, z1_o, w2_87, wd1_o]) (As := [.ref g1o]) (rest := []) C G (c_Log_takeAll l T g1 g1o gg1_ q11_ q21_ gg1_o q11_o q21_o wg1_ wg1_o hg1_ hg1_o) (kV_RX9_68 C.2.2.2.2 (Nat.le_of_ble_eq_true rfl) (Nat.le_of_ble_eq_true rfl)) [6, 13] [0, 1, 2, 3, 4, 5, 7, 8, 9, 10, 11, 12, 14, 15, 16, 17, 18, 19, 20, 21, 22, 23] rfl rfl (ci := 5) (qc := (RX5, TX5, 3)) rfl rfl (List.mem_flatten.mpr ⟨_, List.mem_of_getElem? (i := 0) rfl, (bLog_mem hg1_).choose_spec⟩) rfl rfl hl.1 dX9_takeAll_125 (Nat.le_of_ble_eq_true rfl) (Nat.le_of_ble_eq_true rfl) (fun b1 H locs hw G => ?_)
    obtain ⟨w2_96, g1_97, g2_98, rfl, h_99, h_100, h_101⟩ := hw
    have G : zS T A s.heap s [[(t, .inr (8, [.ref a1_32, .int lno, .int flo, .int plo, .ref a2_33, .ref a3_34, .ref a4_35, .ref a5_36]))], [(a1_32, .inl (T.2 1, 600, .inl x9))], [(a2_33, .inl (T.2 0, 3, .inl (upd (upd (upd fk 0 (fko 0)) 1 (fko 1)) 2 (fko 2))))], [(a3_34, .inl (T.2 3, 2, .inr (.inr (.inr (.inr q1_37)))))], [(a4_35, .inl (T.2 4, 2, .inr (.inr (.inr (.inr q2_38)))))], [(a5_36, .inl (T.2 5, 2, .inr (.inr (.inr (.inr q3_39)))))], [(o, .inr (8, [.ref a1_15, .int lno, .int flo, .int plo, .ref a2_16, .ref a3_17, .ref a4_18, .ref a5_19]))], [(a1_15, .inl (T.2 1, 600, .inl fto))], [(a2_16, .inl (T.2 0, 3, .inl fko))], [(a3_17, .inl (T.2 3, 2, .inr (.inr (.inr (.inr q1_20)))))], [(a4_18, .inl (T.2 4, 2, .inr (.inr (.inr (.inr q2_21)))))], [(a5_19, .inl (T.2 5, 2, .inr (.inr (.inr (.inr q3_22)))))], w2_49, z0_o, w2_60, wd0_o, w2_69, wg0_o, w2_76, z1_o, w2_87, wd1_o, w2_96, wg1_o] _ _ := G
    refine lv_iinc (v := 2) (lv' := [(2, .int 2), (0, .ref t), (1, .ref o)]) hx hb dX9_takeAll_128 hl (k := 0) rfl (by decide) (by decide) rfl (fun ls hl => ?_)
    refine lv_goto (tgt := 78) hx hb dX9_takeAll_131 (by decide) ?_
    refine lv_iload_n hx hb dX9_takeAll_78 rfl (lv_at hl 0 rfl) ?_
    refine lv_iconst (v := 2) hx hb dX9_takeAll_79 (by decide) ?_
    refine lv_icmp_ge (tgt := 134) hx hb dX9_takeAll_80 (by decide) (fun _ => ?_) (fun q => absurd (by decide) q)
    have hw_103 : bTold T t l0 l1 d0 d1 g0 g1 lno flo plo x9 (upd (upd (upd fk 0 (fko 0)) 1 (fko 1)) 2 (fko 2)) [(t, .inr (8, [.ref a1_32, .int lno, .int flo, .int plo, .ref a2_33, .ref a3_34, .ref a4_35, .ref a5_36])), (a1_32, .inl (T.2 1, 600, .inl x9)), (a2_33, .inl (T.2 0, 3, .inl (upd (upd (upd fk 0 (fko 0)) 1 (fko 1)) 2 (fko 2)))), (a3_34, .inl (T.2 3, 2, .inr (.inr (.inr (.inr q1_37))))), (a4_35, .inl (T.2 4, 2, .inr (.inr (.inr (.inr q2_38))))), (a5_36, .inl (T.2 5, 2, .inr (.inr (.inr (.inr q3_39)))))] := ⟨a1_32, a2_33, a3_34, a4_35, a5_36, q1_37, q2_38, q3_39, rfl, h_40, h_41, h_42, h_43, h_44, h_45⟩
    have G : zS T A s.heap s [[(t, .inr (8, [.ref a1_32, .int lno, .int flo, .int plo, .ref a2_33, .ref a3_34, .ref a4_35, .ref a5_36])), (a1_32, .inl (T.2 1, 600, .inl x9)), (a2_33, .inl (T.2 0, 3, .inl (upd (upd (upd fk 0 (fko 0)) 1 (fko 1)) 2 (fko 2)))), (a3_34, .inl (T.2 3, 2, .inr (.inr (.inr (.inr q1_37))))), (a4_35, .inl (T.2 4, 2, .inr (.inr (.inr (.inr q2_38))))), (a5_36, .inl (T.2 5, 2, .inr (.inr (.inr (.inr q3_39)))))], [(o, .inr (8, [.ref a1_15, .int lno, .int flo, .int plo, .ref a2_16, .ref a3_17, .ref a4_18, .ref a5_19]))], [(a1_15, .inl (T.2 1, 600, .inl fto))], [(a2_16, .inl (T.2 0, 3, .inl fko))], [(a3_17, .inl (T.2 3, 2, .inr (.inr (.inr (.inr q1_20)))))], [(a4_18, .inl (T.2 4, 2, .inr (.inr (.inr (.inr q2_21)))))], [(a5_19, .inl (T.2 5, 2, .inr (.inr (.inr (.inr q3_22)))))], w2_49, z0_o, w2_60, wd0_o, w2_69, wg0_o, w2_76, z1_o, w2_87, wd1_o, w2_96, wg1_o] _ _ := G.re rfl
    have hw_104 : bTold T o l0o l1o d0o d1o g0o g1o lno flo plo fto fko [(o, .inr (8, [.ref a1_15, .int lno, .int flo, .int plo, .ref a2_16, .ref a3_17, .ref a4_18, .ref a5_19])), (a1_15, .inl (T.2 1, 600, .inl fto)), (a2_16, .inl (T.2 0, 3, .inl fko)), (a3_17, .inl (T.2 3, 2, .inr (.inr (.inr (.inr q1_20))))), (a4_18, .inl (T.2 4, 2, .inr (.inr (.inr (.inr q2_21))))), (a5_19, .inl (T.2 5, 2, .inr (.inr (.inr (.inr q3_22)))))] := ⟨a1_15, a2_16, a3_17, a4_18, a5_19, q1_20, q2_21, q3_22, rfl, h_23, h_24, h_25, h_26, h_27, h_28⟩
    have G : zS T A s.heap s [[(t, .inr (8, [.ref a1_32, .int lno, .int flo, .int plo, .ref a2_33, .ref a3_34, .ref a4_35, .ref a5_36])), (a1_32, .inl (T.2 1, 600, .inl x9)), (a2_33, .inl (T.2 0, 3, .inl (upd (upd (upd fk 0 (fko 0)) 1 (fko 1)) 2 (fko 2)))), (a3_34, .inl (T.2 3, 2, .inr (.inr (.inr (.inr q1_37))))), (a4_35, .inl (T.2 4, 2, .inr (.inr (.inr (.inr q2_38))))), (a5_36, .inl (T.2 5, 2, .inr (.inr (.inr (.inr q3_39)))))], [(o, .inr (8, [.ref a1_15, .int lno, .int flo, .int plo, .ref a2_16, .ref a3_17, .ref a4_18, .ref a5_19])), (a1_15, .inl (T.2 1, 600, .inl fto)), (a2_16, .inl (T.2 0, 3, .inl fko)), (a3_17, .inl (T.2 3, 2, .inr (.inr (.inr (.inr q1_20))))), (a4_18, .inl (T.2 4, 2, .inr (.inr (.inr (.inr q2_21))))), (a5_19, .inl (T.2 5, 2, .inr (.inr (.inr (.inr q3_22)))))], w2_49, z0_o, w2_60, wd0_o, w2_69, wg0_o, w2_76, z1_o, w2_87, wd1_o, w2_96, wg1_o] _ _ := G.re rfl
    have G := G.sub (bs' := [[(t, .inr (8, [.ref a1_32, .int lno, .int flo, .int plo, .ref a2_33, .ref a3_34, .ref a4_35, .ref a5_36])), (a1_32, .inl (T.2 1, 600, .inl x9)), (a2_33, .inl (T.2 0, 3, .inl (upd (upd (upd fk 0 (fko 0)) 1 (fko 1)) 2 (fko 2)))), (a3_34, .inl (T.2 3, 2, .inr (.inr (.inr (.inr q1_37))))), (a4_35, .inl (T.2 4, 2, .inr (.inr (.inr (.inr q2_38))))), (a5_36, .inl (T.2 5, 2, .inr (.inr (.inr (.inr q3_39)))))], w2_49, w2_76, w2_60, w2_87, w2_69, w2_96, [(o, .inr (8, [.ref a1_15, .int lno, .int flo, .int plo, .ref a2_16, .ref a3_17, .ref a4_18, .ref a5_19])), (a1_15, .inl (T.2 1, 600, .inl fto)), (a2_16, .inl (T.2 0, 3, .inl fko)), (a3_17, .inl (T.2 3, 2, .inr (.inr (.inr (.inr q1_20))))), (a4_18, .inl (T.2 4, 2, .inr (.inr (.inr (.inr q2_21))))), (a5_19, .inl (T.2 5, 2, .inr (.inr (.inr (.inr q3_22)))))], z0_o, z1_o, wd0_o, wd1_o, wg0_o, wg1_o]) [0, 2, 8, 4, 10, 6, 12, 1, 3, 9, 5, 11, 7, 13] rfl
    exact z_vret C hr hlocks G (Nat.le_of_ble_eq_true rfl) (Nat.le_of_ble_eq_true rfl) dX9_takeAll_134 ⟨([(t, .inr (8, [.ref a1_32, .int lno, .int flo, .int plo, .ref a2_33, .ref a3_34, .ref a4_35, .ref a5_36])), (a1_32, .inl (T.2 1, 600, .inl x9)), (a2_33, .inl (T.2 0, 3, .inl (upd (upd (upd fk 0 (fko 0)) 1 (fko 1)) 2 (fko 2)))), (a3_34, .inl (T.2 3, 2, .inr (.inr (.inr (.inr q1_37))))), (a4_35, .inl (T.2 4, 2, .inr (.inr (.inr (.inr q2_38))))), (a5_36, .inl (T.2 5, 2, .inr (.inr (.inr (.inr q3_39)))))]), x9, (upd (upd (upd fk 0 (fko 0)) 1 (fko 1)) 2 (fko 2)), w2_49, g1_50, g2_51, g3_52, g4_53, w2_76, g1_77, g2_78, g3_79, g4_80, w2_60, g1_61, g2_62, g3_63, w2_87, g1_88, g2_89, g3_90, w2_69, g1_70, g2_71, w2_96, g1_97, g2_98, rfl, hw_103, trivial, (fun j hj => by rcases (show j = 0 ∨ j = 1 ∨ j = 2 from by omega) with q | q | q <;> subst q <;> rfl), (zKT_upd (zKT_upd (zKT_upd hK 0 (hKo 0 (by decide))) 1 (hKo 1 (by decide))) 2 (hKo 2 (by decide))), h_54, h_81, h_64, h_91, h_72, h_99, h_55, h_56, h_57, h_58, h_82, h_83, h_84, h_85, h_65, h_66, h_67, h_92, h_93, h_94, h_73, h_74, h_100, h_101, (zLI_eq hI0_o h_55 h_57), (zLI_eq hI1_o h_82 h_84)⟩
  · have c_31n : ¬ 600 ≤ i := fun q => c_31 ((nI_leI (a := 600) (b := i) (by omega) (by omega)).mpr q)
    refine lv_aload_n hx hb dX9_takeAll_9 rfl (lv_at hl 1 rfl) ?_
    obtain ⟨a1_105, a2_106, a3_107, a4_108, a5_109, q1_110, q2_111, q3_112, rfl, h_113, h_114, h_115, h_116, h_117, h_118⟩ := ht9
    have G : zS T A s.heap s [[(t, .inr (8, [.ref a1_105, .int ln, .int fl, .int pl, .ref a2_106, .ref a3_107, .ref a4_108, .ref a5_109]))], [(a1_105, .inl (T.2 1, 600, .inl x9))], [(a2_106, .inl (T.2 0, 3, .inl fk))], [(a3_107, .inl (T.2 3, 2, .inr (.inr (.inr (.inr q1_110)))))], [(a4_108, .inl (T.2 4, 2, .inr (.inr (.inr (.inr q2_111)))))], [(a5_109, .inl (T.2 5, 2, .inr (.inr (.inr (.inr q3_112)))))], z0_, z1_, wd0_, wd1_, wg0_, wg1_, [(o, .inr (8, [.ref a1_15, .int lno, .int flo, .int plo, .ref a2_16, .ref a3_17, .ref a4_18, .ref a5_19])), (a1_15, .inl (T.2 1, 600, .inl fto)), (a2_16, .inl (T.2 0, 3, .inl fko)), (a3_17, .inl (T.2 3, 2, .inr (.inr (.inr (.inr q1_20))))), (a4_18, .inl (T.2 4, 2, .inr (.inr (.inr (.inr q2_21))))), (a5_19, .inl (T.2 5, 2, .inr (.inr (.inr (.inr q3_22)))))], z0_o, z1_o, wd0_o, wd1_o, wg0_o, wg1_o] _ _ := G.re rfl
    refine z_get C G clX9 0 rfl 0 (by decide) m_fl_RX9_9 rfl dX9_takeAll_10 ?_
    refine lv_iload_n hx hb dX9_takeAll_13 rfl (lv_at hl 0 rfl) ?_
    refine lv_aload_n hx hb dX9_takeAll_14 rfl (lv_at hl 2 rfl) ?_
    have G : zS T A s.heap s [[(t, .inr (8, [.ref a1_105, .int ln, .int fl, .int pl, .ref a2_106, .ref a3_107, .ref a4_108, .ref a5_109]))], [(a1_105, .inl (T.2 1, 600, .inl x9))], [(a2_106, .inl (T.2 0, 3, .inl fk))], [(a3_107, .inl (T.2 3, 2, .inr (.inr (.inr (.inr q1_110)))))], [(a4_108, .inl (T.2 4, 2, .inr (.inr (.inr (.inr q2_111)))))], [(a5_109, .inl (T.2 5, 2, .inr (.inr (.inr (.inr q3_112)))))], z0_, z1_, wd0_, wd1_, wg0_, wg1_, [(o, .inr (8, [.ref a1_15, .int lno, .int flo, .int plo, .ref a2_16, .ref a3_17, .ref a4_18, .ref a5_19]))], [(a1_15, .inl (T.2 1, 600, .inl fto))], [(a2_16, .inl (T.2 0, 3, .inl fko))], [(a3_17, .inl (T.2 3, 2, .inr (.inr (.inr (.inr q1_20)))))], [(a4_18, .inl (T.2 4, 2, .inr (.inr (.inr (.inr q2_21)))))], [(a5_19, .inl (T.2 5, 2, .inr (.inr (.inr (.inr q3_22)))))], z0_o, z1_o, wd0_o, wd1_o, wg0_o, wg1_o] _ _ := G.re rfl
    refine z_get C G clX9 12 rfl 0 (by decide) m_fl_RX9_9 rfl dX9_takeAll_15 ?_
    refine lv_iload_n hx hb dX9_takeAll_18 rfl (lv_at hl 0 rfl) ?_
    refine z_bld C G 13 rfl (vp_in_nI (by omega) (by omega)) dX9_takeAll_19 ?_
    refine lv_topi (fun v_119 ev_119 => ?_)
    rw [nI_clamp (by omega)] at ev_119
    subst ev_119
    refine z_bst C G 1 rfl (vp_in_nI (by omega) (by omega)) dX9_takeAll_20 (fun H locs G => ?_)
    rw [nI_clamp (by omega)] at G
    have G : zS T A s.heap s [[(t, .inr (8, [.ref a1_105, .int ln, .int fl, .int pl, .ref a2_106, .ref a3_107, .ref a4_108, .ref a5_109]))], [(a1_105, .inl (T.2 1, 600, .inl (upd x9 i (vp_nar .byte (fto i)))))], [(a2_106, .inl (T.2 0, 3, .inl fk))], [(a3_107, .inl (T.2 3, 2, .inr (.inr (.inr (.inr q1_110)))))], [(a4_108, .inl (T.2 4, 2, .inr (.inr (.inr (.inr q2_111)))))], [(a5_109, .inl (T.2 5, 2, .inr (.inr (.inr (.inr q3_112)))))], z0_, z1_, wd0_, wd1_, wg0_, wg1_, [(o, .inr (8, [.ref a1_15, .int lno, .int flo, .int plo, .ref a2_16, .ref a3_17, .ref a4_18, .ref a5_19]))], [(a1_15, .inl (T.2 1, 600, .inl fto))], [(a2_16, .inl (T.2 0, 3, .inl fko))], [(a3_17, .inl (T.2 3, 2, .inr (.inr (.inr (.inr q1_20)))))], [(a4_18, .inl (T.2 4, 2, .inr (.inr (.inr (.inr q2_21)))))], [(a5_19, .inl (T.2 5, 2, .inr (.inr (.inr (.inr q3_22)))))], z0_o, z1_o, wd0_o, wd1_o, wg0_o, wg1_o] _ _ := G
    refine lv_iinc (v := nI (i + 1)) (lv' := [(2, .int (nI (i + 1))), (0, .ref t), (1, .ref o)]) hx hb dX9_takeAll_21 hl (k := 0) rfl (z_inc i 1) (by decide) rfl (fun ls hl => ?_)
    refine lv_goto (tgt := 2) hx hb dX9_takeAll_24 (by decide) ?_
    have hw_120 : bTold T t l0 l1 d0 d1 g0 g1 ln fl pl (upd x9 i (vp_nar .byte (fto i))) fk [(t, .inr (8, [.ref a1_105, .int ln, .int fl, .int pl, .ref a2_106, .ref a3_107, .ref a4_108, .ref a5_109])), (a1_105, .inl (T.2 1, 600, .inl (upd x9 i (vp_nar .byte (fto i))))), (a2_106, .inl (T.2 0, 3, .inl fk)), (a3_107, .inl (T.2 3, 2, .inr (.inr (.inr (.inr q1_110))))), (a4_108, .inl (T.2 4, 2, .inr (.inr (.inr (.inr q2_111))))), (a5_109, .inl (T.2 5, 2, .inr (.inr (.inr (.inr q3_112)))))] := ⟨a1_105, a2_106, a3_107, a4_108, a5_109, q1_110, q2_111, q3_112, rfl, h_113, h_114, h_115, h_116, h_117, h_118⟩
    have G : zS T A s.heap s [[(t, .inr (8, [.ref a1_105, .int ln, .int fl, .int pl, .ref a2_106, .ref a3_107, .ref a4_108, .ref a5_109])), (a1_105, .inl (T.2 1, 600, .inl (upd x9 i (vp_nar .byte (fto i))))), (a2_106, .inl (T.2 0, 3, .inl fk)), (a3_107, .inl (T.2 3, 2, .inr (.inr (.inr (.inr q1_110))))), (a4_108, .inl (T.2 4, 2, .inr (.inr (.inr (.inr q2_111))))), (a5_109, .inl (T.2 5, 2, .inr (.inr (.inr (.inr q3_112)))))], z0_, z1_, wd0_, wd1_, wg0_, wg1_, [(o, .inr (8, [.ref a1_15, .int lno, .int flo, .int plo, .ref a2_16, .ref a3_17, .ref a4_18, .ref a5_19]))], [(a1_15, .inl (T.2 1, 600, .inl fto))], [(a2_16, .inl (T.2 0, 3, .inl fko))], [(a3_17, .inl (T.2 3, 2, .inr (.inr (.inr (.inr q1_20)))))], [(a4_18, .inl (T.2 4, 2, .inr (.inr (.inr (.inr q2_21)))))], [(a5_19, .inl (T.2 5, 2, .inr (.inr (.inr (.inr q3_22)))))], z0_o, z1_o, wd0_o, wd1_o, wg0_o, wg1_o] _ _ := G.re rfl
    have hw_121 : bTold T o l0o l1o d0o d1o g0o g1o lno flo plo fto fko [(o, .inr (8, [.ref a1_15, .int lno, .int flo, .int plo, .ref a2_16, .ref a3_17, .ref a4_18, .ref a5_19])), (a1_15, .inl (T.2 1, 600, .inl fto)), (a2_16, .inl (T.2 0, 3, .inl fko)), (a3_17, .inl (T.2 3, 2, .inr (.inr (.inr (.inr q1_20))))), (a4_18, .inl (T.2 4, 2, .inr (.inr (.inr (.inr q2_21))))), (a5_19, .inl (T.2 5, 2, .inr (.inr (.inr (.inr q3_22)))))] := ⟨a1_15, a2_16, a3_17, a4_18, a5_19, q1_20, q2_21, q3_22, rfl, h_23, h_24, h_25, h_26, h_27, h_28⟩
    have G : zS T A s.heap s [[(t, .inr (8, [.ref a1_105, .int ln, .int fl, .int pl, .ref a2_106, .ref a3_107, .ref a4_108, .ref a5_109])), (a1_105, .inl (T.2 1, 600, .inl (upd x9 i (vp_nar .byte (fto i))))), (a2_106, .inl (T.2 0, 3, .inl fk)), (a3_107, .inl (T.2 3, 2, .inr (.inr (.inr (.inr q1_110))))), (a4_108, .inl (T.2 4, 2, .inr (.inr (.inr (.inr q2_111))))), (a5_109, .inl (T.2 5, 2, .inr (.inr (.inr (.inr q3_112)))))], z0_, z1_, wd0_, wd1_, wg0_, wg1_, [(o, .inr (8, [.ref a1_15, .int lno, .int flo, .int plo, .ref a2_16, .ref a3_17, .ref a4_18, .ref a5_19])), (a1_15, .inl (T.2 1, 600, .inl fto)), (a2_16, .inl (T.2 0, 3, .inl fko)), (a3_17, .inl (T.2 3, 2, .inr (.inr (.inr (.inr q1_20))))), (a4_18, .inl (T.2 4, 2, .inr (.inr (.inr (.inr q2_21))))), (a5_19, .inl (T.2 5, 2, .inr (.inr (.inr (.inr q3_22)))))], z0_o, z1_o, wd0_o, wd1_o, wg0_o, wg1_o] _ _ := G.re rfl
    exact ih_2 ((i + 1), ([(t, .inr (8, [.ref a1_105, .int ln, .int fl, .int pl, .ref a2_106, .ref a3_107, .ref a4_108, .ref a5_109])), (a1_105, .inl (T.2 1, 600, .inl (upd x9 i (vp_nar .byte (fto i))))), (a2_106, .inl (T.2 0, 3, .inl fk)), (a3_107, .inl (T.2 3, 2, .inr (.inr (.inr (.inr q1_110))))), (a4_108, .inl (T.2 4, 2, .inr (.inr (.inr (.inr q2_111))))), (a5_109, .inl (T.2 5, 2, .inr (.inr (.inr (.inr q3_112)))))]), (upd x9 i (vp_nar .byte (fto i)))) (show bTold T t l0 l1 d0 d1 g0 g1 ln fl pl (upd x9 i (vp_nar .byte (fto i))) fk ([(t, .inr (8, [.ref a1_105, .int ln, .int fl, .int pl, .ref a2_106, .ref a3_107, .ref a4_108, .ref a5_109])), (a1_105, .inl (T.2 1, 600, .inl (upd x9 i (vp_nar .byte (fto i))))), (a2_106, .inl (T.2 0, 3, .inl fk)), (a3_107, .inl (T.2 3, 2, .inr (.inr (.inr (.inr q1_110))))), (a4_108, .inl (T.2 4, 2, .inr (.inr (.inr (.inr q2_111))))), (a5_109, .inl (T.2 5, 2, .inr (.inr (.inr (.inr q3_112)))))]) ∧ (i + 1) ≤ 600 from ⟨hw_120, by omega⟩) (show 600 - (i + 1) < 600 - i from by omega) _ _ ls G (lv_sub hl [0, 1, 2] rfl)

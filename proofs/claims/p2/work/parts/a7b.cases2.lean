set_option maxHeartbeats 40000000 in
set_option maxRecDepth 100000 in
theorem z_case_stop (l : Launch) {p : Program} {e : Env} {s : State} {m : MethodId} {b : Nat} {below : List Frame} {meth : Method} {c : Code} {Q : State → Prop} {T : zTy} {A : Nat → Prop} {L i : Nat} {xs : Nat → Int32} (hx : p.tables.exec = Jvm.exec) (hb : c.code = cL_law) (C : CallFix p m c cL_law 4 s #[Value.ref b] zT RL) (hX : va_X b L xs s s.heap) (hbl : b < s.heap.size) (hbA : ¬ A b) (hL : L ≤ 3072) (hi6 : i + 6 ≤ L) {xo mo n4A n4B m1f : Nat} (hnA : n4A ≤ 131072) (hnB : n4B ≤ 131072) (hmf : m1f ≤ 16384) {bs : List va_W} (hI : zInv T xo mo n4A n4B m1f bs) {H : Heap} {locs : List Loc} {ls : Array Slot} (G : zS T A s.heap s bs H locs) (hl : lv_has ls 4 [(0, .ref b), (1, .ref xo), (2, .ref mo), (3, .int (nI i))]) (kk : ∀ (n1 n2 n3 : Nat) (bs1 : List va_W), zInv T xo mo n1 n2 n3 bs1 → ∀ (H1 : Heap) (locs1 : List Loc) (ls1 : Array Slot), zS T A s.heap s bs1 H1 locs1 → lv_has ls1 4 [(0, .ref b), (1, .ref xo), (2, .ref mo), (3, .int (nI i))] → W p l e room_1 s m #[Value.ref b] below meth c H1 locs1 (216 + 2 * i + 12) (27000 + 6 * (n1 + n2) + 2 * n3) Q (F0 m 1767 ls1 [])) : W p l e room_1 s m #[Value.ref b] below meth c H locs (216 + 2 * i) (27000 + 6 * (n4A + n4B) + 2 * m1f) Q (F0 m 406 ls []) := by
  obtain ⟨⟨t, im, mk, rd, po, co, tr, wa, wb_, fi, cd, wt, l0, l1, d0, d1, g0, g1, ln, z0_, z1_, wd0_, wd1_, wg0_, wg1_, rl, rdd, rg, r0, r1, tq, r2, r3, r4, r5, r6, r7, r8, z, wd, wg, wwA, mdA, wwB, mdB, wff, e0f, e1f, wc, cpo, wcp, wr, tpo, wrp, wp, fcd, m0, wta, l0a, l1a, d0a, d1a, g0a, g1a, lna, z0_a, z1_a, wd0_a, wd1_a, wg0_a, wg1_a, m1, wtb, l0b, l1b, d0b, d1b, g0b, g1b, lnb, z0_b, z1_b, wd0_b, wd1_b, wg0_b, wg1_b, m2, wtc, l0c, l1c, d0c, d1c, g0c, g1c, lnc, z0_c, z1_c, wd0_c, wd1_c, wg0_c, wg1_c, qi, fmk, m_all, m_has, i_size, i_next, i_where, i_token, i_number, i_word, i_wrong, i_farCrossing, m_read, i_z0, i_crossings, i_inns, m_posts, m_shut, m_here, i_steps, i_done, i_at, i_gone, m_was, m_came, m_seenAt, m_rowWorth, m_farBy, m_used, i_everywhere, i_again0, i_d0, i_never, i_firstCame, i_longRun, i_moved, i_crowd, i_l0, i_fitMany, i_fitLeast, i_fitMost, m_fitPost, m_fitEnd, m_keptPosts, i_x0, f_all, f_has, f_read, f_posts, f_shut, f_here, f_was, f_came, f_seenAt, f_rowWorth, f_farBy, f_used, f_fitPost, f_fitEnd, f_keptPosts⟩, rfl, H_wt, H_z0_, H_z1_, H_wd0_, H_wd1_, H_wg0_, H_wg1_, H_z, H_wd, H_wg, H_wwA, H_wwB, H_wff, H_wc, H_wcp, H_wr, H_wrp, H_wp, H_wta, H_z0_a, H_z1_a, H_wd0_a, H_wd1_a, H_wg0_a, H_wg1_a, H_wtb, H_z0_b, H_z1_b, H_wd0_b, H_wd1_b, H_wg0_b, H_wg1_b, H_wtc, H_z0_c, H_z1_c, H_wd0_c, H_wd1_c, H_wg0_c, H_wg1_c, hm0, hm1, hm2, h56, hFI, hAI, hRl, hHs⟩ := hI
  replace H_wt : hTold T t l0 l1 d0 d1 g0 g1 ln wt := H_wt
  replace H_z0_ : hLand T l0 z0_ := H_z0_
  replace H_z1_ : hLand T l1 z1_ := H_z1_
  replace H_wd0_ : hDay T d0 wd0_ := H_wd0_
  replace H_wd1_ : hDay T d1 wd1_ := H_wd1_
  replace H_wg0_ : hLog T g0 wg0_ := H_wg0_
  replace H_wg1_ : hLog T g1 wg1_ := H_wg1_
  replace H_z : hLandR T rl z := H_z
  replace H_wd : hDay T rdd wd := H_wd
  replace H_wg : hLog T rg wg := H_wg
  replace H_wwA : hWays T wa mdA n4A l0 wwA := H_wwA
  replace H_wwB : hWays T wb_ mdB n4B l1 wwB := H_wwB
  replace H_wff : hFit T fi e0f e1f m1f wff := H_wff
  replace H_wc : hCourse T co cpo wc := H_wc
  replace H_wcp : hPosts T cpo wcp := H_wcp
  replace H_wr : hTrail T tr tpo wr := H_wr
  replace H_wrp : hPosts T tpo wrp := H_wrp
  replace H_wp : hPosts T po wp := H_wp
  replace H_wta : hTold T m0 l0a l1a d0a d1a g0a g1a lna wta := H_wta
  replace H_z0_a : hLand T l0a z0_a := H_z0_a
  replace H_z1_a : hLand T l1a z1_a := H_z1_a
  replace H_wd0_a : hDay T d0a wd0_a := H_wd0_a
  replace H_wd1_a : hDay T d1a wd1_a := H_wd1_a
  replace H_wg0_a : hLog T g0a wg0_a := H_wg0_a
  replace H_wg1_a : hLog T g1a wg1_a := H_wg1_a
  replace H_wtb : hTold T m1 l0b l1b d0b d1b g0b g1b lnb wtb := H_wtb
  replace H_z0_b : hLand T l0b z0_b := H_z0_b
  replace H_z1_b : hLand T l1b z1_b := H_z1_b
  replace H_wd0_b : hDay T d0b wd0_b := H_wd0_b
  replace H_wd1_b : hDay T d1b wd1_b := H_wd1_b
  replace H_wg0_b : hLog T g0b wg0_b := H_wg0_b
  replace H_wg1_b : hLog T g1b wg1_b := H_wg1_b
  replace H_wtc : hTold T m2 l0c l1c d0c d1c g0c g1c lnc wtc := H_wtc
  replace H_z0_c : hLand T l0c z0_c := H_z0_c
  replace H_z1_c : hLand T l1c z1_c := H_z1_c
  replace H_wd0_c : hDay T d0c wd0_c := H_wd0_c
  replace H_wd1_c : hDay T d1c wd1_c := H_wd1_c
  replace H_wg0_c : hLog T g0c wg0_c := H_wg0_c
  replace H_wg1_c : hLog T g1c wg1_c := H_wg1_c
  replace hm0 : qi 0 = some m0 := hm0
  replace hm1 : qi 1 = some m1 := hm1
  replace hm2 : qi 2 = some m2 := hm2
  replace h56 : ((0 ≤ r5.toInt ∧ r5.toInt ≤ 600) ∧ 0 ≤ r6.toInt ∧ r6.toInt ≤ 1000) := h56
  replace hFI : (¬ e0f = 0 → e1f.toInt = 0 ∧ ¬ mdA = 0 ∨ e1f.toInt = 1 ∧ ¬ mdB = 0) := hFI
  replace hAI : zAI f_all := hAI
  replace hRl : zRl ln lna lnb lnc f_all := hRl
  replace hHs : zHs fmk f_has := hHs
  replace G : zS T A s.heap s [[(xo, .inr (10, [.ref t, .ref im, .ref mk, .ref rd, .ref po, .ref co, .ref tr, .ref wa, .ref wb_, .ref fi, .ref cd]))], wt, z0_, z1_, wd0_, wd1_, wg0_, wg1_, [(rd, .inr (7, [.ref rl, .ref rdd, .ref rg, .int r0, .int r1, .ref tq, .int r2, .int r3, .int r4, .int r5, .int r6, .int r7, .int r8]))], z, wd, wg, wwA, wwB, wff, wc, wcp, wr, wrp, wp, [(cd, .inl (T.2 0, 1000, .inl fcd))], wta, z0_a, z1_a, wd0_a, wd1_a, wg0_a, wg1_a, wtb, z0_b, z1_b, wd0_b, wd1_b, wg0_b, wg1_b, wtc, z0_c, z1_c, wd0_c, wd1_c, wg0_c, wg1_c, [(im, .inl (T.2 6, 3, .inr (.inr (.inr (.inr qi)))))], [(mk, .inl (T.2 2, 3, .inl fmk))], [(mo, .inr (11, [.ref m_all, .ref m_has, .int i_size, .int i_next, .int i_where, .int i_token, .int i_number, .int i_word, .int i_wrong, .int i_farCrossing, .ref m_read, .int i_z0, .int i_crossings, .int i_inns, .ref m_posts, .ref m_shut, .ref m_here, .int i_steps, .int i_done, .int i_at, .int i_gone, .ref m_was, .ref m_came, .ref m_seenAt, .ref m_rowWorth, .ref m_farBy, .ref m_used, .int i_everywhere, .int i_again0, .int i_d0, .int i_never, .int i_firstCame, .int i_longRun, .int i_moved, .int i_crowd, .int i_l0, .int i_fitMany, .int i_fitLeast, .int i_fitMost, .ref m_fitPost, .ref m_fitEnd, .ref m_keptPosts, .int i_x0]))], [(m_all, .inl (T.2 0, 3952, .inl f_all))], [(m_has, .inl (T.2 2, 3, .inl f_has))], [(m_read, .inl (T.2 0, 121, .inl f_read))], [(m_posts, .inl (T.2 0, 7, .inl f_posts))], [(m_shut, .inl (T.2 0, 7, .inl f_shut))], [(m_here, .inl (T.2 0, 7, .inl f_here))], [(m_was, .inl (T.2 0, 7, .inl f_was))], [(m_came, .inl (T.2 0, 7, .inl f_came))], [(m_seenAt, .inl (T.2 0, 16384, .inl f_seenAt))], [(m_rowWorth, .inl (T.2 0, 512, .inl f_rowWorth))], [(m_farBy, .inl (T.2 0, 49, .inl f_farBy))], [(m_used, .inl (T.2 0, 7, .inl f_used))], [(m_fitPost, .inl (T.2 0, 28, .inl f_fitPost))], [(m_fitEnd, .inl (T.2 0, 49, .inl f_fitEnd))], [(m_keptPosts, .inl (T.2 0, 7, .inl f_keptPosts))]] H locs := G
  have hB := zAI_0 hAI
  have hB4 := hB.1
  obtain ⟨hln, hlna, hlnb, hlnc⟩ := zRl_in hAI hRl
  refine lv_aload_n hx hb dL_law_406 rfl (lv_at hl 1 rfl) ?_
  refine lv_aload_n hx hb dL_law_407 rfl (lv_at hl 0 rfl) ?_
  refine lv_iload_n hx hb dL_law_408 rfl (lv_at hl 3 rfl) ?_
  refine lv_iconst (v := 1) hx hb dL_law_409 (by decide) ?_
  refine lv_iadd hx hb dL_law_410 ?_
  refine lv_topi (fun y_1 ey_1 => ?_)
  obtain rfl : y_1 = nI (i + 1) := ey_1.trans (z_iaddn i 1 rfl rfl)
  refine va_sld hx hb hX hbl hbA G.2.2.2.1 (vp_in_nI (by omega) (by omega)) dL_law_411 ?_
  refine lv_topi (fun v_2 ev_2 => ?_)
  rw [nI_clamp (by omega)] at ev_2
  have ev_2 : v_2 = xs (i + 1) := ev_2
  subst ev_2
  refine lv_aload_n hx hb dL_law_412 rfl (lv_at hl 0 rfl) ?_
  refine lv_iload_n hx hb dL_law_413 rfl (lv_at hl 3 rfl) ?_
  refine lv_iconst (v := 2) hx hb dL_law_414 (by decide) ?_
  refine lv_iadd hx hb dL_law_415 ?_
  refine lv_topi (fun y_3 ey_3 => ?_)
  obtain rfl : y_3 = nI (i + 2) := ey_3.trans (z_iaddn i 2 rfl rfl)
  refine va_sld hx hb hX hbl hbA G.2.2.2.1 (vp_in_nI (by omega) (by omega)) dL_law_416 ?_
  refine lv_topi (fun v_4 ev_4 => ?_)
  rw [nI_clamp (by omega)] at ev_4
  have ev_4 : v_4 = xs (i + 2) := ev_4
  subst ev_4
  obtain ⟨v_5, v_6, v_7, v_8, h_9, h_10⟩ := H_wt
  have h_10 : zKT v_8 := h_10
  obtain ⟨v_11, v_12, v_13, v_14, v_15, v_16, h_17, h_18⟩ := H_z0_
  have h_18 : zLI v_11 v_13 v_15 := h_18
  obtain ⟨v_19, v_20, v_21, v_22, v_23, v_24, h_25, h_26⟩ := H_z1_
  have h_26 : zLI v_19 v_21 v_23 := h_26
  obtain ⟨v_27, v_28, v_29, v_30, h_31⟩ := H_wd0_
  obtain ⟨v_32, v_33, v_34, v_35, h_36⟩ := H_wd1_
  obtain ⟨v_37, v_38, v_39, v_40, v_41, v_42, v_43, v_44, v_45, v_46, h_47⟩ := H_wc
  obtain ⟨v_48, v_49, v_50, v_51, v_52, v_53, h_54⟩ := H_wcp
  refine z_Vi (bc := [[(xo, .inr (10, [.ref t, .ref im, .ref mk, .ref rd, .ref po, .ref co, .ref tr, .ref wa, .ref wb_, .ref fi, .ref cd]))], wt, z0_, z1_, wd0_, wd1_, wc, wcp]) (br := [wg0_, wg1_, [(rd, .inr (7, [.ref rl, .ref rdd, .ref rg, .int r0, .int r1, .ref tq, .int r2, .int r3, .int r4, .int r5, .int r6, .int r7, .int r8]))], z, wd, wg, wwA, wwB, wff, wr, wrp, wp, [(cd, .inl (T.2 0, 1000, .inl fcd))], wta, z0_a, z1_a, wd0_a, wd1_a, wg0_a, wg1_a, wtb, z0_b, z1_b, wd0_b, wd1_b, wg0_b, wg1_b, wtc, z0_c, z1_c, wd0_c, wd1_c, wg0_c, wg1_c, [(im, .inl (T.2 6, 3, .inr (.inr (.inr (.inr qi)))))], [(mk, .inl (T.2 2, 3, .inl fmk))], [(mo, .inr (11, [.ref m_all, .ref m_has, .int i_size, .int i_next, .int i_where, .int i_token, .int i_number, .int i_word, .int i_wrong, .int i_farCrossing, .ref m_read, .int i_z0, .int i_crossings, .int i_inns, .ref m_posts, .ref m_shut, .ref m_here, .int i_steps, .int i_done, .int i_at, .int i_gone, .ref m_was, .ref m_came, .ref m_seenAt, .ref m_rowWorth, .ref m_farBy, .ref m_used, .int i_everywhere, .int i_again0, .int i_d0, .int i_never, .int i_firstCame, .int i_longRun, .int i_moved, .int i_crowd, .int i_l0, .int i_fitMany, .int i_fitLeast, .int i_fitMost, .ref m_fitPost, .ref m_fitEnd, .ref m_keptPosts, .int i_x0]))], [(m_all, .inl (T.2 0, 3952, .inl f_all))], [(m_has, .inl (T.2 2, 3, .inl f_has))], [(m_read, .inl (T.2 0, 121, .inl f_read))], [(m_posts, .inl (T.2 0, 7, .inl f_posts))], [(m_shut, .inl (T.2 0, 7, .inl f_shut))], [(m_here, .inl (T.2 0, 7, .inl f_here))], [(m_was, .inl (T.2 0, 7, .inl f_was))], [(m_came, .inl (T.2 0, 7, .inl f_came))], [(m_seenAt, .inl (T.2 0, 16384, .inl f_seenAt))], [(m_rowWorth, .inl (T.2 0, 512, .inl f_rowWorth))], [(m_farBy, .inl (T.2 0, 49, .inl f_farBy))], [(m_used, .inl (T.2 0, 7, .inl f_used))], [(m_fitPost, .inl (T.2 0, 28, .inl f_fitPost))], [(m_fitEnd, .inl (T.2 0, 49, .inl f_fitEnd))], [(m_keptPosts, .inl (T.2 0, 7, .inl f_keptPosts))]]) (As := [.int (xs (i + 1)), .int (xs (i + 2))]) (rest := []) C G (c_stop l T xo t im mk rd po co tr wa wb_ fi cd l0 l1 d0 d1 g0 g1 ln v_5 v_6 v_7 v_8 wt v_11 v_12 v_13 v_14 v_15 v_16 z0_ v_19 v_20 v_21 v_22 v_23 v_24 z1_ v_27 v_28 v_29 v_30 wd0_ v_32 v_33 v_34 v_35 wd1_ cpo v_37 v_38 v_39 v_40 v_41 v_42 v_43 v_44 v_45 v_46 wc v_48 v_49 v_50 v_51 v_52 v_53 wcp (xs (i + 1)) (xs (i + 2)) h_9 (by first | assumption | omega | rfl) h_17 (by first | assumption | omega | rfl) h_25 (by first | assumption | omega | rfl) h_31 h_36 h_47 h_54) (kV_RL_41 C.2.2.2.2 (Nat.le_of_ble_eq_true rfl) (Nat.le_of_ble_eq_true rfl)) [0, 1, 2, 3, 4, 5, 15, 16] [6, 7, 8, 9, 10, 11, 12, 13, 14, 17, 18, 19, 20, 21, 22, 23, 24, 25, 26, 27, 28, 29, 30, 31, 32, 33, 34, 35, 36, 37, 38, 39, 40, 41, 42, 43, 44, 45, 46, 47, 48, 49, 50, 51, 52, 53, 54, 55, 56, 57, 58, 59] rfl rfl (ci := 10) (qc := (RX11, TX11, 11)) rfl rfl (List.mem_flatten.mpr ⟨_, List.mem_of_getElem? (i := 0) rfl, List.mem_cons_self⟩) rfl rfl hl.1 dL_law_417 (by show _ + 0 ≤ 600000; omega) (by show _ + 0 ≤ 7302250; omega) (fun r_75 b1 H locs hw G => ?_)
  obtain ⟨cla_55, cfw_56, v0_57, v1_58, v2_59, v3_60, v4_61, v5_62, v6_63, v7_64, wc_65, cpl_66, cf1_67, cf2_68, cf3_69, cst_70, cwh_71, wcp_72, rfl, h_73, h_74⟩ := hw
  have G : zS T A s.heap s [wg0_, wg1_, [(rd, .inr (7, [.ref rl, .ref rdd, .ref rg, .int r0, .int r1, .ref tq, .int r2, .int r3, .int r4, .int r5, .int r6, .int r7, .int r8]))], z, wd, wg, wwA, wwB, wff, wr, wrp, wp, [(cd, .inl (T.2 0, 1000, .inl fcd))], wta, z0_a, z1_a, wd0_a, wd1_a, wg0_a, wg1_a, wtb, z0_b, z1_b, wd0_b, wd1_b, wg0_b, wg1_b, wtc, z0_c, z1_c, wd0_c, wd1_c, wg0_c, wg1_c, [(im, .inl (T.2 6, 3, .inr (.inr (.inr (.inr qi)))))], [(mk, .inl (T.2 2, 3, .inl fmk))], [(mo, .inr (11, [.ref m_all, .ref m_has, .int i_size, .int i_next, .int i_where, .int i_token, .int i_number, .int i_word, .int i_wrong, .int i_farCrossing, .ref m_read, .int i_z0, .int i_crossings, .int i_inns, .ref m_posts, .ref m_shut, .ref m_here, .int i_steps, .int i_done, .int i_at, .int i_gone, .ref m_was, .ref m_came, .ref m_seenAt, .ref m_rowWorth, .ref m_farBy, .ref m_used, .int i_everywhere, .int i_again0, .int i_d0, .int i_never, .int i_firstCame, .int i_longRun, .int i_moved, .int i_crowd, .int i_l0, .int i_fitMany, .int i_fitLeast, .int i_fitMost, .ref m_fitPost, .ref m_fitEnd, .ref m_keptPosts, .int i_x0]))], [(m_all, .inl (T.2 0, 3952, .inl f_all))], [(m_has, .inl (T.2 2, 3, .inl f_has))], [(m_read, .inl (T.2 0, 121, .inl f_read))], [(m_posts, .inl (T.2 0, 7, .inl f_posts))], [(m_shut, .inl (T.2 0, 7, .inl f_shut))], [(m_here, .inl (T.2 0, 7, .inl f_here))], [(m_was, .inl (T.2 0, 7, .inl f_was))], [(m_came, .inl (T.2 0, 7, .inl f_came))], [(m_seenAt, .inl (T.2 0, 16384, .inl f_seenAt))], [(m_rowWorth, .inl (T.2 0, 512, .inl f_rowWorth))], [(m_farBy, .inl (T.2 0, 49, .inl f_farBy))], [(m_used, .inl (T.2 0, 7, .inl f_used))], [(m_fitPost, .inl (T.2 0, 28, .inl f_fitPost))], [(m_fitEnd, .inl (T.2 0, 49, .inl f_fitEnd))], [(m_keptPosts, .inl (T.2 0, 7, .inl f_keptPosts))], [(xo, .inr (10, [.ref t, .ref im, .ref mk, .ref rd, .ref po, .ref co, .ref tr, .ref wa, .ref wb_, .ref fi, .ref cd]))], wt, z0_, z1_, wd0_, wd1_, wc_65, wcp_72] _ _ := G
  refine lv_pop hx hb dL_law_420 rfl ?_
  refine lv_aload_n hx hb dL_law_421 rfl (lv_at hl 2 rfl) ?_
  refine lv_aload_n hx hb dL_law_422 rfl (lv_at hl 0 rfl) ?_
  refine lv_iload_n hx hb dL_law_423 rfl (lv_at hl 3 rfl) ?_
  refine lv_iconst (v := 1) hx hb dL_law_424 (by decide) ?_
  refine lv_iadd hx hb dL_law_425 ?_
  refine lv_topi (fun y_76 ey_76 => ?_)
  obtain rfl : y_76 = nI (i + 1) := ey_76.trans (z_iaddn i 1 rfl rfl)
  refine va_sld hx hb hX hbl hbA G.2.2.2.1 (vp_in_nI (by omega) (by omega)) dL_law_426 ?_
  refine lv_topi (fun v_77 ev_77 => ?_)
  rw [nI_clamp (by omega)] at ev_77
  have ev_77 : v_77 = xs (i + 1) := ev_77
  subst ev_77
  refine lv_aload_n hx hb dL_law_427 rfl (lv_at hl 0 rfl) ?_
  refine lv_iload_n hx hb dL_law_428 rfl (lv_at hl 3 rfl) ?_
  refine lv_iconst (v := 2) hx hb dL_law_429 (by decide) ?_
  refine lv_iadd hx hb dL_law_430 ?_
  refine lv_topi (fun y_78 ey_78 => ?_)
  obtain rfl : y_78 = nI (i + 2) := ey_78.trans (z_iaddn i 2 rfl rfl)
  refine va_sld hx hb hX hbl hbA G.2.2.2.1 (vp_in_nI (by omega) (by omega)) dL_law_431 ?_
  refine lv_topi (fun v_79 ev_79 => ?_)
  rw [nI_clamp (by omega)] at ev_79
  have ev_79 : v_79 = xs (i + 2) := ev_79
  subst ev_79
  refine z_Vi (bc := [[(mo, .inr (11, [.ref m_all, .ref m_has, .int i_size, .int i_next, .int i_where, .int i_token, .int i_number, .int i_word, .int i_wrong, .int i_farCrossing, .ref m_read, .int i_z0, .int i_crossings, .int i_inns, .ref m_posts, .ref m_shut, .ref m_here, .int i_steps, .int i_done, .int i_at, .int i_gone, .ref m_was, .ref m_came, .ref m_seenAt, .ref m_rowWorth, .ref m_farBy, .ref m_used, .int i_everywhere, .int i_again0, .int i_d0, .int i_never, .int i_firstCame, .int i_longRun, .int i_moved, .int i_crowd, .int i_l0, .int i_fitMany, .int i_fitLeast, .int i_fitMost, .ref m_fitPost, .ref m_fitEnd, .ref m_keptPosts, .int i_x0]))], [(m_all, .inl (T.2 0, 3952, .inl f_all))], [(m_posts, .inl (T.2 0, 7, .inl f_posts))], [(m_shut, .inl (T.2 0, 7, .inl f_shut))], [(m_here, .inl (T.2 0, 7, .inl f_here))], [(m_was, .inl (T.2 0, 7, .inl f_was))]]) (br := [wg0_, wg1_, [(rd, .inr (7, [.ref rl, .ref rdd, .ref rg, .int r0, .int r1, .ref tq, .int r2, .int r3, .int r4, .int r5, .int r6, .int r7, .int r8]))], z, wd, wg, wwA, wwB, wff, wr, wrp, wp, [(cd, .inl (T.2 0, 1000, .inl fcd))], wta, z0_a, z1_a, wd0_a, wd1_a, wg0_a, wg1_a, wtb, z0_b, z1_b, wd0_b, wd1_b, wg0_b, wg1_b, wtc, z0_c, z1_c, wd0_c, wd1_c, wg0_c, wg1_c, [(im, .inl (T.2 6, 3, .inr (.inr (.inr (.inr qi)))))], [(mk, .inl (T.2 2, 3, .inl fmk))], [(m_has, .inl (T.2 2, 3, .inl f_has))], [(m_read, .inl (T.2 0, 121, .inl f_read))], [(m_came, .inl (T.2 0, 7, .inl f_came))], [(m_seenAt, .inl (T.2 0, 16384, .inl f_seenAt))], [(m_rowWorth, .inl (T.2 0, 512, .inl f_rowWorth))], [(m_farBy, .inl (T.2 0, 49, .inl f_farBy))], [(m_used, .inl (T.2 0, 7, .inl f_used))], [(m_fitPost, .inl (T.2 0, 28, .inl f_fitPost))], [(m_fitEnd, .inl (T.2 0, 49, .inl f_fitEnd))], [(m_keptPosts, .inl (T.2 0, 7, .inl f_keptPosts))], [(xo, .inr (10, [.ref t, .ref im, .ref mk, .ref rd, .ref po, .ref co, .ref tr, .ref wa, .ref wb_, .ref fi, .ref cd]))], wt, z0_, z1_, wd0_, wd1_, wc_65, wcp_72]) (As := [.int (xs (i + 1)), .int (xs (i + 2))]) (rest := []) C G (c_m_stop l T mo m_all m_has i_size i_next i_where i_token i_number i_word i_wrong i_farCrossing m_read i_z0 i_crossings i_inns m_posts m_shut m_here i_steps i_done i_at i_gone m_was m_came m_seenAt m_rowWorth m_farBy m_used i_everywhere i_again0 i_d0 i_never i_firstCame i_longRun i_moved i_crowd i_l0 i_fitMany i_fitLeast i_fitMost m_fitPost m_fitEnd m_keptPosts i_x0 f_all f_posts f_shut f_here f_was (xs (i + 1)) (xs (i + 2)) (by first | assumption | omega | rfl)) (kV_RL_44 C.2.2.2.2 (Nat.le_of_ble_eq_true rfl) (Nat.le_of_ble_eq_true rfl)) [36, 37, 40, 41, 42, 43] [0, 1, 2, 3, 4, 5, 6, 7, 8, 9, 10, 11, 12, 13, 14, 15, 16, 17, 18, 19, 20, 21, 22, 23, 24, 25, 26, 27, 28, 29, 30, 31, 32, 33, 34, 35, 38, 39, 44, 45, 46, 47, 48, 49, 50, 51, 52, 53, 54, 55, 56, 57, 58, 59] rfl rfl (ci := 11) (qc := (RX12, TX12, 43)) rfl rfl (List.mem_flatten.mpr ⟨_, List.mem_of_getElem? (i := 0) rfl, List.mem_cons_self⟩) rfl rfl hl.1 dL_law_432 (by show _ + 0 ≤ 600000; omega) (by show _ + 0 ≤ 7302250; omega) (fun r_97 b1 H locs hw G => ?_)
  obtain ⟨j_z0_80, j_crossings_81, j_inns_82, j_steps_83, j_done_84, j_at_85, j_gone_86, j_d0_87, j_never_88, j_firstCame_89, j_longRun_90, j_moved_91, j_crowd_92, g_posts_93, g_shut_94, g_here_95, g_was_96, rfl⟩ := hw
  have G : zS T A s.heap s [wg0_, wg1_, [(rd, .inr (7, [.ref rl, .ref rdd, .ref rg, .int r0, .int r1, .ref tq, .int r2, .int r3, .int r4, .int r5, .int r6, .int r7, .int r8]))], z, wd, wg, wwA, wwB, wff, wr, wrp, wp, [(cd, .inl (T.2 0, 1000, .inl fcd))], wta, z0_a, z1_a, wd0_a, wd1_a, wg0_a, wg1_a, wtb, z0_b, z1_b, wd0_b, wd1_b, wg0_b, wg1_b, wtc, z0_c, z1_c, wd0_c, wd1_c, wg0_c, wg1_c, [(im, .inl (T.2 6, 3, .inr (.inr (.inr (.inr qi)))))], [(mk, .inl (T.2 2, 3, .inl fmk))], [(m_has, .inl (T.2 2, 3, .inl f_has))], [(m_read, .inl (T.2 0, 121, .inl f_read))], [(m_came, .inl (T.2 0, 7, .inl f_came))], [(m_seenAt, .inl (T.2 0, 16384, .inl f_seenAt))], [(m_rowWorth, .inl (T.2 0, 512, .inl f_rowWorth))], [(m_farBy, .inl (T.2 0, 49, .inl f_farBy))], [(m_used, .inl (T.2 0, 7, .inl f_used))], [(m_fitPost, .inl (T.2 0, 28, .inl f_fitPost))], [(m_fitEnd, .inl (T.2 0, 49, .inl f_fitEnd))], [(m_keptPosts, .inl (T.2 0, 7, .inl f_keptPosts))], [(xo, .inr (10, [.ref t, .ref im, .ref mk, .ref rd, .ref po, .ref co, .ref tr, .ref wa, .ref wb_, .ref fi, .ref cd]))], wt, z0_, z1_, wd0_, wd1_, wc_65, wcp_72, [(mo, .inr (11, [.ref m_all, .ref m_has, .int i_size, .int i_next, .int i_where, .int i_token, .int i_number, .int i_word, .int i_wrong, .int i_farCrossing, .ref m_read, .int j_z0_80, .int j_crossings_81, .int j_inns_82, .ref m_posts, .ref m_shut, .ref m_here, .int j_steps_83, .int j_done_84, .int j_at_85, .int j_gone_86, .ref m_was, .ref m_came, .ref m_seenAt, .ref m_rowWorth, .ref m_farBy, .ref m_used, .int i_everywhere, .int i_again0, .int j_d0_87, .int j_never_88, .int j_firstCame_89, .int j_longRun_90, .int j_moved_91, .int j_crowd_92, .int i_l0, .int i_fitMany, .int i_fitLeast, .int i_fitMost, .ref m_fitPost, .ref m_fitEnd, .ref m_keptPosts, .int i_x0]))], [(m_all, .inl (T.2 0, 3952, .inl f_all))], [(m_posts, .inl (T.2 0, 7, .inl g_posts_93))], [(m_shut, .inl (T.2 0, 7, .inl g_shut_94))], [(m_here, .inl (T.2 0, 7, .inl g_here_95))], [(m_was, .inl (T.2 0, 7, .inl g_was_96))]] _ _ := G
  refine lv_pop hx hb dL_law_435 rfl ?_
  refine lv_goto (tgt := 1767) hx hb dL_law_436 (by decide) ?_
  have G := G.sub (bs' := [[(xo, .inr (10, [.ref t, .ref im, .ref mk, .ref rd, .ref po, .ref co, .ref tr, .ref wa, .ref wb_, .ref fi, .ref cd]))], wt, z0_, z1_, wd0_, wd1_, wg0_, wg1_, [(rd, .inr (7, [.ref rl, .ref rdd, .ref rg, .int r0, .int r1, .ref tq, .int r2, .int r3, .int r4, .int r5, .int r6, .int r7, .int r8]))], z, wd, wg, wwA, wwB, wff, wc_65, wcp_72, wr, wrp, wp, [(cd, .inl (T.2 0, 1000, .inl fcd))], wta, z0_a, z1_a, wd0_a, wd1_a, wg0_a, wg1_a, wtb, z0_b, z1_b, wd0_b, wd1_b, wg0_b, wg1_b, wtc, z0_c, z1_c, wd0_c, wd1_c, wg0_c, wg1_c, [(im, .inl (T.2 6, 3, .inr (.inr (.inr (.inr qi)))))], [(mk, .inl (T.2 2, 3, .inl fmk))], [(mo, .inr (11, [.ref m_all, .ref m_has, .int i_size, .int i_next, .int i_where, .int i_token, .int i_number, .int i_word, .int i_wrong, .int i_farCrossing, .ref m_read, .int j_z0_80, .int j_crossings_81, .int j_inns_82, .ref m_posts, .ref m_shut, .ref m_here, .int j_steps_83, .int j_done_84, .int j_at_85, .int j_gone_86, .ref m_was, .ref m_came, .ref m_seenAt, .ref m_rowWorth, .ref m_farBy, .ref m_used, .int i_everywhere, .int i_again0, .int j_d0_87, .int j_never_88, .int j_firstCame_89, .int j_longRun_90, .int j_moved_91, .int j_crowd_92, .int i_l0, .int i_fitMany, .int i_fitLeast, .int i_fitMost, .ref m_fitPost, .ref m_fitEnd, .ref m_keptPosts, .int i_x0]))], [(m_all, .inl (T.2 0, 3952, .inl f_all))], [(m_has, .inl (T.2 2, 3, .inl f_has))], [(m_read, .inl (T.2 0, 121, .inl f_read))], [(m_posts, .inl (T.2 0, 7, .inl g_posts_93))], [(m_shut, .inl (T.2 0, 7, .inl g_shut_94))], [(m_here, .inl (T.2 0, 7, .inl g_here_95))], [(m_was, .inl (T.2 0, 7, .inl g_was_96))], [(m_came, .inl (T.2 0, 7, .inl f_came))], [(m_seenAt, .inl (T.2 0, 16384, .inl f_seenAt))], [(m_rowWorth, .inl (T.2 0, 512, .inl f_rowWorth))], [(m_farBy, .inl (T.2 0, 49, .inl f_farBy))], [(m_used, .inl (T.2 0, 7, .inl f_used))], [(m_fitPost, .inl (T.2 0, 28, .inl f_fitPost))], [(m_fitEnd, .inl (T.2 0, 49, .inl f_fitEnd))], [(m_keptPosts, .inl (T.2 0, 7, .inl f_keptPosts))]]) [46, 47, 48, 49, 50, 51, 0, 1, 2, 3, 4, 5, 6, 7, 8, 52, 53, 9, 10, 11, 12, 13, 14, 15, 16, 17, 18, 19, 20, 21, 22, 23, 24, 25, 26, 27, 28, 29, 30, 31, 32, 33, 34, 35, 54, 55, 36, 37, 56, 57, 58, 59, 38, 39, 40, 41, 42, 43, 44, 45] rfl
  refine W.widen (k := 216 + 2 * i + 12) (n := 27000 + 6 * (n4A + n4B) + 2 * m1f) (by omega) (by omega) ?_
  exact kk n4A n4B m1f _ ⟨⟨t, im, mk, rd, po, co, tr, wa, wb_, fi, cd, wt, l0, l1, d0, d1, g0, g1, ln, z0_, z1_, wd0_, wd1_, wg0_, wg1_, rl, rdd, rg, r0, r1, tq, r2, r3, r4, r5, r6, r7, r8, z, wd, wg, wwA, mdA, wwB, mdB, wff, e0f, e1f, wc_65, cpo, wcp_72, wr, tpo, wrp, wp, fcd, m0, wta, l0a, l1a, d0a, d1a, g0a, g1a, lna, z0_a, z1_a, wd0_a, wd1_a, wg0_a, wg1_a, m1, wtb, l0b, l1b, d0b, d1b, g0b, g1b, lnb, z0_b, z1_b, wd0_b, wd1_b, wg0_b, wg1_b, m2, wtc, l0c, l1c, d0c, d1c, g0c, g1c, lnc, z0_c, z1_c, wd0_c, wd1_c, wg0_c, wg1_c, qi, fmk, m_all, m_has, i_size, i_next, i_where, i_token, i_number, i_word, i_wrong, i_farCrossing, m_read, j_z0_80, j_crossings_81, j_inns_82, m_posts, m_shut, m_here, j_steps_83, j_done_84, j_at_85, j_gone_86, m_was, m_came, m_seenAt, m_rowWorth, m_farBy, m_used, i_everywhere, i_again0, j_d0_87, j_never_88, j_firstCame_89, j_longRun_90, j_moved_91, j_crowd_92, i_l0, i_fitMany, i_fitLeast, i_fitMost, m_fitPost, m_fitEnd, m_keptPosts, i_x0, f_all, f_has, f_read, g_posts_93, g_shut_94, g_here_95, g_was_96, f_came, f_seenAt, f_rowWorth, f_farBy, f_used, f_fitPost, f_fitEnd, f_keptPosts⟩, rfl, ⟨v_5, v_6, v_7, v_8, h_9, (by first | assumption | omega)⟩, ⟨v_11, v_12, v_13, v_14, v_15, v_16, h_17, (by first | assumption | omega)⟩, ⟨v_19, v_20, v_21, v_22, v_23, v_24, h_25, (by first | assumption | omega)⟩, ⟨v_27, v_28, v_29, v_30, h_31⟩, ⟨v_32, v_33, v_34, v_35, h_36⟩, H_wg0_, H_wg1_, H_z, H_wd, H_wg, H_wwA, H_wwB, H_wff, ⟨cla_55, cfw_56, v0_57, v1_58, v2_59, v3_60, v4_61, v5_62, v6_63, v7_64, h_73⟩, ⟨cpl_66, cf1_67, cf2_68, cf3_69, cst_70, cwh_71, h_74⟩, H_wr, H_wrp, H_wp, H_wta, H_z0_a, H_z1_a, H_wd0_a, H_wd1_a, H_wg0_a, H_wg1_a, H_wtb, H_z0_b, H_z1_b, H_wd0_b, H_wd1_b, H_wg0_b, H_wg1_b, H_wtc, H_z0_c, H_z1_c, H_wd0_c, H_wd1_c, H_wg0_c, H_wg1_c, (by first | assumption | omega), (by first | assumption | omega), (by first | assumption | omega), (by first | assumption | omega), (by first | assumption | omega), (by first | assumption | omega), (by first | assumption | omega), (by first | assumption | omega)⟩ _ _ ls G (lv_sub hl [0, 1, 2, 3] rfl)
set_option maxHeartbeats 40000000 in
set_option maxRecDepth 100000 in
theorem z_case_state (l : Launch) {p : Program} {e : Env} {s : State} {m : MethodId} {b : Nat} {below : List Frame} {meth : Method} {c : Code} {Q : State → Prop} {T : zTy} {A : Nat → Prop} {L i : Nat} {xs : Nat → Int32} (hx : p.tables.exec = Jvm.exec) (hb : c.code = cL_law) (C : CallFix p m c cL_law 4 s #[Value.ref b] zT RL) (hX : va_X b L xs s s.heap) (hbl : b < s.heap.size) (hbA : ¬ A b) (hL : L ≤ 3072) (hi6 : i + 6 ≤ L) {xo mo n4A n4B m1f : Nat} (hnA : n4A ≤ 131072) (hnB : n4B ≤ 131072) (hmf : m1f ≤ 16384) {bs : List va_W} (hI : zInv T xo mo n4A n4B m1f bs) {H : Heap} {locs : List Loc} {ls : Array Slot} (G : zS T A s.heap s bs H locs) (hl : lv_has ls 4 [(0, .ref b), (1, .ref xo), (2, .ref mo), (3, .int (nI i))]) (kk : ∀ (n1 n2 n3 : Nat) (bs1 : List va_W), zInv T xo mo n1 n2 n3 bs1 → ∀ (H1 : Heap) (locs1 : List Loc) (ls1 : Array Slot), zS T A s.heap s bs1 H1 locs1 → lv_has ls1 4 [(0, .ref b), (1, .ref xo), (2, .ref mo), (3, .int (nI i))] → W p l e room_1 s m #[Value.ref b] below meth c H1 locs1 (216 + 2 * i + 12) (27000 + 6 * (n1 + n2) + 2 * n3) Q (F0 m 1767 ls1 [])) : W p l e room_1 s m #[Value.ref b] below meth c H locs (216 + 2 * i) (27000 + 6 * (n4A + n4B) + 2 * m1f) Q (F0 m 439 ls []) := by
  obtain ⟨⟨t, im, mk, rd, po, co, tr, wa, wb_, fi, cd, wt, l0, l1, d0, d1, g0, g1, ln, z0_, z1_, wd0_, wd1_, wg0_, wg1_, rl, rdd, rg, r0, r1, tq, r2, r3, r4, r5, r6, r7, r8, z, wd, wg, wwA, mdA, wwB, mdB, wff, e0f, e1f, wc, cpo, wcp, wr, tpo, wrp, wp, fcd, m0, wta, l0a, l1a, d0a, d1a, g0a, g1a, lna, z0_a, z1_a, wd0_a, wd1_a, wg0_a, wg1_a, m1, wtb, l0b, l1b, d0b, d1b, g0b, g1b, lnb, z0_b, z1_b, wd0_b, wd1_b, wg0_b, wg1_b, m2, wtc, l0c, l1c, d0c, d1c, g0c, g1c, lnc, z0_c, z1_c, wd0_c, wd1_c, wg0_c, wg1_c, qi, fmk, m_all, m_has, i_size, i_next, i_where, i_token, i_number, i_word, i_wrong, i_farCrossing, m_read, i_z0, i_crossings, i_inns, m_posts, m_shut, m_here, i_steps, i_done, i_at, i_gone, m_was, m_came, m_seenAt, m_rowWorth, m_farBy, m_used, i_everywhere, i_again0, i_d0, i_never, i_firstCame, i_longRun, i_moved, i_crowd, i_l0, i_fitMany, i_fitLeast, i_fitMost, m_fitPost, m_fitEnd, m_keptPosts, i_x0, f_all, f_has, f_read, f_posts, f_shut, f_here, f_was, f_came, f_seenAt, f_rowWorth, f_farBy, f_used, f_fitPost, f_fitEnd, f_keptPosts⟩, rfl, H_wt, H_z0_, H_z1_, H_wd0_, H_wd1_, H_wg0_, H_wg1_, H_z, H_wd, H_wg, H_wwA, H_wwB, H_wff, H_wc, H_wcp, H_wr, H_wrp, H_wp, H_wta, H_z0_a, H_z1_a, H_wd0_a, H_wd1_a, H_wg0_a, H_wg1_a, H_wtb, H_z0_b, H_z1_b, H_wd0_b, H_wd1_b, H_wg0_b, H_wg1_b, H_wtc, H_z0_c, H_z1_c, H_wd0_c, H_wd1_c, H_wg0_c, H_wg1_c, hm0, hm1, hm2, h56, hFI, hAI, hRl, hHs⟩ := hI
  replace H_wt : hTold T t l0 l1 d0 d1 g0 g1 ln wt := H_wt
  replace H_z0_ : hLand T l0 z0_ := H_z0_
  replace H_z1_ : hLand T l1 z1_ := H_z1_
  replace H_wd0_ : hDay T d0 wd0_ := H_wd0_
  replace H_wd1_ : hDay T d1 wd1_ := H_wd1_
  replace H_wg0_ : hLog T g0 wg0_ := H_wg0_
  replace H_wg1_ : hLog T g1 wg1_ := H_wg1_
  replace H_z : hLandR T rl z := H_z
  replace H_wd : hDay T rdd wd := H_wd
  replace H_wg : hLog T rg wg := H_wg
  replace H_wwA : hWays T wa mdA n4A l0 wwA := H_wwA
  replace H_wwB : hWays T wb_ mdB n4B l1 wwB := H_wwB
  replace H_wff : hFit T fi e0f e1f m1f wff := H_wff
  replace H_wc : hCourse T co cpo wc := H_wc
  replace H_wcp : hPosts T cpo wcp := H_wcp
  replace H_wr : hTrail T tr tpo wr := H_wr
  replace H_wrp : hPosts T tpo wrp := H_wrp
  replace H_wp : hPosts T po wp := H_wp
  replace H_wta : hTold T m0 l0a l1a d0a d1a g0a g1a lna wta := H_wta
  replace H_z0_a : hLand T l0a z0_a := H_z0_a
  replace H_z1_a : hLand T l1a z1_a := H_z1_a
  replace H_wd0_a : hDay T d0a wd0_a := H_wd0_a
  replace H_wd1_a : hDay T d1a wd1_a := H_wd1_a
  replace H_wg0_a : hLog T g0a wg0_a := H_wg0_a
  replace H_wg1_a : hLog T g1a wg1_a := H_wg1_a
  replace H_wtb : hTold T m1 l0b l1b d0b d1b g0b g1b lnb wtb := H_wtb
  replace H_z0_b : hLand T l0b z0_b := H_z0_b
  replace H_z1_b : hLand T l1b z1_b := H_z1_b
  replace H_wd0_b : hDay T d0b wd0_b := H_wd0_b
  replace H_wd1_b : hDay T d1b wd1_b := H_wd1_b
  replace H_wg0_b : hLog T g0b wg0_b := H_wg0_b
  replace H_wg1_b : hLog T g1b wg1_b := H_wg1_b
  replace H_wtc : hTold T m2 l0c l1c d0c d1c g0c g1c lnc wtc := H_wtc
  replace H_z0_c : hLand T l0c z0_c := H_z0_c
  replace H_z1_c : hLand T l1c z1_c := H_z1_c
  replace H_wd0_c : hDay T d0c wd0_c := H_wd0_c
  replace H_wd1_c : hDay T d1c wd1_c := H_wd1_c
  replace H_wg0_c : hLog T g0c wg0_c := H_wg0_c
  replace H_wg1_c : hLog T g1c wg1_c := H_wg1_c
  replace hm0 : qi 0 = some m0 := hm0
  replace hm1 : qi 1 = some m1 := hm1
  replace hm2 : qi 2 = some m2 := hm2
  replace h56 : ((0 ≤ r5.toInt ∧ r5.toInt ≤ 600) ∧ 0 ≤ r6.toInt ∧ r6.toInt ≤ 1000) := h56
  replace hFI : (¬ e0f = 0 → e1f.toInt = 0 ∧ ¬ mdA = 0 ∨ e1f.toInt = 1 ∧ ¬ mdB = 0) := hFI
  replace hAI : zAI f_all := hAI
  replace hRl : zRl ln lna lnb lnc f_all := hRl
  replace hHs : zHs fmk f_has := hHs
  replace G : zS T A s.heap s [[(xo, .inr (10, [.ref t, .ref im, .ref mk, .ref rd, .ref po, .ref co, .ref tr, .ref wa, .ref wb_, .ref fi, .ref cd]))], wt, z0_, z1_, wd0_, wd1_, wg0_, wg1_, [(rd, .inr (7, [.ref rl, .ref rdd, .ref rg, .int r0, .int r1, .ref tq, .int r2, .int r3, .int r4, .int r5, .int r6, .int r7, .int r8]))], z, wd, wg, wwA, wwB, wff, wc, wcp, wr, wrp, wp, [(cd, .inl (T.2 0, 1000, .inl fcd))], wta, z0_a, z1_a, wd0_a, wd1_a, wg0_a, wg1_a, wtb, z0_b, z1_b, wd0_b, wd1_b, wg0_b, wg1_b, wtc, z0_c, z1_c, wd0_c, wd1_c, wg0_c, wg1_c, [(im, .inl (T.2 6, 3, .inr (.inr (.inr (.inr qi)))))], [(mk, .inl (T.2 2, 3, .inl fmk))], [(mo, .inr (11, [.ref m_all, .ref m_has, .int i_size, .int i_next, .int i_where, .int i_token, .int i_number, .int i_word, .int i_wrong, .int i_farCrossing, .ref m_read, .int i_z0, .int i_crossings, .int i_inns, .ref m_posts, .ref m_shut, .ref m_here, .int i_steps, .int i_done, .int i_at, .int i_gone, .ref m_was, .ref m_came, .ref m_seenAt, .ref m_rowWorth, .ref m_farBy, .ref m_used, .int i_everywhere, .int i_again0, .int i_d0, .int i_never, .int i_firstCame, .int i_longRun, .int i_moved, .int i_crowd, .int i_l0, .int i_fitMany, .int i_fitLeast, .int i_fitMost, .ref m_fitPost, .ref m_fitEnd, .ref m_keptPosts, .int i_x0]))], [(m_all, .inl (T.2 0, 3952, .inl f_all))], [(m_has, .inl (T.2 2, 3, .inl f_has))], [(m_read, .inl (T.2 0, 121, .inl f_read))], [(m_posts, .inl (T.2 0, 7, .inl f_posts))], [(m_shut, .inl (T.2 0, 7, .inl f_shut))], [(m_here, .inl (T.2 0, 7, .inl f_here))], [(m_was, .inl (T.2 0, 7, .inl f_was))], [(m_came, .inl (T.2 0, 7, .inl f_came))], [(m_seenAt, .inl (T.2 0, 16384, .inl f_seenAt))], [(m_rowWorth, .inl (T.2 0, 512, .inl f_rowWorth))], [(m_farBy, .inl (T.2 0, 49, .inl f_farBy))], [(m_used, .inl (T.2 0, 7, .inl f_used))], [(m_fitPost, .inl (T.2 0, 28, .inl f_fitPost))], [(m_fitEnd, .inl (T.2 0, 49, .inl f_fitEnd))], [(m_keptPosts, .inl (T.2 0, 7, .inl f_keptPosts))]] H locs := G
  have hB := zAI_0 hAI
  have hB4 := hB.1
  obtain ⟨hln, hlna, hlnb, hlnc⟩ := zRl_in hAI hRl
  refine lv_aload_n hx hb dL_law_439 rfl (lv_at hl 1 rfl) ?_
  refine lv_aload_n hx hb dL_law_440 rfl (lv_at hl 0 rfl) ?_
  refine lv_iload_n hx hb dL_law_441 rfl (lv_at hl 3 rfl) ?_
  refine lv_iconst (v := 1) hx hb dL_law_442 (by decide) ?_
  refine lv_iadd hx hb dL_law_443 ?_
  refine lv_topi (fun y_1 ey_1 => ?_)
  obtain rfl : y_1 = nI (i + 1) := ey_1.trans (z_iaddn i 1 rfl rfl)
  refine va_sld hx hb hX hbl hbA G.2.2.2.1 (vp_in_nI (by omega) (by omega)) dL_law_444 ?_
  refine lv_topi (fun v_2 ev_2 => ?_)
  rw [nI_clamp (by omega)] at ev_2
  have ev_2 : v_2 = xs (i + 1) := ev_2
  subst ev_2
  refine lv_aload_n hx hb dL_law_445 rfl (lv_at hl 0 rfl) ?_
  refine lv_iload_n hx hb dL_law_446 rfl (lv_at hl 3 rfl) ?_
  refine lv_iconst (v := 2) hx hb dL_law_447 (by decide) ?_
  refine lv_iadd hx hb dL_law_448 ?_
  refine lv_topi (fun y_3 ey_3 => ?_)
  obtain rfl : y_3 = nI (i + 2) := ey_3.trans (z_iaddn i 2 rfl rfl)
  refine va_sld hx hb hX hbl hbA G.2.2.2.1 (vp_in_nI (by omega) (by omega)) dL_law_449 ?_
  refine lv_topi (fun v_4 ev_4 => ?_)
  rw [nI_clamp (by omega)] at ev_4
  have ev_4 : v_4 = xs (i + 2) := ev_4
  subst ev_4
  refine lv_aload_n hx hb dL_law_450 rfl (lv_at hl 0 rfl) ?_
  refine lv_iload_n hx hb dL_law_451 rfl (lv_at hl 3 rfl) ?_
  refine lv_iconst (v := 3) hx hb dL_law_452 (by decide) ?_
  refine lv_iadd hx hb dL_law_453 ?_
  refine lv_topi (fun y_5 ey_5 => ?_)
  obtain rfl : y_5 = nI (i + 3) := ey_5.trans (z_iaddn i 3 rfl rfl)
  refine va_sld hx hb hX hbl hbA G.2.2.2.1 (vp_in_nI (by omega) (by omega)) dL_law_454 ?_
  refine lv_topi (fun v_6 ev_6 => ?_)
  rw [nI_clamp (by omega)] at ev_6
  have ev_6 : v_6 = xs (i + 3) := ev_6
  subst ev_6
  refine lv_aload_n hx hb dL_law_455 rfl (lv_at hl 0 rfl) ?_
  refine lv_iload_n hx hb dL_law_456 rfl (lv_at hl 3 rfl) ?_
  refine lv_iconst (v := 4) hx hb dL_law_457 (by decide) ?_
  refine lv_iadd hx hb dL_law_458 ?_
  refine lv_topi (fun y_7 ey_7 => ?_)
  obtain rfl : y_7 = nI (i + 4) := ey_7.trans (z_iaddn i 4 rfl rfl)
  refine va_sld hx hb hX hbl hbA G.2.2.2.1 (vp_in_nI (by omega) (by omega)) dL_law_459 ?_
  refine lv_topi (fun v_8 ev_8 => ?_)
  rw [nI_clamp (by omega)] at ev_8
  have ev_8 : v_8 = xs (i + 4) := ev_8
  subst ev_8
  obtain ⟨v_9, v_10, v_11, v_12, h_13, h_14⟩ := H_wt
  have h_14 : zKT v_12 := h_14
  obtain ⟨v_15, v_16, v_17, v_18, v_19, v_20, h_21, h_22⟩ := H_z0_
  have h_22 : zLI v_15 v_17 v_19 := h_22
  obtain ⟨v_23, v_24, v_25, v_26, v_27, v_28, h_29, h_30⟩ := H_z1_
  have h_30 : zLI v_23 v_25 v_27 := h_30
  obtain ⟨v_31, v_32, v_33, v_34, h_35⟩ := H_wd0_
  obtain ⟨v_36, v_37, v_38, v_39, h_40⟩ := H_wd1_
  obtain ⟨v_41, v_42, v_43, v_44, v_45, v_46, v_47, v_48, v_49, v_50, h_51⟩ := H_wc
  obtain ⟨v_52, v_53, v_54, v_55, v_56, v_57, h_58⟩ := H_wcp
  refine z_Vi (bc := [[(xo, .inr (10, [.ref t, .ref im, .ref mk, .ref rd, .ref po, .ref co, .ref tr, .ref wa, .ref wb_, .ref fi, .ref cd]))], wt, z0_, z1_, wd0_, wd1_, wc, wcp]) (br := [wg0_, wg1_, [(rd, .inr (7, [.ref rl, .ref rdd, .ref rg, .int r0, .int r1, .ref tq, .int r2, .int r3, .int r4, .int r5, .int r6, .int r7, .int r8]))], z, wd, wg, wwA, wwB, wff, wr, wrp, wp, [(cd, .inl (T.2 0, 1000, .inl fcd))], wta, z0_a, z1_a, wd0_a, wd1_a, wg0_a, wg1_a, wtb, z0_b, z1_b, wd0_b, wd1_b, wg0_b, wg1_b, wtc, z0_c, z1_c, wd0_c, wd1_c, wg0_c, wg1_c, [(im, .inl (T.2 6, 3, .inr (.inr (.inr (.inr qi)))))], [(mk, .inl (T.2 2, 3, .inl fmk))], [(mo, .inr (11, [.ref m_all, .ref m_has, .int i_size, .int i_next, .int i_where, .int i_token, .int i_number, .int i_word, .int i_wrong, .int i_farCrossing, .ref m_read, .int i_z0, .int i_crossings, .int i_inns, .ref m_posts, .ref m_shut, .ref m_here, .int i_steps, .int i_done, .int i_at, .int i_gone, .ref m_was, .ref m_came, .ref m_seenAt, .ref m_rowWorth, .ref m_farBy, .ref m_used, .int i_everywhere, .int i_again0, .int i_d0, .int i_never, .int i_firstCame, .int i_longRun, .int i_moved, .int i_crowd, .int i_l0, .int i_fitMany, .int i_fitLeast, .int i_fitMost, .ref m_fitPost, .ref m_fitEnd, .ref m_keptPosts, .int i_x0]))], [(m_all, .inl (T.2 0, 3952, .inl f_all))], [(m_has, .inl (T.2 2, 3, .inl f_has))], [(m_read, .inl (T.2 0, 121, .inl f_read))], [(m_posts, .inl (T.2 0, 7, .inl f_posts))], [(m_shut, .inl (T.2 0, 7, .inl f_shut))], [(m_here, .inl (T.2 0, 7, .inl f_here))], [(m_was, .inl (T.2 0, 7, .inl f_was))], [(m_came, .inl (T.2 0, 7, .inl f_came))], [(m_seenAt, .inl (T.2 0, 16384, .inl f_seenAt))], [(m_rowWorth, .inl (T.2 0, 512, .inl f_rowWorth))], [(m_farBy, .inl (T.2 0, 49, .inl f_farBy))], [(m_used, .inl (T.2 0, 7, .inl f_used))], [(m_fitPost, .inl (T.2 0, 28, .inl f_fitPost))], [(m_fitEnd, .inl (T.2 0, 49, .inl f_fitEnd))], [(m_keptPosts, .inl (T.2 0, 7, .inl f_keptPosts))]]) (As := [.int (xs (i + 1)), .int (xs (i + 2)), .int (xs (i + 3)), .int (xs (i + 4))]) (rest := []) C G (c_state l T xo t im mk rd po co tr wa wb_ fi cd l0 l1 d0 d1 g0 g1 ln v_9 v_10 v_11 v_12 wt v_15 v_16 v_17 v_18 v_19 v_20 z0_ v_23 v_24 v_25 v_26 v_27 v_28 z1_ v_31 v_32 v_33 v_34 wd0_ v_36 v_37 v_38 v_39 wd1_ cpo v_41 v_42 v_43 v_44 v_45 v_46 v_47 v_48 v_49 v_50 wc v_52 v_53 v_54 v_55 v_56 v_57 wcp (xs (i + 1)) (xs (i + 2)) (xs (i + 3)) (xs (i + 4)) h_13 (by first | assumption | omega | rfl) h_21 (by first | assumption | omega | rfl) h_29 (by first | assumption | omega | rfl) h_35 h_40 h_51 h_58) (kV_RL_45 C.2.2.2.2 (Nat.le_of_ble_eq_true rfl) (Nat.le_of_ble_eq_true rfl)) [0, 1, 2, 3, 4, 5, 15, 16] [6, 7, 8, 9, 10, 11, 12, 13, 14, 17, 18, 19, 20, 21, 22, 23, 24, 25, 26, 27, 28, 29, 30, 31, 32, 33, 34, 35, 36, 37, 38, 39, 40, 41, 42, 43, 44, 45, 46, 47, 48, 49, 50, 51, 52, 53, 54, 55, 56, 57, 58, 59] rfl rfl (ci := 10) (qc := (RX11, TX11, 11)) rfl rfl (List.mem_flatten.mpr ⟨_, List.mem_of_getElem? (i := 0) rfl, List.mem_cons_self⟩) rfl rfl hl.1 dL_law_460 (by show _ + 0 ≤ 600000; omega) (by show _ + 0 ≤ 7302250; omega) (fun r_79 b1 H locs hw G => ?_)
  obtain ⟨cla_59, cfw_60, v0_61, v1_62, v2_63, v3_64, v4_65, v5_66, v6_67, v7_68, wc_69, cpl_70, cf1_71, cf2_72, cf3_73, cst_74, cwh_75, wcp_76, rfl, h_77, h_78⟩ := hw
  have G : zS T A s.heap s [wg0_, wg1_, [(rd, .inr (7, [.ref rl, .ref rdd, .ref rg, .int r0, .int r1, .ref tq, .int r2, .int r3, .int r4, .int r5, .int r6, .int r7, .int r8]))], z, wd, wg, wwA, wwB, wff, wr, wrp, wp, [(cd, .inl (T.2 0, 1000, .inl fcd))], wta, z0_a, z1_a, wd0_a, wd1_a, wg0_a, wg1_a, wtb, z0_b, z1_b, wd0_b, wd1_b, wg0_b, wg1_b, wtc, z0_c, z1_c, wd0_c, wd1_c, wg0_c, wg1_c, [(im, .inl (T.2 6, 3, .inr (.inr (.inr (.inr qi)))))], [(mk, .inl (T.2 2, 3, .inl fmk))], [(mo, .inr (11, [.ref m_all, .ref m_has, .int i_size, .int i_next, .int i_where, .int i_token, .int i_number, .int i_word, .int i_wrong, .int i_farCrossing, .ref m_read, .int i_z0, .int i_crossings, .int i_inns, .ref m_posts, .ref m_shut, .ref m_here, .int i_steps, .int i_done, .int i_at, .int i_gone, .ref m_was, .ref m_came, .ref m_seenAt, .ref m_rowWorth, .ref m_farBy, .ref m_used, .int i_everywhere, .int i_again0, .int i_d0, .int i_never, .int i_firstCame, .int i_longRun, .int i_moved, .int i_crowd, .int i_l0, .int i_fitMany, .int i_fitLeast, .int i_fitMost, .ref m_fitPost, .ref m_fitEnd, .ref m_keptPosts, .int i_x0]))], [(m_all, .inl (T.2 0, 3952, .inl f_all))], [(m_has, .inl (T.2 2, 3, .inl f_has))], [(m_read, .inl (T.2 0, 121, .inl f_read))], [(m_posts, .inl (T.2 0, 7, .inl f_posts))], [(m_shut, .inl (T.2 0, 7, .inl f_shut))], [(m_here, .inl (T.2 0, 7, .inl f_here))], [(m_was, .inl (T.2 0, 7, .inl f_was))], [(m_came, .inl (T.2 0, 7, .inl f_came))], [(m_seenAt, .inl (T.2 0, 16384, .inl f_seenAt))], [(m_rowWorth, .inl (T.2 0, 512, .inl f_rowWorth))], [(m_farBy, .inl (T.2 0, 49, .inl f_farBy))], [(m_used, .inl (T.2 0, 7, .inl f_used))], [(m_fitPost, .inl (T.2 0, 28, .inl f_fitPost))], [(m_fitEnd, .inl (T.2 0, 49, .inl f_fitEnd))], [(m_keptPosts, .inl (T.2 0, 7, .inl f_keptPosts))], [(xo, .inr (10, [.ref t, .ref im, .ref mk, .ref rd, .ref po, .ref co, .ref tr, .ref wa, .ref wb_, .ref fi, .ref cd]))], wt, z0_, z1_, wd0_, wd1_, wc_69, wcp_76] _ _ := G
  refine lv_pop hx hb dL_law_463 rfl ?_
  refine lv_aload_n hx hb dL_law_464 rfl (lv_at hl 2 rfl) ?_
  refine lv_aload_n hx hb dL_law_465 rfl (lv_at hl 0 rfl) ?_
  refine lv_iload_n hx hb dL_law_466 rfl (lv_at hl 3 rfl) ?_
  refine lv_iconst (v := 1) hx hb dL_law_467 (by decide) ?_
  refine lv_iadd hx hb dL_law_468 ?_
  refine lv_topi (fun y_80 ey_80 => ?_)
  obtain rfl : y_80 = nI (i + 1) := ey_80.trans (z_iaddn i 1 rfl rfl)
  refine va_sld hx hb hX hbl hbA G.2.2.2.1 (vp_in_nI (by omega) (by omega)) dL_law_469 ?_
  refine lv_topi (fun v_81 ev_81 => ?_)
  rw [nI_clamp (by omega)] at ev_81
  have ev_81 : v_81 = xs (i + 1) := ev_81
  subst ev_81
  refine lv_aload_n hx hb dL_law_470 rfl (lv_at hl 0 rfl) ?_
  refine lv_iload_n hx hb dL_law_471 rfl (lv_at hl 3 rfl) ?_
  refine lv_iconst (v := 2) hx hb dL_law_472 (by decide) ?_
  refine lv_iadd hx hb dL_law_473 ?_
  refine lv_topi (fun y_82 ey_82 => ?_)
  obtain rfl : y_82 = nI (i + 2) := ey_82.trans (z_iaddn i 2 rfl rfl)
  refine va_sld hx hb hX hbl hbA G.2.2.2.1 (vp_in_nI (by omega) (by omega)) dL_law_474 ?_
  refine lv_topi (fun v_83 ev_83 => ?_)
  rw [nI_clamp (by omega)] at ev_83
  have ev_83 : v_83 = xs (i + 2) := ev_83
  subst ev_83
  refine lv_aload_n hx hb dL_law_475 rfl (lv_at hl 0 rfl) ?_
  refine lv_iload_n hx hb dL_law_476 rfl (lv_at hl 3 rfl) ?_
  refine lv_iconst (v := 3) hx hb dL_law_477 (by decide) ?_
  refine lv_iadd hx hb dL_law_478 ?_
  refine lv_topi (fun y_84 ey_84 => ?_)
  obtain rfl : y_84 = nI (i + 3) := ey_84.trans (z_iaddn i 3 rfl rfl)
  refine va_sld hx hb hX hbl hbA G.2.2.2.1 (vp_in_nI (by omega) (by omega)) dL_law_479 ?_
  refine lv_topi (fun v_85 ev_85 => ?_)
  rw [nI_clamp (by omega)] at ev_85
  have ev_85 : v_85 = xs (i + 3) := ev_85
  subst ev_85
  refine lv_aload_n hx hb dL_law_480 rfl (lv_at hl 0 rfl) ?_
  refine lv_iload_n hx hb dL_law_481 rfl (lv_at hl 3 rfl) ?_
  refine lv_iconst (v := 4) hx hb dL_law_482 (by decide) ?_
  refine lv_iadd hx hb dL_law_483 ?_
  refine lv_topi (fun y_86 ey_86 => ?_)
  obtain rfl : y_86 = nI (i + 4) := ey_86.trans (z_iaddn i 4 rfl rfl)
  refine va_sld hx hb hX hbl hbA G.2.2.2.1 (vp_in_nI (by omega) (by omega)) dL_law_484 ?_
  refine lv_topi (fun v_87 ev_87 => ?_)
  rw [nI_clamp (by omega)] at ev_87
  have ev_87 : v_87 = xs (i + 4) := ev_87
  subst ev_87
  refine z_Vi (bc := [[(mo, .inr (11, [.ref m_all, .ref m_has, .int i_size, .int i_next, .int i_where, .int i_token, .int i_number, .int i_word, .int i_wrong, .int i_farCrossing, .ref m_read, .int i_z0, .int i_crossings, .int i_inns, .ref m_posts, .ref m_shut, .ref m_here, .int i_steps, .int i_done, .int i_at, .int i_gone, .ref m_was, .ref m_came, .ref m_seenAt, .ref m_rowWorth, .ref m_farBy, .ref m_used, .int i_everywhere, .int i_again0, .int i_d0, .int i_never, .int i_firstCame, .int i_longRun, .int i_moved, .int i_crowd, .int i_l0, .int i_fitMany, .int i_fitLeast, .int i_fitMost, .ref m_fitPost, .ref m_fitEnd, .ref m_keptPosts, .int i_x0]))], [(m_all, .inl (T.2 0, 3952, .inl f_all))], [(m_posts, .inl (T.2 0, 7, .inl f_posts))], [(m_shut, .inl (T.2 0, 7, .inl f_shut))], [(m_here, .inl (T.2 0, 7, .inl f_here))], [(m_was, .inl (T.2 0, 7, .inl f_was))]]) (br := [wg0_, wg1_, [(rd, .inr (7, [.ref rl, .ref rdd, .ref rg, .int r0, .int r1, .ref tq, .int r2, .int r3, .int r4, .int r5, .int r6, .int r7, .int r8]))], z, wd, wg, wwA, wwB, wff, wr, wrp, wp, [(cd, .inl (T.2 0, 1000, .inl fcd))], wta, z0_a, z1_a, wd0_a, wd1_a, wg0_a, wg1_a, wtb, z0_b, z1_b, wd0_b, wd1_b, wg0_b, wg1_b, wtc, z0_c, z1_c, wd0_c, wd1_c, wg0_c, wg1_c, [(im, .inl (T.2 6, 3, .inr (.inr (.inr (.inr qi)))))], [(mk, .inl (T.2 2, 3, .inl fmk))], [(m_has, .inl (T.2 2, 3, .inl f_has))], [(m_read, .inl (T.2 0, 121, .inl f_read))], [(m_came, .inl (T.2 0, 7, .inl f_came))], [(m_seenAt, .inl (T.2 0, 16384, .inl f_seenAt))], [(m_rowWorth, .inl (T.2 0, 512, .inl f_rowWorth))], [(m_farBy, .inl (T.2 0, 49, .inl f_farBy))], [(m_used, .inl (T.2 0, 7, .inl f_used))], [(m_fitPost, .inl (T.2 0, 28, .inl f_fitPost))], [(m_fitEnd, .inl (T.2 0, 49, .inl f_fitEnd))], [(m_keptPosts, .inl (T.2 0, 7, .inl f_keptPosts))], [(xo, .inr (10, [.ref t, .ref im, .ref mk, .ref rd, .ref po, .ref co, .ref tr, .ref wa, .ref wb_, .ref fi, .ref cd]))], wt, z0_, z1_, wd0_, wd1_, wc_69, wcp_76]) (As := [.int (xs (i + 1)), .int (xs (i + 2)), .int (xs (i + 3)), .int (xs (i + 4))]) (rest := []) C G (c_m_state l T mo m_all m_has i_size i_next i_where i_token i_number i_word i_wrong i_farCrossing m_read i_z0 i_crossings i_inns m_posts m_shut m_here i_steps i_done i_at i_gone m_was m_came m_seenAt m_rowWorth m_farBy m_used i_everywhere i_again0 i_d0 i_never i_firstCame i_longRun i_moved i_crowd i_l0 i_fitMany i_fitLeast i_fitMost m_fitPost m_fitEnd m_keptPosts i_x0 f_all f_posts f_shut f_here f_was (xs (i + 1)) (xs (i + 2)) (xs (i + 3)) (xs (i + 4)) (by first | assumption | omega | rfl)) (kV_RL_49 C.2.2.2.2 (Nat.le_of_ble_eq_true rfl) (Nat.le_of_ble_eq_true rfl)) [36, 37, 40, 41, 42, 43] [0, 1, 2, 3, 4, 5, 6, 7, 8, 9, 10, 11, 12, 13, 14, 15, 16, 17, 18, 19, 20, 21, 22, 23, 24, 25, 26, 27, 28, 29, 30, 31, 32, 33, 34, 35, 38, 39, 44, 45, 46, 47, 48, 49, 50, 51, 52, 53, 54, 55, 56, 57, 58, 59] rfl rfl (ci := 11) (qc := (RX12, TX12, 43)) rfl rfl (List.mem_flatten.mpr ⟨_, List.mem_of_getElem? (i := 0) rfl, List.mem_cons_self⟩) rfl rfl hl.1 dL_law_485 (by show _ + 0 ≤ 600000; omega) (by show _ + 0 ≤ 7302250; omega) (fun r_105 b1 H locs hw G => ?_)
  obtain ⟨j_z0_88, j_crossings_89, j_inns_90, j_steps_91, j_done_92, j_at_93, j_gone_94, j_d0_95, j_never_96, j_firstCame_97, j_longRun_98, j_moved_99, j_crowd_100, g_posts_101, g_shut_102, g_here_103, g_was_104, rfl⟩ := hw
  have G : zS T A s.heap s [wg0_, wg1_, [(rd, .inr (7, [.ref rl, .ref rdd, .ref rg, .int r0, .int r1, .ref tq, .int r2, .int r3, .int r4, .int r5, .int r6, .int r7, .int r8]))], z, wd, wg, wwA, wwB, wff, wr, wrp, wp, [(cd, .inl (T.2 0, 1000, .inl fcd))], wta, z0_a, z1_a, wd0_a, wd1_a, wg0_a, wg1_a, wtb, z0_b, z1_b, wd0_b, wd1_b, wg0_b, wg1_b, wtc, z0_c, z1_c, wd0_c, wd1_c, wg0_c, wg1_c, [(im, .inl (T.2 6, 3, .inr (.inr (.inr (.inr qi)))))], [(mk, .inl (T.2 2, 3, .inl fmk))], [(m_has, .inl (T.2 2, 3, .inl f_has))], [(m_read, .inl (T.2 0, 121, .inl f_read))], [(m_came, .inl (T.2 0, 7, .inl f_came))], [(m_seenAt, .inl (T.2 0, 16384, .inl f_seenAt))], [(m_rowWorth, .inl (T.2 0, 512, .inl f_rowWorth))], [(m_farBy, .inl (T.2 0, 49, .inl f_farBy))], [(m_used, .inl (T.2 0, 7, .inl f_used))], [(m_fitPost, .inl (T.2 0, 28, .inl f_fitPost))], [(m_fitEnd, .inl (T.2 0, 49, .inl f_fitEnd))], [(m_keptPosts, .inl (T.2 0, 7, .inl f_keptPosts))], [(xo, .inr (10, [.ref t, .ref im, .ref mk, .ref rd, .ref po, .ref co, .ref tr, .ref wa, .ref wb_, .ref fi, .ref cd]))], wt, z0_, z1_, wd0_, wd1_, wc_69, wcp_76, [(mo, .inr (11, [.ref m_all, .ref m_has, .int i_size, .int i_next, .int i_where, .int i_token, .int i_number, .int i_word, .int i_wrong, .int i_farCrossing, .ref m_read, .int j_z0_88, .int j_crossings_89, .int j_inns_90, .ref m_posts, .ref m_shut, .ref m_here, .int j_steps_91, .int j_done_92, .int j_at_93, .int j_gone_94, .ref m_was, .ref m_came, .ref m_seenAt, .ref m_rowWorth, .ref m_farBy, .ref m_used, .int i_everywhere, .int i_again0, .int j_d0_95, .int j_never_96, .int j_firstCame_97, .int j_longRun_98, .int j_moved_99, .int j_crowd_100, .int i_l0, .int i_fitMany, .int i_fitLeast, .int i_fitMost, .ref m_fitPost, .ref m_fitEnd, .ref m_keptPosts, .int i_x0]))], [(m_all, .inl (T.2 0, 3952, .inl f_all))], [(m_posts, .inl (T.2 0, 7, .inl g_posts_101))], [(m_shut, .inl (T.2 0, 7, .inl g_shut_102))], [(m_here, .inl (T.2 0, 7, .inl g_here_103))], [(m_was, .inl (T.2 0, 7, .inl g_was_104))]] _ _ := G
  refine lv_pop hx hb dL_law_488 rfl ?_
  refine lv_goto (tgt := 1767) hx hb dL_law_489 (by decide) ?_
  have G := G.sub (bs' := [[(xo, .inr (10, [.ref t, .ref im, .ref mk, .ref rd, .ref po, .ref co, .ref tr, .ref wa, .ref wb_, .ref fi, .ref cd]))], wt, z0_, z1_, wd0_, wd1_, wg0_, wg1_, [(rd, .inr (7, [.ref rl, .ref rdd, .ref rg, .int r0, .int r1, .ref tq, .int r2, .int r3, .int r4, .int r5, .int r6, .int r7, .int r8]))], z, wd, wg, wwA, wwB, wff, wc_69, wcp_76, wr, wrp, wp, [(cd, .inl (T.2 0, 1000, .inl fcd))], wta, z0_a, z1_a, wd0_a, wd1_a, wg0_a, wg1_a, wtb, z0_b, z1_b, wd0_b, wd1_b, wg0_b, wg1_b, wtc, z0_c, z1_c, wd0_c, wd1_c, wg0_c, wg1_c, [(im, .inl (T.2 6, 3, .inr (.inr (.inr (.inr qi)))))], [(mk, .inl (T.2 2, 3, .inl fmk))], [(mo, .inr (11, [.ref m_all, .ref m_has, .int i_size, .int i_next, .int i_where, .int i_token, .int i_number, .int i_word, .int i_wrong, .int i_farCrossing, .ref m_read, .int j_z0_88, .int j_crossings_89, .int j_inns_90, .ref m_posts, .ref m_shut, .ref m_here, .int j_steps_91, .int j_done_92, .int j_at_93, .int j_gone_94, .ref m_was, .ref m_came, .ref m_seenAt, .ref m_rowWorth, .ref m_farBy, .ref m_used, .int i_everywhere, .int i_again0, .int j_d0_95, .int j_never_96, .int j_firstCame_97, .int j_longRun_98, .int j_moved_99, .int j_crowd_100, .int i_l0, .int i_fitMany, .int i_fitLeast, .int i_fitMost, .ref m_fitPost, .ref m_fitEnd, .ref m_keptPosts, .int i_x0]))], [(m_all, .inl (T.2 0, 3952, .inl f_all))], [(m_has, .inl (T.2 2, 3, .inl f_has))], [(m_read, .inl (T.2 0, 121, .inl f_read))], [(m_posts, .inl (T.2 0, 7, .inl g_posts_101))], [(m_shut, .inl (T.2 0, 7, .inl g_shut_102))], [(m_here, .inl (T.2 0, 7, .inl g_here_103))], [(m_was, .inl (T.2 0, 7, .inl g_was_104))], [(m_came, .inl (T.2 0, 7, .inl f_came))], [(m_seenAt, .inl (T.2 0, 16384, .inl f_seenAt))], [(m_rowWorth, .inl (T.2 0, 512, .inl f_rowWorth))], [(m_farBy, .inl (T.2 0, 49, .inl f_farBy))], [(m_used, .inl (T.2 0, 7, .inl f_used))], [(m_fitPost, .inl (T.2 0, 28, .inl f_fitPost))], [(m_fitEnd, .inl (T.2 0, 49, .inl f_fitEnd))], [(m_keptPosts, .inl (T.2 0, 7, .inl f_keptPosts))]]) [46, 47, 48, 49, 50, 51, 0, 1, 2, 3, 4, 5, 6, 7, 8, 52, 53, 9, 10, 11, 12, 13, 14, 15, 16, 17, 18, 19, 20, 21, 22, 23, 24, 25, 26, 27, 28, 29, 30, 31, 32, 33, 34, 35, 54, 55, 36, 37, 56, 57, 58, 59, 38, 39, 40, 41, 42, 43, 44, 45] rfl
  refine W.widen (k := 216 + 2 * i + 12) (n := 27000 + 6 * (n4A + n4B) + 2 * m1f) (by omega) (by omega) ?_
  exact kk n4A n4B m1f _ ⟨⟨t, im, mk, rd, po, co, tr, wa, wb_, fi, cd, wt, l0, l1, d0, d1, g0, g1, ln, z0_, z1_, wd0_, wd1_, wg0_, wg1_, rl, rdd, rg, r0, r1, tq, r2, r3, r4, r5, r6, r7, r8, z, wd, wg, wwA, mdA, wwB, mdB, wff, e0f, e1f, wc_69, cpo, wcp_76, wr, tpo, wrp, wp, fcd, m0, wta, l0a, l1a, d0a, d1a, g0a, g1a, lna, z0_a, z1_a, wd0_a, wd1_a, wg0_a, wg1_a, m1, wtb, l0b, l1b, d0b, d1b, g0b, g1b, lnb, z0_b, z1_b, wd0_b, wd1_b, wg0_b, wg1_b, m2, wtc, l0c, l1c, d0c, d1c, g0c, g1c, lnc, z0_c, z1_c, wd0_c, wd1_c, wg0_c, wg1_c, qi, fmk, m_all, m_has, i_size, i_next, i_where, i_token, i_number, i_word, i_wrong, i_farCrossing, m_read, j_z0_88, j_crossings_89, j_inns_90, m_posts, m_shut, m_here, j_steps_91, j_done_92, j_at_93, j_gone_94, m_was, m_came, m_seenAt, m_rowWorth, m_farBy, m_used, i_everywhere, i_again0, j_d0_95, j_never_96, j_firstCame_97, j_longRun_98, j_moved_99, j_crowd_100, i_l0, i_fitMany, i_fitLeast, i_fitMost, m_fitPost, m_fitEnd, m_keptPosts, i_x0, f_all, f_has, f_read, g_posts_101, g_shut_102, g_here_103, g_was_104, f_came, f_seenAt, f_rowWorth, f_farBy, f_used, f_fitPost, f_fitEnd, f_keptPosts⟩, rfl, ⟨v_9, v_10, v_11, v_12, h_13, (by first | assumption | omega)⟩, ⟨v_15, v_16, v_17, v_18, v_19, v_20, h_21, (by first | assumption | omega)⟩, ⟨v_23, v_24, v_25, v_26, v_27, v_28, h_29, (by first | assumption | omega)⟩, ⟨v_31, v_32, v_33, v_34, h_35⟩, ⟨v_36, v_37, v_38, v_39, h_40⟩, H_wg0_, H_wg1_, H_z, H_wd, H_wg, H_wwA, H_wwB, H_wff, ⟨cla_59, cfw_60, v0_61, v1_62, v2_63, v3_64, v4_65, v5_66, v6_67, v7_68, h_77⟩, ⟨cpl_70, cf1_71, cf2_72, cf3_73, cst_74, cwh_75, h_78⟩, H_wr, H_wrp, H_wp, H_wta, H_z0_a, H_z1_a, H_wd0_a, H_wd1_a, H_wg0_a, H_wg1_a, H_wtb, H_z0_b, H_z1_b, H_wd0_b, H_wd1_b, H_wg0_b, H_wg1_b, H_wtc, H_z0_c, H_z1_c, H_wd0_c, H_wd1_c, H_wg0_c, H_wg1_c, (by first | assumption | omega), (by first | assumption | omega), (by first | assumption | omega), (by first | assumption | omega), (by first | assumption | omega), (by first | assumption | omega), (by first | assumption | omega), (by first | assumption | omega)⟩ _ _ ls G (lv_sub hl [0, 1, 2, 3] rfl)
set_option maxHeartbeats 40000000 in
set_option maxRecDepth 100000 in
theorem z_case_walk (l : Launch) {p : Program} {e : Env} {s : State} {m : MethodId} {b : Nat} {below : List Frame} {meth : Method} {c : Code} {Q : State → Prop} {T : zTy} {A : Nat → Prop} {L i : Nat} {xs : Nat → Int32} (hx : p.tables.exec = Jvm.exec) (hb : c.code = cL_law) (C : CallFix p m c cL_law 4 s #[Value.ref b] zT RL) (hX : va_X b L xs s s.heap) (hbl : b < s.heap.size) (hbA : ¬ A b) (hL : L ≤ 3072) (hi6 : i + 6 ≤ L) {xo mo n4A n4B m1f : Nat} (hnA : n4A ≤ 131072) (hnB : n4B ≤ 131072) (hmf : m1f ≤ 16384) {bs : List va_W} (hI : zInv T xo mo n4A n4B m1f bs) {H : Heap} {locs : List Loc} {ls : Array Slot} (G : zS T A s.heap s bs H locs) (hl : lv_has ls 4 [(0, .ref b), (1, .ref xo), (2, .ref mo), (3, .int (nI i))]) (kk : ∀ (n1 n2 n3 : Nat) (bs1 : List va_W), zInv T xo mo n1 n2 n3 bs1 → ∀ (H1 : Heap) (locs1 : List Loc) (ls1 : Array Slot), zS T A s.heap s bs1 H1 locs1 → lv_has ls1 4 [(0, .ref b), (1, .ref xo), (2, .ref mo), (3, .int (nI i))] → W p l e room_1 s m #[Value.ref b] below meth c H1 locs1 (216 + 2 * i + 12) (27000 + 6 * (n1 + n2) + 2 * n3) Q (F0 m 1767 ls1 [])) : W p l e room_1 s m #[Value.ref b] below meth c H locs (216 + 2 * i) (27000 + 6 * (n4A + n4B) + 2 * m1f) Q (F0 m 492 ls []) := by
  obtain ⟨⟨t, im, mk, rd, po, co, tr, wa, wb_, fi, cd, wt, l0, l1, d0, d1, g0, g1, ln, z0_, z1_, wd0_, wd1_, wg0_, wg1_, rl, rdd, rg, r0, r1, tq, r2, r3, r4, r5, r6, r7, r8, z, wd, wg, wwA, mdA, wwB, mdB, wff, e0f, e1f, wc, cpo, wcp, wr, tpo, wrp, wp, fcd, m0, wta, l0a, l1a, d0a, d1a, g0a, g1a, lna, z0_a, z1_a, wd0_a, wd1_a, wg0_a, wg1_a, m1, wtb, l0b, l1b, d0b, d1b, g0b, g1b, lnb, z0_b, z1_b, wd0_b, wd1_b, wg0_b, wg1_b, m2, wtc, l0c, l1c, d0c, d1c, g0c, g1c, lnc, z0_c, z1_c, wd0_c, wd1_c, wg0_c, wg1_c, qi, fmk, m_all, m_has, i_size, i_next, i_where, i_token, i_number, i_word, i_wrong, i_farCrossing, m_read, i_z0, i_crossings, i_inns, m_posts, m_shut, m_here, i_steps, i_done, i_at, i_gone, m_was, m_came, m_seenAt, m_rowWorth, m_farBy, m_used, i_everywhere, i_again0, i_d0, i_never, i_firstCame, i_longRun, i_moved, i_crowd, i_l0, i_fitMany, i_fitLeast, i_fitMost, m_fitPost, m_fitEnd, m_keptPosts, i_x0, f_all, f_has, f_read, f_posts, f_shut, f_here, f_was, f_came, f_seenAt, f_rowWorth, f_farBy, f_used, f_fitPost, f_fitEnd, f_keptPosts⟩, rfl, H_wt, H_z0_, H_z1_, H_wd0_, H_wd1_, H_wg0_, H_wg1_, H_z, H_wd, H_wg, H_wwA, H_wwB, H_wff, H_wc, H_wcp, H_wr, H_wrp, H_wp, H_wta, H_z0_a, H_z1_a, H_wd0_a, H_wd1_a, H_wg0_a, H_wg1_a, H_wtb, H_z0_b, H_z1_b, H_wd0_b, H_wd1_b, H_wg0_b, H_wg1_b, H_wtc, H_z0_c, H_z1_c, H_wd0_c, H_wd1_c, H_wg0_c, H_wg1_c, hm0, hm1, hm2, h56, hFI, hAI, hRl, hHs⟩ := hI
  replace H_wt : hTold T t l0 l1 d0 d1 g0 g1 ln wt := H_wt
  replace H_z0_ : hLand T l0 z0_ := H_z0_
  replace H_z1_ : hLand T l1 z1_ := H_z1_
  replace H_wd0_ : hDay T d0 wd0_ := H_wd0_
  replace H_wd1_ : hDay T d1 wd1_ := H_wd1_
  replace H_wg0_ : hLog T g0 wg0_ := H_wg0_
  replace H_wg1_ : hLog T g1 wg1_ := H_wg1_
  replace H_z : hLandR T rl z := H_z
  replace H_wd : hDay T rdd wd := H_wd
  replace H_wg : hLog T rg wg := H_wg
  replace H_wwA : hWays T wa mdA n4A l0 wwA := H_wwA
  replace H_wwB : hWays T wb_ mdB n4B l1 wwB := H_wwB
  replace H_wff : hFit T fi e0f e1f m1f wff := H_wff
  replace H_wc : hCourse T co cpo wc := H_wc
  replace H_wcp : hPosts T cpo wcp := H_wcp
  replace H_wr : hTrail T tr tpo wr := H_wr
  replace H_wrp : hPosts T tpo wrp := H_wrp
  replace H_wp : hPosts T po wp := H_wp
  replace H_wta : hTold T m0 l0a l1a d0a d1a g0a g1a lna wta := H_wta
  replace H_z0_a : hLand T l0a z0_a := H_z0_a
  replace H_z1_a : hLand T l1a z1_a := H_z1_a
  replace H_wd0_a : hDay T d0a wd0_a := H_wd0_a
  replace H_wd1_a : hDay T d1a wd1_a := H_wd1_a
  replace H_wg0_a : hLog T g0a wg0_a := H_wg0_a
  replace H_wg1_a : hLog T g1a wg1_a := H_wg1_a
  replace H_wtb : hTold T m1 l0b l1b d0b d1b g0b g1b lnb wtb := H_wtb
  replace H_z0_b : hLand T l0b z0_b := H_z0_b
  replace H_z1_b : hLand T l1b z1_b := H_z1_b
  replace H_wd0_b : hDay T d0b wd0_b := H_wd0_b
  replace H_wd1_b : hDay T d1b wd1_b := H_wd1_b
  replace H_wg0_b : hLog T g0b wg0_b := H_wg0_b
  replace H_wg1_b : hLog T g1b wg1_b := H_wg1_b
  replace H_wtc : hTold T m2 l0c l1c d0c d1c g0c g1c lnc wtc := H_wtc
  replace H_z0_c : hLand T l0c z0_c := H_z0_c
  replace H_z1_c : hLand T l1c z1_c := H_z1_c
  replace H_wd0_c : hDay T d0c wd0_c := H_wd0_c
  replace H_wd1_c : hDay T d1c wd1_c := H_wd1_c
  replace H_wg0_c : hLog T g0c wg0_c := H_wg0_c
  replace H_wg1_c : hLog T g1c wg1_c := H_wg1_c
  replace hm0 : qi 0 = some m0 := hm0
  replace hm1 : qi 1 = some m1 := hm1
  replace hm2 : qi 2 = some m2 := hm2
  replace h56 : ((0 ≤ r5.toInt ∧ r5.toInt ≤ 600) ∧ 0 ≤ r6.toInt ∧ r6.toInt ≤ 1000) := h56
  replace hFI : (¬ e0f = 0 → e1f.toInt = 0 ∧ ¬ mdA = 0 ∨ e1f.toInt = 1 ∧ ¬ mdB = 0) := hFI
  replace hAI : zAI f_all := hAI
  replace hRl : zRl ln lna lnb lnc f_all := hRl
  replace hHs : zHs fmk f_has := hHs
  replace G : zS T A s.heap s [[(xo, .inr (10, [.ref t, .ref im, .ref mk, .ref rd, .ref po, .ref co, .ref tr, .ref wa, .ref wb_, .ref fi, .ref cd]))], wt, z0_, z1_, wd0_, wd1_, wg0_, wg1_, [(rd, .inr (7, [.ref rl, .ref rdd, .ref rg, .int r0, .int r1, .ref tq, .int r2, .int r3, .int r4, .int r5, .int r6, .int r7, .int r8]))], z, wd, wg, wwA, wwB, wff, wc, wcp, wr, wrp, wp, [(cd, .inl (T.2 0, 1000, .inl fcd))], wta, z0_a, z1_a, wd0_a, wd1_a, wg0_a, wg1_a, wtb, z0_b, z1_b, wd0_b, wd1_b, wg0_b, wg1_b, wtc, z0_c, z1_c, wd0_c, wd1_c, wg0_c, wg1_c, [(im, .inl (T.2 6, 3, .inr (.inr (.inr (.inr qi)))))], [(mk, .inl (T.2 2, 3, .inl fmk))], [(mo, .inr (11, [.ref m_all, .ref m_has, .int i_size, .int i_next, .int i_where, .int i_token, .int i_number, .int i_word, .int i_wrong, .int i_farCrossing, .ref m_read, .int i_z0, .int i_crossings, .int i_inns, .ref m_posts, .ref m_shut, .ref m_here, .int i_steps, .int i_done, .int i_at, .int i_gone, .ref m_was, .ref m_came, .ref m_seenAt, .ref m_rowWorth, .ref m_farBy, .ref m_used, .int i_everywhere, .int i_again0, .int i_d0, .int i_never, .int i_firstCame, .int i_longRun, .int i_moved, .int i_crowd, .int i_l0, .int i_fitMany, .int i_fitLeast, .int i_fitMost, .ref m_fitPost, .ref m_fitEnd, .ref m_keptPosts, .int i_x0]))], [(m_all, .inl (T.2 0, 3952, .inl f_all))], [(m_has, .inl (T.2 2, 3, .inl f_has))], [(m_read, .inl (T.2 0, 121, .inl f_read))], [(m_posts, .inl (T.2 0, 7, .inl f_posts))], [(m_shut, .inl (T.2 0, 7, .inl f_shut))], [(m_here, .inl (T.2 0, 7, .inl f_here))], [(m_was, .inl (T.2 0, 7, .inl f_was))], [(m_came, .inl (T.2 0, 7, .inl f_came))], [(m_seenAt, .inl (T.2 0, 16384, .inl f_seenAt))], [(m_rowWorth, .inl (T.2 0, 512, .inl f_rowWorth))], [(m_farBy, .inl (T.2 0, 49, .inl f_farBy))], [(m_used, .inl (T.2 0, 7, .inl f_used))], [(m_fitPost, .inl (T.2 0, 28, .inl f_fitPost))], [(m_fitEnd, .inl (T.2 0, 49, .inl f_fitEnd))], [(m_keptPosts, .inl (T.2 0, 7, .inl f_keptPosts))]] H locs := G
  have hB := zAI_0 hAI
  have hB4 := hB.1
  obtain ⟨hln, hlna, hlnb, hlnc⟩ := zRl_in hAI hRl
  refine lv_aload_n hx hb dL_law_492 rfl (lv_at hl 1 rfl) ?_
  refine lv_aload_n hx hb dL_law_493 rfl (lv_at hl 0 rfl) ?_
  refine lv_iload_n hx hb dL_law_494 rfl (lv_at hl 3 rfl) ?_
  refine lv_iconst (v := 1) hx hb dL_law_495 (by decide) ?_
  refine lv_iadd hx hb dL_law_496 ?_
  refine lv_topi (fun y_1 ey_1 => ?_)
  obtain rfl : y_1 = nI (i + 1) := ey_1.trans (z_iaddn i 1 rfl rfl)
  refine va_sld hx hb hX hbl hbA G.2.2.2.1 (vp_in_nI (by omega) (by omega)) dL_law_497 ?_
  refine lv_topi (fun v_2 ev_2 => ?_)
  rw [nI_clamp (by omega)] at ev_2
  have ev_2 : v_2 = xs (i + 1) := ev_2
  subst ev_2
  refine lv_aload_n hx hb dL_law_498 rfl (lv_at hl 0 rfl) ?_
  refine lv_iload_n hx hb dL_law_499 rfl (lv_at hl 3 rfl) ?_
  refine lv_iconst (v := 2) hx hb dL_law_500 (by decide) ?_
  refine lv_iadd hx hb dL_law_501 ?_
  refine lv_topi (fun y_3 ey_3 => ?_)
  obtain rfl : y_3 = nI (i + 2) := ey_3.trans (z_iaddn i 2 rfl rfl)
  refine va_sld hx hb hX hbl hbA G.2.2.2.1 (vp_in_nI (by omega) (by omega)) dL_law_502 ?_
  refine lv_topi (fun v_4 ev_4 => ?_)
  rw [nI_clamp (by omega)] at ev_4
  have ev_4 : v_4 = xs (i + 2) := ev_4
  subst ev_4
  refine lv_aload_n hx hb dL_law_503 rfl (lv_at hl 0 rfl) ?_
  refine lv_iload_n hx hb dL_law_504 rfl (lv_at hl 3 rfl) ?_
  refine lv_iconst (v := 3) hx hb dL_law_505 (by decide) ?_
  refine lv_iadd hx hb dL_law_506 ?_
  refine lv_topi (fun y_5 ey_5 => ?_)
  obtain rfl : y_5 = nI (i + 3) := ey_5.trans (z_iaddn i 3 rfl rfl)
  refine va_sld hx hb hX hbl hbA G.2.2.2.1 (vp_in_nI (by omega) (by omega)) dL_law_507 ?_
  refine lv_topi (fun v_6 ev_6 => ?_)
  rw [nI_clamp (by omega)] at ev_6
  have ev_6 : v_6 = xs (i + 3) := ev_6
  subst ev_6
  obtain ⟨v_7, v_8, v_9, v_10, h_11, h_12⟩ := H_wt
  have h_12 : zKT v_10 := h_12
  obtain ⟨v_13, v_14, v_15, v_16, v_17, v_18, h_19, h_20⟩ := H_z0_
  have h_20 : zLI v_13 v_15 v_17 := h_20
  obtain ⟨v_21, v_22, v_23, v_24, v_25, v_26, h_27, h_28⟩ := H_z1_
  have h_28 : zLI v_21 v_23 v_25 := h_28
  obtain ⟨v_29, v_30, v_31, v_32, v_33, v_34, v_35, h_36⟩ := H_wr
  obtain ⟨v_37, v_38, v_39, v_40, v_41, v_42, h_43⟩ := H_wrp
  refine z_Vi (bc := [[(xo, .inr (10, [.ref t, .ref im, .ref mk, .ref rd, .ref po, .ref co, .ref tr, .ref wa, .ref wb_, .ref fi, .ref cd]))], wt, z0_, z1_, wr, wrp]) (br := [wd0_, wd1_, wg0_, wg1_, [(rd, .inr (7, [.ref rl, .ref rdd, .ref rg, .int r0, .int r1, .ref tq, .int r2, .int r3, .int r4, .int r5, .int r6, .int r7, .int r8]))], z, wd, wg, wwA, wwB, wff, wc, wcp, wp, [(cd, .inl (T.2 0, 1000, .inl fcd))], wta, z0_a, z1_a, wd0_a, wd1_a, wg0_a, wg1_a, wtb, z0_b, z1_b, wd0_b, wd1_b, wg0_b, wg1_b, wtc, z0_c, z1_c, wd0_c, wd1_c, wg0_c, wg1_c, [(im, .inl (T.2 6, 3, .inr (.inr (.inr (.inr qi)))))], [(mk, .inl (T.2 2, 3, .inl fmk))], [(mo, .inr (11, [.ref m_all, .ref m_has, .int i_size, .int i_next, .int i_where, .int i_token, .int i_number, .int i_word, .int i_wrong, .int i_farCrossing, .ref m_read, .int i_z0, .int i_crossings, .int i_inns, .ref m_posts, .ref m_shut, .ref m_here, .int i_steps, .int i_done, .int i_at, .int i_gone, .ref m_was, .ref m_came, .ref m_seenAt, .ref m_rowWorth, .ref m_farBy, .ref m_used, .int i_everywhere, .int i_again0, .int i_d0, .int i_never, .int i_firstCame, .int i_longRun, .int i_moved, .int i_crowd, .int i_l0, .int i_fitMany, .int i_fitLeast, .int i_fitMost, .ref m_fitPost, .ref m_fitEnd, .ref m_keptPosts, .int i_x0]))], [(m_all, .inl (T.2 0, 3952, .inl f_all))], [(m_has, .inl (T.2 2, 3, .inl f_has))], [(m_read, .inl (T.2 0, 121, .inl f_read))], [(m_posts, .inl (T.2 0, 7, .inl f_posts))], [(m_shut, .inl (T.2 0, 7, .inl f_shut))], [(m_here, .inl (T.2 0, 7, .inl f_here))], [(m_was, .inl (T.2 0, 7, .inl f_was))], [(m_came, .inl (T.2 0, 7, .inl f_came))], [(m_seenAt, .inl (T.2 0, 16384, .inl f_seenAt))], [(m_rowWorth, .inl (T.2 0, 512, .inl f_rowWorth))], [(m_farBy, .inl (T.2 0, 49, .inl f_farBy))], [(m_used, .inl (T.2 0, 7, .inl f_used))], [(m_fitPost, .inl (T.2 0, 28, .inl f_fitPost))], [(m_fitEnd, .inl (T.2 0, 49, .inl f_fitEnd))], [(m_keptPosts, .inl (T.2 0, 7, .inl f_keptPosts))]]) (As := [.int (xs (i + 1)), .int (xs (i + 2)), .int (xs (i + 3))]) (rest := []) C G (c_walk l T xo t im mk rd po co tr wa wb_ fi cd l0 l1 d0 d1 g0 g1 ln v_7 v_8 v_9 v_10 wt v_13 v_14 v_15 v_16 v_17 v_18 z0_ v_21 v_22 v_23 v_24 v_25 v_26 z1_ tpo v_29 v_30 v_31 v_32 v_33 v_34 v_35 wr v_37 v_38 v_39 v_40 v_41 v_42 wrp (xs (i + 1)) (xs (i + 2)) (xs (i + 3)) h_11 (by first | assumption | omega | rfl) h_19 (by first | assumption | omega | rfl) h_27 (by first | assumption | omega | rfl) h_36 h_43) (kV_RL_50 C.2.2.2.2 (Nat.le_of_ble_eq_true rfl) (Nat.le_of_ble_eq_true rfl)) [0, 1, 2, 3, 17, 18] [4, 5, 6, 7, 8, 9, 10, 11, 12, 13, 14, 15, 16, 19, 20, 21, 22, 23, 24, 25, 26, 27, 28, 29, 30, 31, 32, 33, 34, 35, 36, 37, 38, 39, 40, 41, 42, 43, 44, 45, 46, 47, 48, 49, 50, 51, 52, 53, 54, 55, 56, 57, 58, 59] rfl rfl (ci := 10) (qc := (RX11, TX11, 11)) rfl rfl (List.mem_flatten.mpr ⟨_, List.mem_of_getElem? (i := 0) rfl, List.mem_cons_self⟩) rfl rfl hl.1 dL_law_508 (by show _ + 0 ≤ 600000; omega) (by show _ + 0 ≤ 7302250; omega) (fun r_61 b1 H locs hw G => ?_)
  obtain ⟨t1_44, t2_45, u0__46, u1__47, u2__48, u3__49, u4__50, wr_51, tpl_52, tf1_53, tf2_54, tf3_55, tst_56, twh_57, wrp_58, rfl, h_59, h_60⟩ := hw
  have G : zS T A s.heap s [wd0_, wd1_, wg0_, wg1_, [(rd, .inr (7, [.ref rl, .ref rdd, .ref rg, .int r0, .int r1, .ref tq, .int r2, .int r3, .int r4, .int r5, .int r6, .int r7, .int r8]))], z, wd, wg, wwA, wwB, wff, wc, wcp, wp, [(cd, .inl (T.2 0, 1000, .inl fcd))], wta, z0_a, z1_a, wd0_a, wd1_a, wg0_a, wg1_a, wtb, z0_b, z1_b, wd0_b, wd1_b, wg0_b, wg1_b, wtc, z0_c, z1_c, wd0_c, wd1_c, wg0_c, wg1_c, [(im, .inl (T.2 6, 3, .inr (.inr (.inr (.inr qi)))))], [(mk, .inl (T.2 2, 3, .inl fmk))], [(mo, .inr (11, [.ref m_all, .ref m_has, .int i_size, .int i_next, .int i_where, .int i_token, .int i_number, .int i_word, .int i_wrong, .int i_farCrossing, .ref m_read, .int i_z0, .int i_crossings, .int i_inns, .ref m_posts, .ref m_shut, .ref m_here, .int i_steps, .int i_done, .int i_at, .int i_gone, .ref m_was, .ref m_came, .ref m_seenAt, .ref m_rowWorth, .ref m_farBy, .ref m_used, .int i_everywhere, .int i_again0, .int i_d0, .int i_never, .int i_firstCame, .int i_longRun, .int i_moved, .int i_crowd, .int i_l0, .int i_fitMany, .int i_fitLeast, .int i_fitMost, .ref m_fitPost, .ref m_fitEnd, .ref m_keptPosts, .int i_x0]))], [(m_all, .inl (T.2 0, 3952, .inl f_all))], [(m_has, .inl (T.2 2, 3, .inl f_has))], [(m_read, .inl (T.2 0, 121, .inl f_read))], [(m_posts, .inl (T.2 0, 7, .inl f_posts))], [(m_shut, .inl (T.2 0, 7, .inl f_shut))], [(m_here, .inl (T.2 0, 7, .inl f_here))], [(m_was, .inl (T.2 0, 7, .inl f_was))], [(m_came, .inl (T.2 0, 7, .inl f_came))], [(m_seenAt, .inl (T.2 0, 16384, .inl f_seenAt))], [(m_rowWorth, .inl (T.2 0, 512, .inl f_rowWorth))], [(m_farBy, .inl (T.2 0, 49, .inl f_farBy))], [(m_used, .inl (T.2 0, 7, .inl f_used))], [(m_fitPost, .inl (T.2 0, 28, .inl f_fitPost))], [(m_fitEnd, .inl (T.2 0, 49, .inl f_fitEnd))], [(m_keptPosts, .inl (T.2 0, 7, .inl f_keptPosts))], [(xo, .inr (10, [.ref t, .ref im, .ref mk, .ref rd, .ref po, .ref co, .ref tr, .ref wa, .ref wb_, .ref fi, .ref cd]))], wt, z0_, z1_, wr_51, wrp_58] _ _ := G
  refine lv_pop hx hb dL_law_511 rfl ?_
  refine lv_aload_n hx hb dL_law_512 rfl (lv_at hl 2 rfl) ?_
  refine lv_aload_n hx hb dL_law_513 rfl (lv_at hl 0 rfl) ?_
  refine lv_iload_n hx hb dL_law_514 rfl (lv_at hl 3 rfl) ?_
  refine lv_iconst (v := 1) hx hb dL_law_515 (by decide) ?_
  refine lv_iadd hx hb dL_law_516 ?_
  refine lv_topi (fun y_62 ey_62 => ?_)
  obtain rfl : y_62 = nI (i + 1) := ey_62.trans (z_iaddn i 1 rfl rfl)
  refine va_sld hx hb hX hbl hbA G.2.2.2.1 (vp_in_nI (by omega) (by omega)) dL_law_517 ?_
  refine lv_topi (fun v_63 ev_63 => ?_)
  rw [nI_clamp (by omega)] at ev_63
  have ev_63 : v_63 = xs (i + 1) := ev_63
  subst ev_63
  refine lv_aload_n hx hb dL_law_518 rfl (lv_at hl 0 rfl) ?_
  refine lv_iload_n hx hb dL_law_519 rfl (lv_at hl 3 rfl) ?_
  refine lv_iconst (v := 2) hx hb dL_law_520 (by decide) ?_
  refine lv_iadd hx hb dL_law_521 ?_
  refine lv_topi (fun y_64 ey_64 => ?_)
  obtain rfl : y_64 = nI (i + 2) := ey_64.trans (z_iaddn i 2 rfl rfl)
  refine va_sld hx hb hX hbl hbA G.2.2.2.1 (vp_in_nI (by omega) (by omega)) dL_law_522 ?_
  refine lv_topi (fun v_65 ev_65 => ?_)
  rw [nI_clamp (by omega)] at ev_65
  have ev_65 : v_65 = xs (i + 2) := ev_65
  subst ev_65
  refine lv_aload_n hx hb dL_law_523 rfl (lv_at hl 0 rfl) ?_
  refine lv_iload_n hx hb dL_law_524 rfl (lv_at hl 3 rfl) ?_
  refine lv_iconst (v := 3) hx hb dL_law_525 (by decide) ?_
  refine lv_iadd hx hb dL_law_526 ?_
  refine lv_topi (fun y_66 ey_66 => ?_)
  obtain rfl : y_66 = nI (i + 3) := ey_66.trans (z_iaddn i 3 rfl rfl)
  refine va_sld hx hb hX hbl hbA G.2.2.2.1 (vp_in_nI (by omega) (by omega)) dL_law_527 ?_
  refine lv_topi (fun v_67 ev_67 => ?_)
  rw [nI_clamp (by omega)] at ev_67
  have ev_67 : v_67 = xs (i + 3) := ev_67
  subst ev_67
  refine z_Vi (bc := [[(mo, .inr (11, [.ref m_all, .ref m_has, .int i_size, .int i_next, .int i_where, .int i_token, .int i_number, .int i_word, .int i_wrong, .int i_farCrossing, .ref m_read, .int i_z0, .int i_crossings, .int i_inns, .ref m_posts, .ref m_shut, .ref m_here, .int i_steps, .int i_done, .int i_at, .int i_gone, .ref m_was, .ref m_came, .ref m_seenAt, .ref m_rowWorth, .ref m_farBy, .ref m_used, .int i_everywhere, .int i_again0, .int i_d0, .int i_never, .int i_firstCame, .int i_longRun, .int i_moved, .int i_crowd, .int i_l0, .int i_fitMany, .int i_fitLeast, .int i_fitMost, .ref m_fitPost, .ref m_fitEnd, .ref m_keptPosts, .int i_x0]))], [(m_all, .inl (T.2 0, 3952, .inl f_all))], [(m_posts, .inl (T.2 0, 7, .inl f_posts))], [(m_shut, .inl (T.2 0, 7, .inl f_shut))], [(m_here, .inl (T.2 0, 7, .inl f_here))], [(m_was, .inl (T.2 0, 7, .inl f_was))]]) (br := [wd0_, wd1_, wg0_, wg1_, [(rd, .inr (7, [.ref rl, .ref rdd, .ref rg, .int r0, .int r1, .ref tq, .int r2, .int r3, .int r4, .int r5, .int r6, .int r7, .int r8]))], z, wd, wg, wwA, wwB, wff, wc, wcp, wp, [(cd, .inl (T.2 0, 1000, .inl fcd))], wta, z0_a, z1_a, wd0_a, wd1_a, wg0_a, wg1_a, wtb, z0_b, z1_b, wd0_b, wd1_b, wg0_b, wg1_b, wtc, z0_c, z1_c, wd0_c, wd1_c, wg0_c, wg1_c, [(im, .inl (T.2 6, 3, .inr (.inr (.inr (.inr qi)))))], [(mk, .inl (T.2 2, 3, .inl fmk))], [(m_has, .inl (T.2 2, 3, .inl f_has))], [(m_read, .inl (T.2 0, 121, .inl f_read))], [(m_came, .inl (T.2 0, 7, .inl f_came))], [(m_seenAt, .inl (T.2 0, 16384, .inl f_seenAt))], [(m_rowWorth, .inl (T.2 0, 512, .inl f_rowWorth))], [(m_farBy, .inl (T.2 0, 49, .inl f_farBy))], [(m_used, .inl (T.2 0, 7, .inl f_used))], [(m_fitPost, .inl (T.2 0, 28, .inl f_fitPost))], [(m_fitEnd, .inl (T.2 0, 49, .inl f_fitEnd))], [(m_keptPosts, .inl (T.2 0, 7, .inl f_keptPosts))], [(xo, .inr (10, [.ref t, .ref im, .ref mk, .ref rd, .ref po, .ref co, .ref tr, .ref wa, .ref wb_, .ref fi, .ref cd]))], wt, z0_, z1_, wr_51, wrp_58]) (As := [.int (xs (i + 1)), .int (xs (i + 2)), .int (xs (i + 3))]) (rest := []) C G (c_m_walk l T mo m_all m_has i_size i_next i_where i_token i_number i_word i_wrong i_farCrossing m_read i_z0 i_crossings i_inns m_posts m_shut m_here i_steps i_done i_at i_gone m_was m_came m_seenAt m_rowWorth m_farBy m_used i_everywhere i_again0 i_d0 i_never i_firstCame i_longRun i_moved i_crowd i_l0 i_fitMany i_fitLeast i_fitMost m_fitPost m_fitEnd m_keptPosts i_x0 f_all f_posts f_shut f_here f_was (xs (i + 1)) (xs (i + 2)) (xs (i + 3)) (by first | assumption | omega | rfl)) (kV_RL_53 C.2.2.2.2 (Nat.le_of_ble_eq_true rfl) (Nat.le_of_ble_eq_true rfl)) [38, 39, 42, 43, 44, 45] [0, 1, 2, 3, 4, 5, 6, 7, 8, 9, 10, 11, 12, 13, 14, 15, 16, 17, 18, 19, 20, 21, 22, 23, 24, 25, 26, 27, 28, 29, 30, 31, 32, 33, 34, 35, 36, 37, 40, 41, 46, 47, 48, 49, 50, 51, 52, 53, 54, 55, 56, 57, 58, 59] rfl rfl (ci := 11) (qc := (RX12, TX12, 43)) rfl rfl (List.mem_flatten.mpr ⟨_, List.mem_of_getElem? (i := 0) rfl, List.mem_cons_self⟩) rfl rfl hl.1 dL_law_528 (by show _ + 0 ≤ 600000; omega) (by show _ + 0 ≤ 7302250; omega) (fun r_79 b1 H locs hw G => ?_)
  obtain ⟨j_z0_68, j_crossings_69, j_inns_70, j_steps_71, j_done_72, j_at_73, j_gone_74, g_posts_75, g_shut_76, g_here_77, g_was_78, rfl⟩ := hw
  have G : zS T A s.heap s [wd0_, wd1_, wg0_, wg1_, [(rd, .inr (7, [.ref rl, .ref rdd, .ref rg, .int r0, .int r1, .ref tq, .int r2, .int r3, .int r4, .int r5, .int r6, .int r7, .int r8]))], z, wd, wg, wwA, wwB, wff, wc, wcp, wp, [(cd, .inl (T.2 0, 1000, .inl fcd))], wta, z0_a, z1_a, wd0_a, wd1_a, wg0_a, wg1_a, wtb, z0_b, z1_b, wd0_b, wd1_b, wg0_b, wg1_b, wtc, z0_c, z1_c, wd0_c, wd1_c, wg0_c, wg1_c, [(im, .inl (T.2 6, 3, .inr (.inr (.inr (.inr qi)))))], [(mk, .inl (T.2 2, 3, .inl fmk))], [(m_has, .inl (T.2 2, 3, .inl f_has))], [(m_read, .inl (T.2 0, 121, .inl f_read))], [(m_came, .inl (T.2 0, 7, .inl f_came))], [(m_seenAt, .inl (T.2 0, 16384, .inl f_seenAt))], [(m_rowWorth, .inl (T.2 0, 512, .inl f_rowWorth))], [(m_farBy, .inl (T.2 0, 49, .inl f_farBy))], [(m_used, .inl (T.2 0, 7, .inl f_used))], [(m_fitPost, .inl (T.2 0, 28, .inl f_fitPost))], [(m_fitEnd, .inl (T.2 0, 49, .inl f_fitEnd))], [(m_keptPosts, .inl (T.2 0, 7, .inl f_keptPosts))], [(xo, .inr (10, [.ref t, .ref im, .ref mk, .ref rd, .ref po, .ref co, .ref tr, .ref wa, .ref wb_, .ref fi, .ref cd]))], wt, z0_, z1_, wr_51, wrp_58, [(mo, .inr (11, [.ref m_all, .ref m_has, .int i_size, .int i_next, .int i_where, .int i_token, .int i_number, .int i_word, .int i_wrong, .int i_farCrossing, .ref m_read, .int j_z0_68, .int j_crossings_69, .int j_inns_70, .ref m_posts, .ref m_shut, .ref m_here, .int j_steps_71, .int j_done_72, .int j_at_73, .int j_gone_74, .ref m_was, .ref m_came, .ref m_seenAt, .ref m_rowWorth, .ref m_farBy, .ref m_used, .int i_everywhere, .int i_again0, .int i_d0, .int i_never, .int i_firstCame, .int i_longRun, .int i_moved, .int i_crowd, .int i_l0, .int i_fitMany, .int i_fitLeast, .int i_fitMost, .ref m_fitPost, .ref m_fitEnd, .ref m_keptPosts, .int i_x0]))], [(m_all, .inl (T.2 0, 3952, .inl f_all))], [(m_posts, .inl (T.2 0, 7, .inl g_posts_75))], [(m_shut, .inl (T.2 0, 7, .inl g_shut_76))], [(m_here, .inl (T.2 0, 7, .inl g_here_77))], [(m_was, .inl (T.2 0, 7, .inl g_was_78))]] _ _ := G
  refine lv_pop hx hb dL_law_531 rfl ?_
  refine lv_goto (tgt := 1767) hx hb dL_law_532 (by decide) ?_
  have G := G.sub (bs' := [[(xo, .inr (10, [.ref t, .ref im, .ref mk, .ref rd, .ref po, .ref co, .ref tr, .ref wa, .ref wb_, .ref fi, .ref cd]))], wt, z0_, z1_, wd0_, wd1_, wg0_, wg1_, [(rd, .inr (7, [.ref rl, .ref rdd, .ref rg, .int r0, .int r1, .ref tq, .int r2, .int r3, .int r4, .int r5, .int r6, .int r7, .int r8]))], z, wd, wg, wwA, wwB, wff, wc, wcp, wr_51, wrp_58, wp, [(cd, .inl (T.2 0, 1000, .inl fcd))], wta, z0_a, z1_a, wd0_a, wd1_a, wg0_a, wg1_a, wtb, z0_b, z1_b, wd0_b, wd1_b, wg0_b, wg1_b, wtc, z0_c, z1_c, wd0_c, wd1_c, wg0_c, wg1_c, [(im, .inl (T.2 6, 3, .inr (.inr (.inr (.inr qi)))))], [(mk, .inl (T.2 2, 3, .inl fmk))], [(mo, .inr (11, [.ref m_all, .ref m_has, .int i_size, .int i_next, .int i_where, .int i_token, .int i_number, .int i_word, .int i_wrong, .int i_farCrossing, .ref m_read, .int j_z0_68, .int j_crossings_69, .int j_inns_70, .ref m_posts, .ref m_shut, .ref m_here, .int j_steps_71, .int j_done_72, .int j_at_73, .int j_gone_74, .ref m_was, .ref m_came, .ref m_seenAt, .ref m_rowWorth, .ref m_farBy, .ref m_used, .int i_everywhere, .int i_again0, .int i_d0, .int i_never, .int i_firstCame, .int i_longRun, .int i_moved, .int i_crowd, .int i_l0, .int i_fitMany, .int i_fitLeast, .int i_fitMost, .ref m_fitPost, .ref m_fitEnd, .ref m_keptPosts, .int i_x0]))], [(m_all, .inl (T.2 0, 3952, .inl f_all))], [(m_has, .inl (T.2 2, 3, .inl f_has))], [(m_read, .inl (T.2 0, 121, .inl f_read))], [(m_posts, .inl (T.2 0, 7, .inl g_posts_75))], [(m_shut, .inl (T.2 0, 7, .inl g_shut_76))], [(m_here, .inl (T.2 0, 7, .inl g_here_77))], [(m_was, .inl (T.2 0, 7, .inl g_was_78))], [(m_came, .inl (T.2 0, 7, .inl f_came))], [(m_seenAt, .inl (T.2 0, 16384, .inl f_seenAt))], [(m_rowWorth, .inl (T.2 0, 512, .inl f_rowWorth))], [(m_farBy, .inl (T.2 0, 49, .inl f_farBy))], [(m_used, .inl (T.2 0, 7, .inl f_used))], [(m_fitPost, .inl (T.2 0, 28, .inl f_fitPost))], [(m_fitEnd, .inl (T.2 0, 49, .inl f_fitEnd))], [(m_keptPosts, .inl (T.2 0, 7, .inl f_keptPosts))]]) [48, 49, 50, 51, 0, 1, 2, 3, 4, 5, 6, 7, 8, 9, 10, 11, 12, 52, 53, 13, 14, 15, 16, 17, 18, 19, 20, 21, 22, 23, 24, 25, 26, 27, 28, 29, 30, 31, 32, 33, 34, 35, 36, 37, 54, 55, 38, 39, 56, 57, 58, 59, 40, 41, 42, 43, 44, 45, 46, 47] rfl
  refine W.widen (k := 216 + 2 * i + 12) (n := 27000 + 6 * (n4A + n4B) + 2 * m1f) (by omega) (by omega) ?_
  exact kk n4A n4B m1f _ ⟨⟨t, im, mk, rd, po, co, tr, wa, wb_, fi, cd, wt, l0, l1, d0, d1, g0, g1, ln, z0_, z1_, wd0_, wd1_, wg0_, wg1_, rl, rdd, rg, r0, r1, tq, r2, r3, r4, r5, r6, r7, r8, z, wd, wg, wwA, mdA, wwB, mdB, wff, e0f, e1f, wc, cpo, wcp, wr_51, tpo, wrp_58, wp, fcd, m0, wta, l0a, l1a, d0a, d1a, g0a, g1a, lna, z0_a, z1_a, wd0_a, wd1_a, wg0_a, wg1_a, m1, wtb, l0b, l1b, d0b, d1b, g0b, g1b, lnb, z0_b, z1_b, wd0_b, wd1_b, wg0_b, wg1_b, m2, wtc, l0c, l1c, d0c, d1c, g0c, g1c, lnc, z0_c, z1_c, wd0_c, wd1_c, wg0_c, wg1_c, qi, fmk, m_all, m_has, i_size, i_next, i_where, i_token, i_number, i_word, i_wrong, i_farCrossing, m_read, j_z0_68, j_crossings_69, j_inns_70, m_posts, m_shut, m_here, j_steps_71, j_done_72, j_at_73, j_gone_74, m_was, m_came, m_seenAt, m_rowWorth, m_farBy, m_used, i_everywhere, i_again0, i_d0, i_never, i_firstCame, i_longRun, i_moved, i_crowd, i_l0, i_fitMany, i_fitLeast, i_fitMost, m_fitPost, m_fitEnd, m_keptPosts, i_x0, f_all, f_has, f_read, g_posts_75, g_shut_76, g_here_77, g_was_78, f_came, f_seenAt, f_rowWorth, f_farBy, f_used, f_fitPost, f_fitEnd, f_keptPosts⟩, rfl, ⟨v_7, v_8, v_9, v_10, h_11, (by first | assumption | omega)⟩, ⟨v_13, v_14, v_15, v_16, v_17, v_18, h_19, (by first | assumption | omega)⟩, ⟨v_21, v_22, v_23, v_24, v_25, v_26, h_27, (by first | assumption | omega)⟩, H_wd0_, H_wd1_, H_wg0_, H_wg1_, H_z, H_wd, H_wg, H_wwA, H_wwB, H_wff, H_wc, H_wcp, ⟨t1_44, t2_45, u0__46, u1__47, u2__48, u3__49, u4__50, h_59⟩, ⟨tpl_52, tf1_53, tf2_54, tf3_55, tst_56, twh_57, h_60⟩, H_wp, H_wta, H_z0_a, H_z1_a, H_wd0_a, H_wd1_a, H_wg0_a, H_wg1_a, H_wtb, H_z0_b, H_z1_b, H_wd0_b, H_wd1_b, H_wg0_b, H_wg1_b, H_wtc, H_z0_c, H_z1_c, H_wd0_c, H_wd1_c, H_wg0_c, H_wg1_c, (by first | assumption | omega), (by first | assumption | omega), (by first | assumption | omega), (by first | assumption | omega), (by first | assumption | omega), (by first | assumption | omega), (by first | assumption | omega), (by first | assumption | omega)⟩ _ _ ls G (lv_sub hl [0, 1, 2, 3] rfl)
set_option maxHeartbeats 40000000 in
set_option maxRecDepth 100000 in
theorem z_case_endOf (l : Launch) {p : Program} {e : Env} {s : State} {m : MethodId} {b : Nat} {below : List Frame} {meth : Method} {c : Code} {Q : State → Prop} {T : zTy} {A : Nat → Prop} {L i : Nat} {xs : Nat → Int32} (hx : p.tables.exec = Jvm.exec) (hb : c.code = cL_law) (C : CallFix p m c cL_law 4 s #[Value.ref b] zT RL) (hX : va_X b L xs s s.heap) (hbl : b < s.heap.size) (hbA : ¬ A b) (hL : L ≤ 3072) (hi6 : i + 6 ≤ L) {xo mo n4A n4B m1f : Nat} (hnA : n4A ≤ 131072) (hnB : n4B ≤ 131072) (hmf : m1f ≤ 16384) {bs : List va_W} (hI : zInv T xo mo n4A n4B m1f bs) {H : Heap} {locs : List Loc} {ls : Array Slot} (G : zS T A s.heap s bs H locs) (hl : lv_has ls 4 [(0, .ref b), (1, .ref xo), (2, .ref mo), (3, .int (nI i))]) (kk : ∀ (n1 n2 n3 : Nat) (bs1 : List va_W), zInv T xo mo n1 n2 n3 bs1 → ∀ (H1 : Heap) (locs1 : List Loc) (ls1 : Array Slot), zS T A s.heap s bs1 H1 locs1 → lv_has ls1 4 [(0, .ref b), (1, .ref xo), (2, .ref mo), (3, .int (nI i))] → W p l e room_1 s m #[Value.ref b] below meth c H1 locs1 (216 + 2 * i + 12) (27000 + 6 * (n1 + n2) + 2 * n3) Q (F0 m 1767 ls1 [])) : W p l e room_1 s m #[Value.ref b] below meth c H locs (216 + 2 * i) (27000 + 6 * (n4A + n4B) + 2 * m1f) Q (F0 m 535 ls []) := by
  obtain ⟨⟨t, im, mk, rd, po, co, tr, wa, wb_, fi, cd, wt, l0, l1, d0, d1, g0, g1, ln, z0_, z1_, wd0_, wd1_, wg0_, wg1_, rl, rdd, rg, r0, r1, tq, r2, r3, r4, r5, r6, r7, r8, z, wd, wg, wwA, mdA, wwB, mdB, wff, e0f, e1f, wc, cpo, wcp, wr, tpo, wrp, wp, fcd, m0, wta, l0a, l1a, d0a, d1a, g0a, g1a, lna, z0_a, z1_a, wd0_a, wd1_a, wg0_a, wg1_a, m1, wtb, l0b, l1b, d0b, d1b, g0b, g1b, lnb, z0_b, z1_b, wd0_b, wd1_b, wg0_b, wg1_b, m2, wtc, l0c, l1c, d0c, d1c, g0c, g1c, lnc, z0_c, z1_c, wd0_c, wd1_c, wg0_c, wg1_c, qi, fmk, m_all, m_has, i_size, i_next, i_where, i_token, i_number, i_word, i_wrong, i_farCrossing, m_read, i_z0, i_crossings, i_inns, m_posts, m_shut, m_here, i_steps, i_done, i_at, i_gone, m_was, m_came, m_seenAt, m_rowWorth, m_farBy, m_used, i_everywhere, i_again0, i_d0, i_never, i_firstCame, i_longRun, i_moved, i_crowd, i_l0, i_fitMany, i_fitLeast, i_fitMost, m_fitPost, m_fitEnd, m_keptPosts, i_x0, f_all, f_has, f_read, f_posts, f_shut, f_here, f_was, f_came, f_seenAt, f_rowWorth, f_farBy, f_used, f_fitPost, f_fitEnd, f_keptPosts⟩, rfl, H_wt, H_z0_, H_z1_, H_wd0_, H_wd1_, H_wg0_, H_wg1_, H_z, H_wd, H_wg, H_wwA, H_wwB, H_wff, H_wc, H_wcp, H_wr, H_wrp, H_wp, H_wta, H_z0_a, H_z1_a, H_wd0_a, H_wd1_a, H_wg0_a, H_wg1_a, H_wtb, H_z0_b, H_z1_b, H_wd0_b, H_wd1_b, H_wg0_b, H_wg1_b, H_wtc, H_z0_c, H_z1_c, H_wd0_c, H_wd1_c, H_wg0_c, H_wg1_c, hm0, hm1, hm2, h56, hFI, hAI, hRl, hHs⟩ := hI
  replace H_wt : hTold T t l0 l1 d0 d1 g0 g1 ln wt := H_wt
  replace H_z0_ : hLand T l0 z0_ := H_z0_
  replace H_z1_ : hLand T l1 z1_ := H_z1_
  replace H_wd0_ : hDay T d0 wd0_ := H_wd0_
  replace H_wd1_ : hDay T d1 wd1_ := H_wd1_
  replace H_wg0_ : hLog T g0 wg0_ := H_wg0_
  replace H_wg1_ : hLog T g1 wg1_ := H_wg1_
  replace H_z : hLandR T rl z := H_z
  replace H_wd : hDay T rdd wd := H_wd
  replace H_wg : hLog T rg wg := H_wg
  replace H_wwA : hWays T wa mdA n4A l0 wwA := H_wwA
  replace H_wwB : hWays T wb_ mdB n4B l1 wwB := H_wwB
  replace H_wff : hFit T fi e0f e1f m1f wff := H_wff
  replace H_wc : hCourse T co cpo wc := H_wc
  replace H_wcp : hPosts T cpo wcp := H_wcp
  replace H_wr : hTrail T tr tpo wr := H_wr
  replace H_wrp : hPosts T tpo wrp := H_wrp
  replace H_wp : hPosts T po wp := H_wp
  replace H_wta : hTold T m0 l0a l1a d0a d1a g0a g1a lna wta := H_wta
  replace H_z0_a : hLand T l0a z0_a := H_z0_a
  replace H_z1_a : hLand T l1a z1_a := H_z1_a
  replace H_wd0_a : hDay T d0a wd0_a := H_wd0_a
  replace H_wd1_a : hDay T d1a wd1_a := H_wd1_a
  replace H_wg0_a : hLog T g0a wg0_a := H_wg0_a
  replace H_wg1_a : hLog T g1a wg1_a := H_wg1_a
  replace H_wtb : hTold T m1 l0b l1b d0b d1b g0b g1b lnb wtb := H_wtb
  replace H_z0_b : hLand T l0b z0_b := H_z0_b
  replace H_z1_b : hLand T l1b z1_b := H_z1_b
  replace H_wd0_b : hDay T d0b wd0_b := H_wd0_b
  replace H_wd1_b : hDay T d1b wd1_b := H_wd1_b
  replace H_wg0_b : hLog T g0b wg0_b := H_wg0_b
  replace H_wg1_b : hLog T g1b wg1_b := H_wg1_b
  replace H_wtc : hTold T m2 l0c l1c d0c d1c g0c g1c lnc wtc := H_wtc
  replace H_z0_c : hLand T l0c z0_c := H_z0_c
  replace H_z1_c : hLand T l1c z1_c := H_z1_c
  replace H_wd0_c : hDay T d0c wd0_c := H_wd0_c
  replace H_wd1_c : hDay T d1c wd1_c := H_wd1_c
  replace H_wg0_c : hLog T g0c wg0_c := H_wg0_c
  replace H_wg1_c : hLog T g1c wg1_c := H_wg1_c
  replace hm0 : qi 0 = some m0 := hm0
  replace hm1 : qi 1 = some m1 := hm1
  replace hm2 : qi 2 = some m2 := hm2
  replace h56 : ((0 ≤ r5.toInt ∧ r5.toInt ≤ 600) ∧ 0 ≤ r6.toInt ∧ r6.toInt ≤ 1000) := h56
  replace hFI : (¬ e0f = 0 → e1f.toInt = 0 ∧ ¬ mdA = 0 ∨ e1f.toInt = 1 ∧ ¬ mdB = 0) := hFI
  replace hAI : zAI f_all := hAI
  replace hRl : zRl ln lna lnb lnc f_all := hRl
  replace hHs : zHs fmk f_has := hHs
  replace G : zS T A s.heap s [[(xo, .inr (10, [.ref t, .ref im, .ref mk, .ref rd, .ref po, .ref co, .ref tr, .ref wa, .ref wb_, .ref fi, .ref cd]))], wt, z0_, z1_, wd0_, wd1_, wg0_, wg1_, [(rd, .inr (7, [.ref rl, .ref rdd, .ref rg, .int r0, .int r1, .ref tq, .int r2, .int r3, .int r4, .int r5, .int r6, .int r7, .int r8]))], z, wd, wg, wwA, wwB, wff, wc, wcp, wr, wrp, wp, [(cd, .inl (T.2 0, 1000, .inl fcd))], wta, z0_a, z1_a, wd0_a, wd1_a, wg0_a, wg1_a, wtb, z0_b, z1_b, wd0_b, wd1_b, wg0_b, wg1_b, wtc, z0_c, z1_c, wd0_c, wd1_c, wg0_c, wg1_c, [(im, .inl (T.2 6, 3, .inr (.inr (.inr (.inr qi)))))], [(mk, .inl (T.2 2, 3, .inl fmk))], [(mo, .inr (11, [.ref m_all, .ref m_has, .int i_size, .int i_next, .int i_where, .int i_token, .int i_number, .int i_word, .int i_wrong, .int i_farCrossing, .ref m_read, .int i_z0, .int i_crossings, .int i_inns, .ref m_posts, .ref m_shut, .ref m_here, .int i_steps, .int i_done, .int i_at, .int i_gone, .ref m_was, .ref m_came, .ref m_seenAt, .ref m_rowWorth, .ref m_farBy, .ref m_used, .int i_everywhere, .int i_again0, .int i_d0, .int i_never, .int i_firstCame, .int i_longRun, .int i_moved, .int i_crowd, .int i_l0, .int i_fitMany, .int i_fitLeast, .int i_fitMost, .ref m_fitPost, .ref m_fitEnd, .ref m_keptPosts, .int i_x0]))], [(m_all, .inl (T.2 0, 3952, .inl f_all))], [(m_has, .inl (T.2 2, 3, .inl f_has))], [(m_read, .inl (T.2 0, 121, .inl f_read))], [(m_posts, .inl (T.2 0, 7, .inl f_posts))], [(m_shut, .inl (T.2 0, 7, .inl f_shut))], [(m_here, .inl (T.2 0, 7, .inl f_here))], [(m_was, .inl (T.2 0, 7, .inl f_was))], [(m_came, .inl (T.2 0, 7, .inl f_came))], [(m_seenAt, .inl (T.2 0, 16384, .inl f_seenAt))], [(m_rowWorth, .inl (T.2 0, 512, .inl f_rowWorth))], [(m_farBy, .inl (T.2 0, 49, .inl f_farBy))], [(m_used, .inl (T.2 0, 7, .inl f_used))], [(m_fitPost, .inl (T.2 0, 28, .inl f_fitPost))], [(m_fitEnd, .inl (T.2 0, 49, .inl f_fitEnd))], [(m_keptPosts, .inl (T.2 0, 7, .inl f_keptPosts))]] H locs := G
  have hB := zAI_0 hAI
  have hB4 := hB.1
  obtain ⟨hln, hlna, hlnb, hlnc⟩ := zRl_in hAI hRl
  refine lv_aload_n hx hb dL_law_535 rfl (lv_at hl 1 rfl) ?_
  refine lv_aload_n hx hb dL_law_536 rfl (lv_at hl 0 rfl) ?_
  refine lv_iload_n hx hb dL_law_537 rfl (lv_at hl 3 rfl) ?_
  refine lv_iconst (v := 1) hx hb dL_law_538 (by decide) ?_
  refine lv_iadd hx hb dL_law_539 ?_
  refine lv_topi (fun y_1 ey_1 => ?_)
  obtain rfl : y_1 = nI (i + 1) := ey_1.trans (z_iaddn i 1 rfl rfl)
  refine va_sld hx hb hX hbl hbA G.2.2.2.1 (vp_in_nI (by omega) (by omega)) dL_law_540 ?_
  refine lv_topi (fun v_2 ev_2 => ?_)
  rw [nI_clamp (by omega)] at ev_2
  have ev_2 : v_2 = xs (i + 1) := ev_2
  subst ev_2
  refine lv_aload_n hx hb dL_law_541 rfl (lv_at hl 0 rfl) ?_
  refine lv_iload_n hx hb dL_law_542 rfl (lv_at hl 3 rfl) ?_
  refine lv_iconst (v := 2) hx hb dL_law_543 (by decide) ?_
  refine lv_iadd hx hb dL_law_544 ?_
  refine lv_topi (fun y_3 ey_3 => ?_)
  obtain rfl : y_3 = nI (i + 2) := ey_3.trans (z_iaddn i 2 rfl rfl)
  refine va_sld hx hb hX hbl hbA G.2.2.2.1 (vp_in_nI (by omega) (by omega)) dL_law_545 ?_
  refine lv_topi (fun v_4 ev_4 => ?_)
  rw [nI_clamp (by omega)] at ev_4
  have ev_4 : v_4 = xs (i + 2) := ev_4
  subst ev_4
  obtain ⟨v_5, v_6, v_7, v_8, h_9, h_10⟩ := H_wt
  have h_10 : zKT v_8 := h_10
  obtain ⟨v_11, v_12, v_13, v_14, v_15, v_16, h_17, h_18⟩ := H_z0_
  have h_18 : zLI v_11 v_13 v_15 := h_18
  obtain ⟨v_19, v_20, v_21, v_22, v_23, v_24, h_25, h_26⟩ := H_z1_
  have h_26 : zLI v_19 v_21 v_23 := h_26
  obtain ⟨v_27, v_28, v_29, v_30, v_31, v_32, v_33, v_34, v_35, v_36, h_37⟩ := H_wc
  obtain ⟨v_38, v_39, v_40, v_41, v_42, v_43, h_44⟩ := H_wcp
  refine z_Vi (bc := [[(xo, .inr (10, [.ref t, .ref im, .ref mk, .ref rd, .ref po, .ref co, .ref tr, .ref wa, .ref wb_, .ref fi, .ref cd]))], wt, z0_, z1_, wc, wcp]) (br := [wd0_, wd1_, wg0_, wg1_, [(rd, .inr (7, [.ref rl, .ref rdd, .ref rg, .int r0, .int r1, .ref tq, .int r2, .int r3, .int r4, .int r5, .int r6, .int r7, .int r8]))], z, wd, wg, wwA, wwB, wff, wr, wrp, wp, [(cd, .inl (T.2 0, 1000, .inl fcd))], wta, z0_a, z1_a, wd0_a, wd1_a, wg0_a, wg1_a, wtb, z0_b, z1_b, wd0_b, wd1_b, wg0_b, wg1_b, wtc, z0_c, z1_c, wd0_c, wd1_c, wg0_c, wg1_c, [(im, .inl (T.2 6, 3, .inr (.inr (.inr (.inr qi)))))], [(mk, .inl (T.2 2, 3, .inl fmk))], [(mo, .inr (11, [.ref m_all, .ref m_has, .int i_size, .int i_next, .int i_where, .int i_token, .int i_number, .int i_word, .int i_wrong, .int i_farCrossing, .ref m_read, .int i_z0, .int i_crossings, .int i_inns, .ref m_posts, .ref m_shut, .ref m_here, .int i_steps, .int i_done, .int i_at, .int i_gone, .ref m_was, .ref m_came, .ref m_seenAt, .ref m_rowWorth, .ref m_farBy, .ref m_used, .int i_everywhere, .int i_again0, .int i_d0, .int i_never, .int i_firstCame, .int i_longRun, .int i_moved, .int i_crowd, .int i_l0, .int i_fitMany, .int i_fitLeast, .int i_fitMost, .ref m_fitPost, .ref m_fitEnd, .ref m_keptPosts, .int i_x0]))], [(m_all, .inl (T.2 0, 3952, .inl f_all))], [(m_has, .inl (T.2 2, 3, .inl f_has))], [(m_read, .inl (T.2 0, 121, .inl f_read))], [(m_posts, .inl (T.2 0, 7, .inl f_posts))], [(m_shut, .inl (T.2 0, 7, .inl f_shut))], [(m_here, .inl (T.2 0, 7, .inl f_here))], [(m_was, .inl (T.2 0, 7, .inl f_was))], [(m_came, .inl (T.2 0, 7, .inl f_came))], [(m_seenAt, .inl (T.2 0, 16384, .inl f_seenAt))], [(m_rowWorth, .inl (T.2 0, 512, .inl f_rowWorth))], [(m_farBy, .inl (T.2 0, 49, .inl f_farBy))], [(m_used, .inl (T.2 0, 7, .inl f_used))], [(m_fitPost, .inl (T.2 0, 28, .inl f_fitPost))], [(m_fitEnd, .inl (T.2 0, 49, .inl f_fitEnd))], [(m_keptPosts, .inl (T.2 0, 7, .inl f_keptPosts))]]) (As := [.int (xs (i + 1)), .int (xs (i + 2))]) (rest := []) C G (c_endOf l T xo t im mk rd po co tr wa wb_ fi cd l0 l1 d0 d1 g0 g1 ln v_5 v_6 v_7 v_8 wt v_11 v_12 v_13 v_14 v_15 v_16 z0_ v_19 v_20 v_21 v_22 v_23 v_24 z1_ cpo v_27 v_28 v_29 v_30 v_31 v_32 v_33 v_34 v_35 v_36 wc v_38 v_39 v_40 v_41 v_42 v_43 wcp (xs (i + 1)) (xs (i + 2)) h_9 (by first | assumption | omega | rfl) h_17 (by first | assumption | omega | rfl) h_25 (by first | assumption | omega | rfl) h_37 h_44) (kV_RL_54 C.2.2.2.2 (Nat.le_of_ble_eq_true rfl) (Nat.le_of_ble_eq_true rfl)) [0, 1, 2, 3, 15, 16] [4, 5, 6, 7, 8, 9, 10, 11, 12, 13, 14, 17, 18, 19, 20, 21, 22, 23, 24, 25, 26, 27, 28, 29, 30, 31, 32, 33, 34, 35, 36, 37, 38, 39, 40, 41, 42, 43, 44, 45, 46, 47, 48, 49, 50, 51, 52, 53, 54, 55, 56, 57, 58, 59] rfl rfl (ci := 10) (qc := (RX11, TX11, 11)) rfl rfl (List.mem_flatten.mpr ⟨_, List.mem_of_getElem? (i := 0) rfl, List.mem_cons_self⟩) rfl rfl hl.1 dL_law_546 (by show _ + 0 ≤ 600000; omega) (by show _ + 0 ≤ 7302250; omega) (fun r_65 b1 H locs hw G => ?_)
  obtain ⟨cla_45, cfw_46, v0_47, v1_48, v2_49, v3_50, v4_51, v5_52, v6_53, v7_54, wc_55, cpl_56, cf1_57, cf2_58, cf3_59, cst_60, cwh_61, wcp_62, rfl, h_63, h_64⟩ := hw
  have G : zS T A s.heap s [wd0_, wd1_, wg0_, wg1_, [(rd, .inr (7, [.ref rl, .ref rdd, .ref rg, .int r0, .int r1, .ref tq, .int r2, .int r3, .int r4, .int r5, .int r6, .int r7, .int r8]))], z, wd, wg, wwA, wwB, wff, wr, wrp, wp, [(cd, .inl (T.2 0, 1000, .inl fcd))], wta, z0_a, z1_a, wd0_a, wd1_a, wg0_a, wg1_a, wtb, z0_b, z1_b, wd0_b, wd1_b, wg0_b, wg1_b, wtc, z0_c, z1_c, wd0_c, wd1_c, wg0_c, wg1_c, [(im, .inl (T.2 6, 3, .inr (.inr (.inr (.inr qi)))))], [(mk, .inl (T.2 2, 3, .inl fmk))], [(mo, .inr (11, [.ref m_all, .ref m_has, .int i_size, .int i_next, .int i_where, .int i_token, .int i_number, .int i_word, .int i_wrong, .int i_farCrossing, .ref m_read, .int i_z0, .int i_crossings, .int i_inns, .ref m_posts, .ref m_shut, .ref m_here, .int i_steps, .int i_done, .int i_at, .int i_gone, .ref m_was, .ref m_came, .ref m_seenAt, .ref m_rowWorth, .ref m_farBy, .ref m_used, .int i_everywhere, .int i_again0, .int i_d0, .int i_never, .int i_firstCame, .int i_longRun, .int i_moved, .int i_crowd, .int i_l0, .int i_fitMany, .int i_fitLeast, .int i_fitMost, .ref m_fitPost, .ref m_fitEnd, .ref m_keptPosts, .int i_x0]))], [(m_all, .inl (T.2 0, 3952, .inl f_all))], [(m_has, .inl (T.2 2, 3, .inl f_has))], [(m_read, .inl (T.2 0, 121, .inl f_read))], [(m_posts, .inl (T.2 0, 7, .inl f_posts))], [(m_shut, .inl (T.2 0, 7, .inl f_shut))], [(m_here, .inl (T.2 0, 7, .inl f_here))], [(m_was, .inl (T.2 0, 7, .inl f_was))], [(m_came, .inl (T.2 0, 7, .inl f_came))], [(m_seenAt, .inl (T.2 0, 16384, .inl f_seenAt))], [(m_rowWorth, .inl (T.2 0, 512, .inl f_rowWorth))], [(m_farBy, .inl (T.2 0, 49, .inl f_farBy))], [(m_used, .inl (T.2 0, 7, .inl f_used))], [(m_fitPost, .inl (T.2 0, 28, .inl f_fitPost))], [(m_fitEnd, .inl (T.2 0, 49, .inl f_fitEnd))], [(m_keptPosts, .inl (T.2 0, 7, .inl f_keptPosts))], [(xo, .inr (10, [.ref t, .ref im, .ref mk, .ref rd, .ref po, .ref co, .ref tr, .ref wa, .ref wb_, .ref fi, .ref cd]))], wt, z0_, z1_, wc_55, wcp_62] _ _ := G
  refine lv_pop hx hb dL_law_549 rfl ?_
  refine lv_aload_n hx hb dL_law_550 rfl (lv_at hl 2 rfl) ?_
  refine lv_aload_n hx hb dL_law_551 rfl (lv_at hl 0 rfl) ?_
  refine lv_iload_n hx hb dL_law_552 rfl (lv_at hl 3 rfl) ?_
  refine lv_iconst (v := 1) hx hb dL_law_553 (by decide) ?_
  refine lv_iadd hx hb dL_law_554 ?_
  refine lv_topi (fun y_66 ey_66 => ?_)
  obtain rfl : y_66 = nI (i + 1) := ey_66.trans (z_iaddn i 1 rfl rfl)
  refine va_sld hx hb hX hbl hbA G.2.2.2.1 (vp_in_nI (by omega) (by omega)) dL_law_555 ?_
  refine lv_topi (fun v_67 ev_67 => ?_)
  rw [nI_clamp (by omega)] at ev_67
  have ev_67 : v_67 = xs (i + 1) := ev_67
  subst ev_67
  refine lv_aload_n hx hb dL_law_556 rfl (lv_at hl 0 rfl) ?_
  refine lv_iload_n hx hb dL_law_557 rfl (lv_at hl 3 rfl) ?_
  refine lv_iconst (v := 2) hx hb dL_law_558 (by decide) ?_
  refine lv_iadd hx hb dL_law_559 ?_
  refine lv_topi (fun y_68 ey_68 => ?_)
  obtain rfl : y_68 = nI (i + 2) := ey_68.trans (z_iaddn i 2 rfl rfl)
  refine va_sld hx hb hX hbl hbA G.2.2.2.1 (vp_in_nI (by omega) (by omega)) dL_law_560 ?_
  refine lv_topi (fun v_69 ev_69 => ?_)
  rw [nI_clamp (by omega)] at ev_69
  have ev_69 : v_69 = xs (i + 2) := ev_69
  subst ev_69
  refine z_Vi (bc := [[(mo, .inr (11, [.ref m_all, .ref m_has, .int i_size, .int i_next, .int i_where, .int i_token, .int i_number, .int i_word, .int i_wrong, .int i_farCrossing, .ref m_read, .int i_z0, .int i_crossings, .int i_inns, .ref m_posts, .ref m_shut, .ref m_here, .int i_steps, .int i_done, .int i_at, .int i_gone, .ref m_was, .ref m_came, .ref m_seenAt, .ref m_rowWorth, .ref m_farBy, .ref m_used, .int i_everywhere, .int i_again0, .int i_d0, .int i_never, .int i_firstCame, .int i_longRun, .int i_moved, .int i_crowd, .int i_l0, .int i_fitMany, .int i_fitLeast, .int i_fitMost, .ref m_fitPost, .ref m_fitEnd, .ref m_keptPosts, .int i_x0]))], [(m_all, .inl (T.2 0, 3952, .inl f_all))], [(m_posts, .inl (T.2 0, 7, .inl f_posts))], [(m_shut, .inl (T.2 0, 7, .inl f_shut))], [(m_here, .inl (T.2 0, 7, .inl f_here))], [(m_was, .inl (T.2 0, 7, .inl f_was))], [(m_came, .inl (T.2 0, 7, .inl f_came))]]) (br := [wd0_, wd1_, wg0_, wg1_, [(rd, .inr (7, [.ref rl, .ref rdd, .ref rg, .int r0, .int r1, .ref tq, .int r2, .int r3, .int r4, .int r5, .int r6, .int r7, .int r8]))], z, wd, wg, wwA, wwB, wff, wr, wrp, wp, [(cd, .inl (T.2 0, 1000, .inl fcd))], wta, z0_a, z1_a, wd0_a, wd1_a, wg0_a, wg1_a, wtb, z0_b, z1_b, wd0_b, wd1_b, wg0_b, wg1_b, wtc, z0_c, z1_c, wd0_c, wd1_c, wg0_c, wg1_c, [(im, .inl (T.2 6, 3, .inr (.inr (.inr (.inr qi)))))], [(mk, .inl (T.2 2, 3, .inl fmk))], [(m_has, .inl (T.2 2, 3, .inl f_has))], [(m_read, .inl (T.2 0, 121, .inl f_read))], [(m_seenAt, .inl (T.2 0, 16384, .inl f_seenAt))], [(m_rowWorth, .inl (T.2 0, 512, .inl f_rowWorth))], [(m_farBy, .inl (T.2 0, 49, .inl f_farBy))], [(m_used, .inl (T.2 0, 7, .inl f_used))], [(m_fitPost, .inl (T.2 0, 28, .inl f_fitPost))], [(m_fitEnd, .inl (T.2 0, 49, .inl f_fitEnd))], [(m_keptPosts, .inl (T.2 0, 7, .inl f_keptPosts))], [(xo, .inr (10, [.ref t, .ref im, .ref mk, .ref rd, .ref po, .ref co, .ref tr, .ref wa, .ref wb_, .ref fi, .ref cd]))], wt, z0_, z1_, wc_55, wcp_62]) (As := [.int (xs (i + 1)), .int (xs (i + 2))]) (rest := []) C G (c_m_endOf l T mo m_all m_has i_size i_next i_where i_token i_number i_word i_wrong i_farCrossing m_read i_z0 i_crossings i_inns m_posts m_shut m_here i_steps i_done i_at i_gone m_was m_came m_seenAt m_rowWorth m_farBy m_used i_everywhere i_again0 i_d0 i_never i_firstCame i_longRun i_moved i_crowd i_l0 i_fitMany i_fitLeast i_fitMost m_fitPost m_fitEnd m_keptPosts i_x0 f_all f_posts f_shut f_here f_was f_came (xs (i + 1)) (xs (i + 2)) (by first | assumption | omega | rfl)) (kV_RL_57 C.2.2.2.2 (Nat.le_of_ble_eq_true rfl) (Nat.le_of_ble_eq_true rfl)) [38, 39, 42, 43, 44, 45, 46] [0, 1, 2, 3, 4, 5, 6, 7, 8, 9, 10, 11, 12, 13, 14, 15, 16, 17, 18, 19, 20, 21, 22, 23, 24, 25, 26, 27, 28, 29, 30, 31, 32, 33, 34, 35, 36, 37, 40, 41, 47, 48, 49, 50, 51, 52, 53, 54, 55, 56, 57, 58, 59] rfl rfl (ci := 11) (qc := (RX12, TX12, 43)) rfl rfl (List.mem_flatten.mpr ⟨_, List.mem_of_getElem? (i := 0) rfl, List.mem_cons_self⟩) rfl rfl hl.1 dL_law_561 (by show _ + 0 ≤ 600000; omega) (by show _ + 0 ≤ 7302250; omega) (fun r_82 b1 H locs hw G => ?_)
  obtain ⟨j_z0_70, j_crossings_71, j_inns_72, j_steps_73, j_done_74, j_at_75, j_gone_76, g_posts_77, g_shut_78, g_here_79, g_was_80, g_came_81, rfl⟩ := hw
  have G : zS T A s.heap s [wd0_, wd1_, wg0_, wg1_, [(rd, .inr (7, [.ref rl, .ref rdd, .ref rg, .int r0, .int r1, .ref tq, .int r2, .int r3, .int r4, .int r5, .int r6, .int r7, .int r8]))], z, wd, wg, wwA, wwB, wff, wr, wrp, wp, [(cd, .inl (T.2 0, 1000, .inl fcd))], wta, z0_a, z1_a, wd0_a, wd1_a, wg0_a, wg1_a, wtb, z0_b, z1_b, wd0_b, wd1_b, wg0_b, wg1_b, wtc, z0_c, z1_c, wd0_c, wd1_c, wg0_c, wg1_c, [(im, .inl (T.2 6, 3, .inr (.inr (.inr (.inr qi)))))], [(mk, .inl (T.2 2, 3, .inl fmk))], [(m_has, .inl (T.2 2, 3, .inl f_has))], [(m_read, .inl (T.2 0, 121, .inl f_read))], [(m_seenAt, .inl (T.2 0, 16384, .inl f_seenAt))], [(m_rowWorth, .inl (T.2 0, 512, .inl f_rowWorth))], [(m_farBy, .inl (T.2 0, 49, .inl f_farBy))], [(m_used, .inl (T.2 0, 7, .inl f_used))], [(m_fitPost, .inl (T.2 0, 28, .inl f_fitPost))], [(m_fitEnd, .inl (T.2 0, 49, .inl f_fitEnd))], [(m_keptPosts, .inl (T.2 0, 7, .inl f_keptPosts))], [(xo, .inr (10, [.ref t, .ref im, .ref mk, .ref rd, .ref po, .ref co, .ref tr, .ref wa, .ref wb_, .ref fi, .ref cd]))], wt, z0_, z1_, wc_55, wcp_62, [(mo, .inr (11, [.ref m_all, .ref m_has, .int i_size, .int i_next, .int i_where, .int i_token, .int i_number, .int i_word, .int i_wrong, .int i_farCrossing, .ref m_read, .int j_z0_70, .int j_crossings_71, .int j_inns_72, .ref m_posts, .ref m_shut, .ref m_here, .int j_steps_73, .int j_done_74, .int j_at_75, .int j_gone_76, .ref m_was, .ref m_came, .ref m_seenAt, .ref m_rowWorth, .ref m_farBy, .ref m_used, .int i_everywhere, .int i_again0, .int i_d0, .int i_never, .int i_firstCame, .int i_longRun, .int i_moved, .int i_crowd, .int i_l0, .int i_fitMany, .int i_fitLeast, .int i_fitMost, .ref m_fitPost, .ref m_fitEnd, .ref m_keptPosts, .int i_x0]))], [(m_all, .inl (T.2 0, 3952, .inl f_all))], [(m_posts, .inl (T.2 0, 7, .inl g_posts_77))], [(m_shut, .inl (T.2 0, 7, .inl g_shut_78))], [(m_here, .inl (T.2 0, 7, .inl g_here_79))], [(m_was, .inl (T.2 0, 7, .inl g_was_80))], [(m_came, .inl (T.2 0, 7, .inl g_came_81))]] _ _ := G
  refine lv_pop hx hb dL_law_564 rfl ?_
  refine lv_goto (tgt := 1767) hx hb dL_law_565 (by decide) ?_
  have G := G.sub (bs' := [[(xo, .inr (10, [.ref t, .ref im, .ref mk, .ref rd, .ref po, .ref co, .ref tr, .ref wa, .ref wb_, .ref fi, .ref cd]))], wt, z0_, z1_, wd0_, wd1_, wg0_, wg1_, [(rd, .inr (7, [.ref rl, .ref rdd, .ref rg, .int r0, .int r1, .ref tq, .int r2, .int r3, .int r4, .int r5, .int r6, .int r7, .int r8]))], z, wd, wg, wwA, wwB, wff, wc_55, wcp_62, wr, wrp, wp, [(cd, .inl (T.2 0, 1000, .inl fcd))], wta, z0_a, z1_a, wd0_a, wd1_a, wg0_a, wg1_a, wtb, z0_b, z1_b, wd0_b, wd1_b, wg0_b, wg1_b, wtc, z0_c, z1_c, wd0_c, wd1_c, wg0_c, wg1_c, [(im, .inl (T.2 6, 3, .inr (.inr (.inr (.inr qi)))))], [(mk, .inl (T.2 2, 3, .inl fmk))], [(mo, .inr (11, [.ref m_all, .ref m_has, .int i_size, .int i_next, .int i_where, .int i_token, .int i_number, .int i_word, .int i_wrong, .int i_farCrossing, .ref m_read, .int j_z0_70, .int j_crossings_71, .int j_inns_72, .ref m_posts, .ref m_shut, .ref m_here, .int j_steps_73, .int j_done_74, .int j_at_75, .int j_gone_76, .ref m_was, .ref m_came, .ref m_seenAt, .ref m_rowWorth, .ref m_farBy, .ref m_used, .int i_everywhere, .int i_again0, .int i_d0, .int i_never, .int i_firstCame, .int i_longRun, .int i_moved, .int i_crowd, .int i_l0, .int i_fitMany, .int i_fitLeast, .int i_fitMost, .ref m_fitPost, .ref m_fitEnd, .ref m_keptPosts, .int i_x0]))], [(m_all, .inl (T.2 0, 3952, .inl f_all))], [(m_has, .inl (T.2 2, 3, .inl f_has))], [(m_read, .inl (T.2 0, 121, .inl f_read))], [(m_posts, .inl (T.2 0, 7, .inl g_posts_77))], [(m_shut, .inl (T.2 0, 7, .inl g_shut_78))], [(m_here, .inl (T.2 0, 7, .inl g_here_79))], [(m_was, .inl (T.2 0, 7, .inl g_was_80))], [(m_came, .inl (T.2 0, 7, .inl g_came_81))], [(m_seenAt, .inl (T.2 0, 16384, .inl f_seenAt))], [(m_rowWorth, .inl (T.2 0, 512, .inl f_rowWorth))], [(m_farBy, .inl (T.2 0, 49, .inl f_farBy))], [(m_used, .inl (T.2 0, 7, .inl f_used))], [(m_fitPost, .inl (T.2 0, 28, .inl f_fitPost))], [(m_fitEnd, .inl (T.2 0, 49, .inl f_fitEnd))], [(m_keptPosts, .inl (T.2 0, 7, .inl f_keptPosts))]]) [47, 48, 49, 50, 0, 1, 2, 3, 4, 5, 6, 7, 8, 9, 10, 51, 52, 11, 12, 13, 14, 15, 16, 17, 18, 19, 20, 21, 22, 23, 24, 25, 26, 27, 28, 29, 30, 31, 32, 33, 34, 35, 36, 37, 53, 54, 38, 39, 55, 56, 57, 58, 59, 40, 41, 42, 43, 44, 45, 46] rfl
  refine W.widen (k := 216 + 2 * i + 12) (n := 27000 + 6 * (n4A + n4B) + 2 * m1f) (by omega) (by omega) ?_
  exact kk n4A n4B m1f _ ⟨⟨t, im, mk, rd, po, co, tr, wa, wb_, fi, cd, wt, l0, l1, d0, d1, g0, g1, ln, z0_, z1_, wd0_, wd1_, wg0_, wg1_, rl, rdd, rg, r0, r1, tq, r2, r3, r4, r5, r6, r7, r8, z, wd, wg, wwA, mdA, wwB, mdB, wff, e0f, e1f, wc_55, cpo, wcp_62, wr, tpo, wrp, wp, fcd, m0, wta, l0a, l1a, d0a, d1a, g0a, g1a, lna, z0_a, z1_a, wd0_a, wd1_a, wg0_a, wg1_a, m1, wtb, l0b, l1b, d0b, d1b, g0b, g1b, lnb, z0_b, z1_b, wd0_b, wd1_b, wg0_b, wg1_b, m2, wtc, l0c, l1c, d0c, d1c, g0c, g1c, lnc, z0_c, z1_c, wd0_c, wd1_c, wg0_c, wg1_c, qi, fmk, m_all, m_has, i_size, i_next, i_where, i_token, i_number, i_word, i_wrong, i_farCrossing, m_read, j_z0_70, j_crossings_71, j_inns_72, m_posts, m_shut, m_here, j_steps_73, j_done_74, j_at_75, j_gone_76, m_was, m_came, m_seenAt, m_rowWorth, m_farBy, m_used, i_everywhere, i_again0, i_d0, i_never, i_firstCame, i_longRun, i_moved, i_crowd, i_l0, i_fitMany, i_fitLeast, i_fitMost, m_fitPost, m_fitEnd, m_keptPosts, i_x0, f_all, f_has, f_read, g_posts_77, g_shut_78, g_here_79, g_was_80, g_came_81, f_seenAt, f_rowWorth, f_farBy, f_used, f_fitPost, f_fitEnd, f_keptPosts⟩, rfl, ⟨v_5, v_6, v_7, v_8, h_9, (by first | assumption | omega)⟩, ⟨v_11, v_12, v_13, v_14, v_15, v_16, h_17, (by first | assumption | omega)⟩, ⟨v_19, v_20, v_21, v_22, v_23, v_24, h_25, (by first | assumption | omega)⟩, H_wd0_, H_wd1_, H_wg0_, H_wg1_, H_z, H_wd, H_wg, H_wwA, H_wwB, H_wff, ⟨cla_45, cfw_46, v0_47, v1_48, v2_49, v3_50, v4_51, v5_52, v6_53, v7_54, h_63⟩, ⟨cpl_56, cf1_57, cf2_58, cf3_59, cst_60, cwh_61, h_64⟩, H_wr, H_wrp, H_wp, H_wta, H_z0_a, H_z1_a, H_wd0_a, H_wd1_a, H_wg0_a, H_wg1_a, H_wtb, H_z0_b, H_z1_b, H_wd0_b, H_wd1_b, H_wg0_b, H_wg1_b, H_wtc, H_z0_c, H_z1_c, H_wd0_c, H_wd1_c, H_wg0_c, H_wg1_c, (by first | assumption | omega), (by first | assumption | omega), (by first | assumption | omega), (by first | assumption | omega), (by first | assumption | omega), (by first | assumption | omega), (by first | assumption | omega), (by first | assumption | omega)⟩ _ _ ls G (lv_sub hl [0, 1, 2, 3] rfl)
set_option maxHeartbeats 40000000 in
set_option maxRecDepth 100000 in
theorem z_case_come (l : Launch) {p : Program} {e : Env} {s : State} {m : MethodId} {b : Nat} {below : List Frame} {meth : Method} {c : Code} {Q : State → Prop} {T : zTy} {A : Nat → Prop} {L i : Nat} {xs : Nat → Int32} (hx : p.tables.exec = Jvm.exec) (hb : c.code = cL_law) (C : CallFix p m c cL_law 4 s #[Value.ref b] zT RL) (hX : va_X b L xs s s.heap) (hbl : b < s.heap.size) (hbA : ¬ A b) (hL : L ≤ 3072) (hi6 : i + 6 ≤ L) {xo mo n4A n4B m1f : Nat} (hnA : n4A ≤ 131072) (hnB : n4B ≤ 131072) (hmf : m1f ≤ 16384) {bs : List va_W} (hI : zInv T xo mo n4A n4B m1f bs) {H : Heap} {locs : List Loc} {ls : Array Slot} (G : zS T A s.heap s bs H locs) (hl : lv_has ls 4 [(0, .ref b), (1, .ref xo), (2, .ref mo), (3, .int (nI i))]) (kk : ∀ (n1 n2 n3 : Nat) (bs1 : List va_W), zInv T xo mo n1 n2 n3 bs1 → ∀ (H1 : Heap) (locs1 : List Loc) (ls1 : Array Slot), zS T A s.heap s bs1 H1 locs1 → lv_has ls1 4 [(0, .ref b), (1, .ref xo), (2, .ref mo), (3, .int (nI i))] → W p l e room_1 s m #[Value.ref b] below meth c H1 locs1 (216 + 2 * i + 12) (27000 + 6 * (n1 + n2) + 2 * n3) Q (F0 m 1767 ls1 [])) : W p l e room_1 s m #[Value.ref b] below meth c H locs (216 + 2 * i) (27000 + 6 * (n4A + n4B) + 2 * m1f) Q (F0 m 568 ls []) := by
  obtain ⟨⟨t, im, mk, rd, po, co, tr, wa, wb_, fi, cd, wt, l0, l1, d0, d1, g0, g1, ln, z0_, z1_, wd0_, wd1_, wg0_, wg1_, rl, rdd, rg, r0, r1, tq, r2, r3, r4, r5, r6, r7, r8, z, wd, wg, wwA, mdA, wwB, mdB, wff, e0f, e1f, wc, cpo, wcp, wr, tpo, wrp, wp, fcd, m0, wta, l0a, l1a, d0a, d1a, g0a, g1a, lna, z0_a, z1_a, wd0_a, wd1_a, wg0_a, wg1_a, m1, wtb, l0b, l1b, d0b, d1b, g0b, g1b, lnb, z0_b, z1_b, wd0_b, wd1_b, wg0_b, wg1_b, m2, wtc, l0c, l1c, d0c, d1c, g0c, g1c, lnc, z0_c, z1_c, wd0_c, wd1_c, wg0_c, wg1_c, qi, fmk, m_all, m_has, i_size, i_next, i_where, i_token, i_number, i_word, i_wrong, i_farCrossing, m_read, i_z0, i_crossings, i_inns, m_posts, m_shut, m_here, i_steps, i_done, i_at, i_gone, m_was, m_came, m_seenAt, m_rowWorth, m_farBy, m_used, i_everywhere, i_again0, i_d0, i_never, i_firstCame, i_longRun, i_moved, i_crowd, i_l0, i_fitMany, i_fitLeast, i_fitMost, m_fitPost, m_fitEnd, m_keptPosts, i_x0, f_all, f_has, f_read, f_posts, f_shut, f_here, f_was, f_came, f_seenAt, f_rowWorth, f_farBy, f_used, f_fitPost, f_fitEnd, f_keptPosts⟩, rfl, H_wt, H_z0_, H_z1_, H_wd0_, H_wd1_, H_wg0_, H_wg1_, H_z, H_wd, H_wg, H_wwA, H_wwB, H_wff, H_wc, H_wcp, H_wr, H_wrp, H_wp, H_wta, H_z0_a, H_z1_a, H_wd0_a, H_wd1_a, H_wg0_a, H_wg1_a, H_wtb, H_z0_b, H_z1_b, H_wd0_b, H_wd1_b, H_wg0_b, H_wg1_b, H_wtc, H_z0_c, H_z1_c, H_wd0_c, H_wd1_c, H_wg0_c, H_wg1_c, hm0, hm1, hm2, h56, hFI, hAI, hRl, hHs⟩ := hI
  replace H_wt : hTold T t l0 l1 d0 d1 g0 g1 ln wt := H_wt
  replace H_z0_ : hLand T l0 z0_ := H_z0_
  replace H_z1_ : hLand T l1 z1_ := H_z1_
  replace H_wd0_ : hDay T d0 wd0_ := H_wd0_
  replace H_wd1_ : hDay T d1 wd1_ := H_wd1_
  replace H_wg0_ : hLog T g0 wg0_ := H_wg0_
  replace H_wg1_ : hLog T g1 wg1_ := H_wg1_
  replace H_z : hLandR T rl z := H_z
  replace H_wd : hDay T rdd wd := H_wd
  replace H_wg : hLog T rg wg := H_wg
  replace H_wwA : hWays T wa mdA n4A l0 wwA := H_wwA
  replace H_wwB : hWays T wb_ mdB n4B l1 wwB := H_wwB
  replace H_wff : hFit T fi e0f e1f m1f wff := H_wff
  replace H_wc : hCourse T co cpo wc := H_wc
  replace H_wcp : hPosts T cpo wcp := H_wcp
  replace H_wr : hTrail T tr tpo wr := H_wr
  replace H_wrp : hPosts T tpo wrp := H_wrp
  replace H_wp : hPosts T po wp := H_wp
  replace H_wta : hTold T m0 l0a l1a d0a d1a g0a g1a lna wta := H_wta
  replace H_z0_a : hLand T l0a z0_a := H_z0_a
  replace H_z1_a : hLand T l1a z1_a := H_z1_a
  replace H_wd0_a : hDay T d0a wd0_a := H_wd0_a
  replace H_wd1_a : hDay T d1a wd1_a := H_wd1_a
  replace H_wg0_a : hLog T g0a wg0_a := H_wg0_a
  replace H_wg1_a : hLog T g1a wg1_a := H_wg1_a
  replace H_wtb : hTold T m1 l0b l1b d0b d1b g0b g1b lnb wtb := H_wtb
  replace H_z0_b : hLand T l0b z0_b := H_z0_b
  replace H_z1_b : hLand T l1b z1_b := H_z1_b
  replace H_wd0_b : hDay T d0b wd0_b := H_wd0_b
  replace H_wd1_b : hDay T d1b wd1_b := H_wd1_b
  replace H_wg0_b : hLog T g0b wg0_b := H_wg0_b
  replace H_wg1_b : hLog T g1b wg1_b := H_wg1_b
  replace H_wtc : hTold T m2 l0c l1c d0c d1c g0c g1c lnc wtc := H_wtc
  replace H_z0_c : hLand T l0c z0_c := H_z0_c
  replace H_z1_c : hLand T l1c z1_c := H_z1_c
  replace H_wd0_c : hDay T d0c wd0_c := H_wd0_c
  replace H_wd1_c : hDay T d1c wd1_c := H_wd1_c
  replace H_wg0_c : hLog T g0c wg0_c := H_wg0_c
  replace H_wg1_c : hLog T g1c wg1_c := H_wg1_c
  replace hm0 : qi 0 = some m0 := hm0
  replace hm1 : qi 1 = some m1 := hm1
  replace hm2 : qi 2 = some m2 := hm2
  replace h56 : ((0 ≤ r5.toInt ∧ r5.toInt ≤ 600) ∧ 0 ≤ r6.toInt ∧ r6.toInt ≤ 1000) := h56
  replace hFI : (¬ e0f = 0 → e1f.toInt = 0 ∧ ¬ mdA = 0 ∨ e1f.toInt = 1 ∧ ¬ mdB = 0) := hFI
  replace hAI : zAI f_all := hAI
  replace hRl : zRl ln lna lnb lnc f_all := hRl
  replace hHs : zHs fmk f_has := hHs
  replace G : zS T A s.heap s [[(xo, .inr (10, [.ref t, .ref im, .ref mk, .ref rd, .ref po, .ref co, .ref tr, .ref wa, .ref wb_, .ref fi, .ref cd]))], wt, z0_, z1_, wd0_, wd1_, wg0_, wg1_, [(rd, .inr (7, [.ref rl, .ref rdd, .ref rg, .int r0, .int r1, .ref tq, .int r2, .int r3, .int r4, .int r5, .int r6, .int r7, .int r8]))], z, wd, wg, wwA, wwB, wff, wc, wcp, wr, wrp, wp, [(cd, .inl (T.2 0, 1000, .inl fcd))], wta, z0_a, z1_a, wd0_a, wd1_a, wg0_a, wg1_a, wtb, z0_b, z1_b, wd0_b, wd1_b, wg0_b, wg1_b, wtc, z0_c, z1_c, wd0_c, wd1_c, wg0_c, wg1_c, [(im, .inl (T.2 6, 3, .inr (.inr (.inr (.inr qi)))))], [(mk, .inl (T.2 2, 3, .inl fmk))], [(mo, .inr (11, [.ref m_all, .ref m_has, .int i_size, .int i_next, .int i_where, .int i_token, .int i_number, .int i_word, .int i_wrong, .int i_farCrossing, .ref m_read, .int i_z0, .int i_crossings, .int i_inns, .ref m_posts, .ref m_shut, .ref m_here, .int i_steps, .int i_done, .int i_at, .int i_gone, .ref m_was, .ref m_came, .ref m_seenAt, .ref m_rowWorth, .ref m_farBy, .ref m_used, .int i_everywhere, .int i_again0, .int i_d0, .int i_never, .int i_firstCame, .int i_longRun, .int i_moved, .int i_crowd, .int i_l0, .int i_fitMany, .int i_fitLeast, .int i_fitMost, .ref m_fitPost, .ref m_fitEnd, .ref m_keptPosts, .int i_x0]))], [(m_all, .inl (T.2 0, 3952, .inl f_all))], [(m_has, .inl (T.2 2, 3, .inl f_has))], [(m_read, .inl (T.2 0, 121, .inl f_read))], [(m_posts, .inl (T.2 0, 7, .inl f_posts))], [(m_shut, .inl (T.2 0, 7, .inl f_shut))], [(m_here, .inl (T.2 0, 7, .inl f_here))], [(m_was, .inl (T.2 0, 7, .inl f_was))], [(m_came, .inl (T.2 0, 7, .inl f_came))], [(m_seenAt, .inl (T.2 0, 16384, .inl f_seenAt))], [(m_rowWorth, .inl (T.2 0, 512, .inl f_rowWorth))], [(m_farBy, .inl (T.2 0, 49, .inl f_farBy))], [(m_used, .inl (T.2 0, 7, .inl f_used))], [(m_fitPost, .inl (T.2 0, 28, .inl f_fitPost))], [(m_fitEnd, .inl (T.2 0, 49, .inl f_fitEnd))], [(m_keptPosts, .inl (T.2 0, 7, .inl f_keptPosts))]] H locs := G
  have hB := zAI_0 hAI
  have hB4 := hB.1
  obtain ⟨hln, hlna, hlnb, hlnc⟩ := zRl_in hAI hRl
  refine lv_aload_n hx hb dL_law_568 rfl (lv_at hl 1 rfl) ?_
  refine lv_aload_n hx hb dL_law_569 rfl (lv_at hl 0 rfl) ?_
  refine lv_iload_n hx hb dL_law_570 rfl (lv_at hl 3 rfl) ?_
  refine lv_iconst (v := 1) hx hb dL_law_571 (by decide) ?_
  refine lv_iadd hx hb dL_law_572 ?_
  refine lv_topi (fun y_1 ey_1 => ?_)
  obtain rfl : y_1 = nI (i + 1) := ey_1.trans (z_iaddn i 1 rfl rfl)
  refine va_sld hx hb hX hbl hbA G.2.2.2.1 (vp_in_nI (by omega) (by omega)) dL_law_573 ?_
  refine lv_topi (fun v_2 ev_2 => ?_)
  rw [nI_clamp (by omega)] at ev_2
  have ev_2 : v_2 = xs (i + 1) := ev_2
  subst ev_2
  refine lv_aload_n hx hb dL_law_574 rfl (lv_at hl 0 rfl) ?_
  refine lv_iload_n hx hb dL_law_575 rfl (lv_at hl 3 rfl) ?_
  refine lv_iconst (v := 2) hx hb dL_law_576 (by decide) ?_
  refine lv_iadd hx hb dL_law_577 ?_
  refine lv_topi (fun y_3 ey_3 => ?_)
  obtain rfl : y_3 = nI (i + 2) := ey_3.trans (z_iaddn i 2 rfl rfl)
  refine va_sld hx hb hX hbl hbA G.2.2.2.1 (vp_in_nI (by omega) (by omega)) dL_law_578 ?_
  refine lv_topi (fun v_4 ev_4 => ?_)
  rw [nI_clamp (by omega)] at ev_4
  have ev_4 : v_4 = xs (i + 2) := ev_4
  subst ev_4
  refine lv_aload_n hx hb dL_law_579 rfl (lv_at hl 0 rfl) ?_
  refine lv_iload_n hx hb dL_law_580 rfl (lv_at hl 3 rfl) ?_
  refine lv_iconst (v := 3) hx hb dL_law_581 (by decide) ?_
  refine lv_iadd hx hb dL_law_582 ?_
  refine lv_topi (fun y_5 ey_5 => ?_)
  obtain rfl : y_5 = nI (i + 3) := ey_5.trans (z_iaddn i 3 rfl rfl)
  refine va_sld hx hb hX hbl hbA G.2.2.2.1 (vp_in_nI (by omega) (by omega)) dL_law_583 ?_
  refine lv_topi (fun v_6 ev_6 => ?_)
  rw [nI_clamp (by omega)] at ev_6
  have ev_6 : v_6 = xs (i + 3) := ev_6
  subst ev_6
  obtain ⟨v_7, v_8, v_9, v_10, h_11, h_12⟩ := H_wt
  have h_12 : zKT v_10 := h_12
  obtain ⟨v_13, v_14, v_15, v_16, v_17, v_18, h_19, h_20⟩ := H_z0_
  have h_20 : zLI v_13 v_15 v_17 := h_20
  obtain ⟨v_21, v_22, v_23, v_24, v_25, v_26, h_27, h_28⟩ := H_z1_
  have h_28 : zLI v_21 v_23 v_25 := h_28
  obtain ⟨v_29, v_30, v_31, v_32, v_33, v_34, h_35⟩ := H_wp
  refine z_Vi (bc := [[(xo, .inr (10, [.ref t, .ref im, .ref mk, .ref rd, .ref po, .ref co, .ref tr, .ref wa, .ref wb_, .ref fi, .ref cd]))], wt, z0_, z1_, wp]) (br := [wd0_, wd1_, wg0_, wg1_, [(rd, .inr (7, [.ref rl, .ref rdd, .ref rg, .int r0, .int r1, .ref tq, .int r2, .int r3, .int r4, .int r5, .int r6, .int r7, .int r8]))], z, wd, wg, wwA, wwB, wff, wc, wcp, wr, wrp, [(cd, .inl (T.2 0, 1000, .inl fcd))], wta, z0_a, z1_a, wd0_a, wd1_a, wg0_a, wg1_a, wtb, z0_b, z1_b, wd0_b, wd1_b, wg0_b, wg1_b, wtc, z0_c, z1_c, wd0_c, wd1_c, wg0_c, wg1_c, [(im, .inl (T.2 6, 3, .inr (.inr (.inr (.inr qi)))))], [(mk, .inl (T.2 2, 3, .inl fmk))], [(mo, .inr (11, [.ref m_all, .ref m_has, .int i_size, .int i_next, .int i_where, .int i_token, .int i_number, .int i_word, .int i_wrong, .int i_farCrossing, .ref m_read, .int i_z0, .int i_crossings, .int i_inns, .ref m_posts, .ref m_shut, .ref m_here, .int i_steps, .int i_done, .int i_at, .int i_gone, .ref m_was, .ref m_came, .ref m_seenAt, .ref m_rowWorth, .ref m_farBy, .ref m_used, .int i_everywhere, .int i_again0, .int i_d0, .int i_never, .int i_firstCame, .int i_longRun, .int i_moved, .int i_crowd, .int i_l0, .int i_fitMany, .int i_fitLeast, .int i_fitMost, .ref m_fitPost, .ref m_fitEnd, .ref m_keptPosts, .int i_x0]))], [(m_all, .inl (T.2 0, 3952, .inl f_all))], [(m_has, .inl (T.2 2, 3, .inl f_has))], [(m_read, .inl (T.2 0, 121, .inl f_read))], [(m_posts, .inl (T.2 0, 7, .inl f_posts))], [(m_shut, .inl (T.2 0, 7, .inl f_shut))], [(m_here, .inl (T.2 0, 7, .inl f_here))], [(m_was, .inl (T.2 0, 7, .inl f_was))], [(m_came, .inl (T.2 0, 7, .inl f_came))], [(m_seenAt, .inl (T.2 0, 16384, .inl f_seenAt))], [(m_rowWorth, .inl (T.2 0, 512, .inl f_rowWorth))], [(m_farBy, .inl (T.2 0, 49, .inl f_farBy))], [(m_used, .inl (T.2 0, 7, .inl f_used))], [(m_fitPost, .inl (T.2 0, 28, .inl f_fitPost))], [(m_fitEnd, .inl (T.2 0, 49, .inl f_fitEnd))], [(m_keptPosts, .inl (T.2 0, 7, .inl f_keptPosts))]]) (As := [.int (xs (i + 1)), .int (xs (i + 2)), .int (xs (i + 3))]) (rest := []) C G (c_come l T xo t im mk rd po co tr wa wb_ fi cd l0 l1 d0 d1 g0 g1 ln v_7 v_8 v_9 v_10 wt v_13 v_14 v_15 v_16 v_17 v_18 z0_ v_21 v_22 v_23 v_24 v_25 v_26 z1_ v_29 v_30 v_31 v_32 v_33 v_34 wp (xs (i + 1)) (xs (i + 2)) (xs (i + 3)) h_11 (by first | assumption | omega | rfl) h_19 (by first | assumption | omega | rfl) h_27 (by first | assumption | omega | rfl) h_35) (kV_RL_58 C.2.2.2.2 (Nat.le_of_ble_eq_true rfl) (Nat.le_of_ble_eq_true rfl)) [0, 1, 2, 3, 19] [4, 5, 6, 7, 8, 9, 10, 11, 12, 13, 14, 15, 16, 17, 18, 20, 21, 22, 23, 24, 25, 26, 27, 28, 29, 30, 31, 32, 33, 34, 35, 36, 37, 38, 39, 40, 41, 42, 43, 44, 45, 46, 47, 48, 49, 50, 51, 52, 53, 54, 55, 56, 57, 58, 59] rfl rfl (ci := 10) (qc := (RX11, TX11, 11)) rfl rfl (List.mem_flatten.mpr ⟨_, List.mem_of_getElem? (i := 0) rfl, List.mem_cons_self⟩) rfl rfl hl.1 dL_law_584 (by show _ + 0 ≤ 600000; omega) (by show _ + 0 ≤ 7302250; omega) (fun r_44 b1 H locs hw G => ?_)
  obtain ⟨lp_36, f1_37, f2_38, f3_39, st_40, wh_41, wp_42, rfl, h_43⟩ := hw
  have G : zS T A s.heap s [wd0_, wd1_, wg0_, wg1_, [(rd, .inr (7, [.ref rl, .ref rdd, .ref rg, .int r0, .int r1, .ref tq, .int r2, .int r3, .int r4, .int r5, .int r6, .int r7, .int r8]))], z, wd, wg, wwA, wwB, wff, wc, wcp, wr, wrp, [(cd, .inl (T.2 0, 1000, .inl fcd))], wta, z0_a, z1_a, wd0_a, wd1_a, wg0_a, wg1_a, wtb, z0_b, z1_b, wd0_b, wd1_b, wg0_b, wg1_b, wtc, z0_c, z1_c, wd0_c, wd1_c, wg0_c, wg1_c, [(im, .inl (T.2 6, 3, .inr (.inr (.inr (.inr qi)))))], [(mk, .inl (T.2 2, 3, .inl fmk))], [(mo, .inr (11, [.ref m_all, .ref m_has, .int i_size, .int i_next, .int i_where, .int i_token, .int i_number, .int i_word, .int i_wrong, .int i_farCrossing, .ref m_read, .int i_z0, .int i_crossings, .int i_inns, .ref m_posts, .ref m_shut, .ref m_here, .int i_steps, .int i_done, .int i_at, .int i_gone, .ref m_was, .ref m_came, .ref m_seenAt, .ref m_rowWorth, .ref m_farBy, .ref m_used, .int i_everywhere, .int i_again0, .int i_d0, .int i_never, .int i_firstCame, .int i_longRun, .int i_moved, .int i_crowd, .int i_l0, .int i_fitMany, .int i_fitLeast, .int i_fitMost, .ref m_fitPost, .ref m_fitEnd, .ref m_keptPosts, .int i_x0]))], [(m_all, .inl (T.2 0, 3952, .inl f_all))], [(m_has, .inl (T.2 2, 3, .inl f_has))], [(m_read, .inl (T.2 0, 121, .inl f_read))], [(m_posts, .inl (T.2 0, 7, .inl f_posts))], [(m_shut, .inl (T.2 0, 7, .inl f_shut))], [(m_here, .inl (T.2 0, 7, .inl f_here))], [(m_was, .inl (T.2 0, 7, .inl f_was))], [(m_came, .inl (T.2 0, 7, .inl f_came))], [(m_seenAt, .inl (T.2 0, 16384, .inl f_seenAt))], [(m_rowWorth, .inl (T.2 0, 512, .inl f_rowWorth))], [(m_farBy, .inl (T.2 0, 49, .inl f_farBy))], [(m_used, .inl (T.2 0, 7, .inl f_used))], [(m_fitPost, .inl (T.2 0, 28, .inl f_fitPost))], [(m_fitEnd, .inl (T.2 0, 49, .inl f_fitEnd))], [(m_keptPosts, .inl (T.2 0, 7, .inl f_keptPosts))], [(xo, .inr (10, [.ref t, .ref im, .ref mk, .ref rd, .ref po, .ref co, .ref tr, .ref wa, .ref wb_, .ref fi, .ref cd]))], wt, z0_, z1_, wp_42] _ _ := G
  refine lv_pop hx hb dL_law_587 rfl ?_
  refine lv_aload_n hx hb dL_law_588 rfl (lv_at hl 2 rfl) ?_
  refine lv_aload_n hx hb dL_law_589 rfl (lv_at hl 0 rfl) ?_
  refine lv_iload_n hx hb dL_law_590 rfl (lv_at hl 3 rfl) ?_
  refine lv_iconst (v := 1) hx hb dL_law_591 (by decide) ?_
  refine lv_iadd hx hb dL_law_592 ?_
  refine lv_topi (fun y_45 ey_45 => ?_)
  obtain rfl : y_45 = nI (i + 1) := ey_45.trans (z_iaddn i 1 rfl rfl)
  refine va_sld hx hb hX hbl hbA G.2.2.2.1 (vp_in_nI (by omega) (by omega)) dL_law_593 ?_
  refine lv_topi (fun v_46 ev_46 => ?_)
  rw [nI_clamp (by omega)] at ev_46
  have ev_46 : v_46 = xs (i + 1) := ev_46
  subst ev_46
  refine lv_aload_n hx hb dL_law_594 rfl (lv_at hl 0 rfl) ?_
  refine lv_iload_n hx hb dL_law_595 rfl (lv_at hl 3 rfl) ?_
  refine lv_iconst (v := 2) hx hb dL_law_596 (by decide) ?_
  refine lv_iadd hx hb dL_law_597 ?_
  refine lv_topi (fun y_47 ey_47 => ?_)
  obtain rfl : y_47 = nI (i + 2) := ey_47.trans (z_iaddn i 2 rfl rfl)
  refine va_sld hx hb hX hbl hbA G.2.2.2.1 (vp_in_nI (by omega) (by omega)) dL_law_598 ?_
  refine lv_topi (fun v_48 ev_48 => ?_)
  rw [nI_clamp (by omega)] at ev_48
  have ev_48 : v_48 = xs (i + 2) := ev_48
  subst ev_48
  refine lv_aload_n hx hb dL_law_599 rfl (lv_at hl 0 rfl) ?_
  refine lv_iload_n hx hb dL_law_600 rfl (lv_at hl 3 rfl) ?_
  refine lv_iconst (v := 3) hx hb dL_law_601 (by decide) ?_
  refine lv_iadd hx hb dL_law_602 ?_
  refine lv_topi (fun y_49 ey_49 => ?_)
  obtain rfl : y_49 = nI (i + 3) := ey_49.trans (z_iaddn i 3 rfl rfl)
  refine va_sld hx hb hX hbl hbA G.2.2.2.1 (vp_in_nI (by omega) (by omega)) dL_law_603 ?_
  refine lv_topi (fun v_50 ev_50 => ?_)
  rw [nI_clamp (by omega)] at ev_50
  have ev_50 : v_50 = xs (i + 3) := ev_50
  subst ev_50
  refine z_Vi (bc := [[(mo, .inr (11, [.ref m_all, .ref m_has, .int i_size, .int i_next, .int i_where, .int i_token, .int i_number, .int i_word, .int i_wrong, .int i_farCrossing, .ref m_read, .int i_z0, .int i_crossings, .int i_inns, .ref m_posts, .ref m_shut, .ref m_here, .int i_steps, .int i_done, .int i_at, .int i_gone, .ref m_was, .ref m_came, .ref m_seenAt, .ref m_rowWorth, .ref m_farBy, .ref m_used, .int i_everywhere, .int i_again0, .int i_d0, .int i_never, .int i_firstCame, .int i_longRun, .int i_moved, .int i_crowd, .int i_l0, .int i_fitMany, .int i_fitLeast, .int i_fitMost, .ref m_fitPost, .ref m_fitEnd, .ref m_keptPosts, .int i_x0]))], [(m_all, .inl (T.2 0, 3952, .inl f_all))], [(m_posts, .inl (T.2 0, 7, .inl f_posts))], [(m_shut, .inl (T.2 0, 7, .inl f_shut))], [(m_here, .inl (T.2 0, 7, .inl f_here))], [(m_was, .inl (T.2 0, 7, .inl f_was))]]) (br := [wd0_, wd1_, wg0_, wg1_, [(rd, .inr (7, [.ref rl, .ref rdd, .ref rg, .int r0, .int r1, .ref tq, .int r2, .int r3, .int r4, .int r5, .int r6, .int r7, .int r8]))], z, wd, wg, wwA, wwB, wff, wc, wcp, wr, wrp, [(cd, .inl (T.2 0, 1000, .inl fcd))], wta, z0_a, z1_a, wd0_a, wd1_a, wg0_a, wg1_a, wtb, z0_b, z1_b, wd0_b, wd1_b, wg0_b, wg1_b, wtc, z0_c, z1_c, wd0_c, wd1_c, wg0_c, wg1_c, [(im, .inl (T.2 6, 3, .inr (.inr (.inr (.inr qi)))))], [(mk, .inl (T.2 2, 3, .inl fmk))], [(m_has, .inl (T.2 2, 3, .inl f_has))], [(m_read, .inl (T.2 0, 121, .inl f_read))], [(m_came, .inl (T.2 0, 7, .inl f_came))], [(m_seenAt, .inl (T.2 0, 16384, .inl f_seenAt))], [(m_rowWorth, .inl (T.2 0, 512, .inl f_rowWorth))], [(m_farBy, .inl (T.2 0, 49, .inl f_farBy))], [(m_used, .inl (T.2 0, 7, .inl f_used))], [(m_fitPost, .inl (T.2 0, 28, .inl f_fitPost))], [(m_fitEnd, .inl (T.2 0, 49, .inl f_fitEnd))], [(m_keptPosts, .inl (T.2 0, 7, .inl f_keptPosts))], [(xo, .inr (10, [.ref t, .ref im, .ref mk, .ref rd, .ref po, .ref co, .ref tr, .ref wa, .ref wb_, .ref fi, .ref cd]))], wt, z0_, z1_, wp_42]) (As := [.int (xs (i + 1)), .int (xs (i + 2)), .int (xs (i + 3))]) (rest := []) C G (c_m_come l T mo m_all m_has i_size i_next i_where i_token i_number i_word i_wrong i_farCrossing m_read i_z0 i_crossings i_inns m_posts m_shut m_here i_steps i_done i_at i_gone m_was m_came m_seenAt m_rowWorth m_farBy m_used i_everywhere i_again0 i_d0 i_never i_firstCame i_longRun i_moved i_crowd i_l0 i_fitMany i_fitLeast i_fitMost m_fitPost m_fitEnd m_keptPosts i_x0 f_all f_posts f_shut f_here f_was (xs (i + 1)) (xs (i + 2)) (xs (i + 3)) (by first | assumption | omega | rfl)) (kV_RL_61 C.2.2.2.2 (Nat.le_of_ble_eq_true rfl) (Nat.le_of_ble_eq_true rfl)) [39, 40, 43, 44, 45, 46] [0, 1, 2, 3, 4, 5, 6, 7, 8, 9, 10, 11, 12, 13, 14, 15, 16, 17, 18, 19, 20, 21, 22, 23, 24, 25, 26, 27, 28, 29, 30, 31, 32, 33, 34, 35, 36, 37, 38, 41, 42, 47, 48, 49, 50, 51, 52, 53, 54, 55, 56, 57, 58, 59] rfl rfl (ci := 11) (qc := (RX12, TX12, 43)) rfl rfl (List.mem_flatten.mpr ⟨_, List.mem_of_getElem? (i := 0) rfl, List.mem_cons_self⟩) rfl rfl hl.1 dL_law_604 (by show _ + 0 ≤ 600000; omega) (by show _ + 0 ≤ 7302250; omega) (fun r_62 b1 H locs hw G => ?_)
  obtain ⟨j_z0_51, j_crossings_52, j_inns_53, j_steps_54, j_done_55, j_at_56, j_gone_57, g_posts_58, g_shut_59, g_here_60, g_was_61, rfl⟩ := hw
  have G : zS T A s.heap s [wd0_, wd1_, wg0_, wg1_, [(rd, .inr (7, [.ref rl, .ref rdd, .ref rg, .int r0, .int r1, .ref tq, .int r2, .int r3, .int r4, .int r5, .int r6, .int r7, .int r8]))], z, wd, wg, wwA, wwB, wff, wc, wcp, wr, wrp, [(cd, .inl (T.2 0, 1000, .inl fcd))], wta, z0_a, z1_a, wd0_a, wd1_a, wg0_a, wg1_a, wtb, z0_b, z1_b, wd0_b, wd1_b, wg0_b, wg1_b, wtc, z0_c, z1_c, wd0_c, wd1_c, wg0_c, wg1_c, [(im, .inl (T.2 6, 3, .inr (.inr (.inr (.inr qi)))))], [(mk, .inl (T.2 2, 3, .inl fmk))], [(m_has, .inl (T.2 2, 3, .inl f_has))], [(m_read, .inl (T.2 0, 121, .inl f_read))], [(m_came, .inl (T.2 0, 7, .inl f_came))], [(m_seenAt, .inl (T.2 0, 16384, .inl f_seenAt))], [(m_rowWorth, .inl (T.2 0, 512, .inl f_rowWorth))], [(m_farBy, .inl (T.2 0, 49, .inl f_farBy))], [(m_used, .inl (T.2 0, 7, .inl f_used))], [(m_fitPost, .inl (T.2 0, 28, .inl f_fitPost))], [(m_fitEnd, .inl (T.2 0, 49, .inl f_fitEnd))], [(m_keptPosts, .inl (T.2 0, 7, .inl f_keptPosts))], [(xo, .inr (10, [.ref t, .ref im, .ref mk, .ref rd, .ref po, .ref co, .ref tr, .ref wa, .ref wb_, .ref fi, .ref cd]))], wt, z0_, z1_, wp_42, [(mo, .inr (11, [.ref m_all, .ref m_has, .int i_size, .int i_next, .int i_where, .int i_token, .int i_number, .int i_word, .int i_wrong, .int i_farCrossing, .ref m_read, .int j_z0_51, .int j_crossings_52, .int j_inns_53, .ref m_posts, .ref m_shut, .ref m_here, .int j_steps_54, .int j_done_55, .int j_at_56, .int j_gone_57, .ref m_was, .ref m_came, .ref m_seenAt, .ref m_rowWorth, .ref m_farBy, .ref m_used, .int i_everywhere, .int i_again0, .int i_d0, .int i_never, .int i_firstCame, .int i_longRun, .int i_moved, .int i_crowd, .int i_l0, .int i_fitMany, .int i_fitLeast, .int i_fitMost, .ref m_fitPost, .ref m_fitEnd, .ref m_keptPosts, .int i_x0]))], [(m_all, .inl (T.2 0, 3952, .inl f_all))], [(m_posts, .inl (T.2 0, 7, .inl g_posts_58))], [(m_shut, .inl (T.2 0, 7, .inl g_shut_59))], [(m_here, .inl (T.2 0, 7, .inl g_here_60))], [(m_was, .inl (T.2 0, 7, .inl g_was_61))]] _ _ := G
  refine lv_pop hx hb dL_law_607 rfl ?_
  refine lv_goto (tgt := 1767) hx hb dL_law_608 (by decide) ?_
  have G := G.sub (bs' := [[(xo, .inr (10, [.ref t, .ref im, .ref mk, .ref rd, .ref po, .ref co, .ref tr, .ref wa, .ref wb_, .ref fi, .ref cd]))], wt, z0_, z1_, wd0_, wd1_, wg0_, wg1_, [(rd, .inr (7, [.ref rl, .ref rdd, .ref rg, .int r0, .int r1, .ref tq, .int r2, .int r3, .int r4, .int r5, .int r6, .int r7, .int r8]))], z, wd, wg, wwA, wwB, wff, wc, wcp, wr, wrp, wp_42, [(cd, .inl (T.2 0, 1000, .inl fcd))], wta, z0_a, z1_a, wd0_a, wd1_a, wg0_a, wg1_a, wtb, z0_b, z1_b, wd0_b, wd1_b, wg0_b, wg1_b, wtc, z0_c, z1_c, wd0_c, wd1_c, wg0_c, wg1_c, [(im, .inl (T.2 6, 3, .inr (.inr (.inr (.inr qi)))))], [(mk, .inl (T.2 2, 3, .inl fmk))], [(mo, .inr (11, [.ref m_all, .ref m_has, .int i_size, .int i_next, .int i_where, .int i_token, .int i_number, .int i_word, .int i_wrong, .int i_farCrossing, .ref m_read, .int j_z0_51, .int j_crossings_52, .int j_inns_53, .ref m_posts, .ref m_shut, .ref m_here, .int j_steps_54, .int j_done_55, .int j_at_56, .int j_gone_57, .ref m_was, .ref m_came, .ref m_seenAt, .ref m_rowWorth, .ref m_farBy, .ref m_used, .int i_everywhere, .int i_again0, .int i_d0, .int i_never, .int i_firstCame, .int i_longRun, .int i_moved, .int i_crowd, .int i_l0, .int i_fitMany, .int i_fitLeast, .int i_fitMost, .ref m_fitPost, .ref m_fitEnd, .ref m_keptPosts, .int i_x0]))], [(m_all, .inl (T.2 0, 3952, .inl f_all))], [(m_has, .inl (T.2 2, 3, .inl f_has))], [(m_read, .inl (T.2 0, 121, .inl f_read))], [(m_posts, .inl (T.2 0, 7, .inl g_posts_58))], [(m_shut, .inl (T.2 0, 7, .inl g_shut_59))], [(m_here, .inl (T.2 0, 7, .inl g_here_60))], [(m_was, .inl (T.2 0, 7, .inl g_was_61))], [(m_came, .inl (T.2 0, 7, .inl f_came))], [(m_seenAt, .inl (T.2 0, 16384, .inl f_seenAt))], [(m_rowWorth, .inl (T.2 0, 512, .inl f_rowWorth))], [(m_farBy, .inl (T.2 0, 49, .inl f_farBy))], [(m_used, .inl (T.2 0, 7, .inl f_used))], [(m_fitPost, .inl (T.2 0, 28, .inl f_fitPost))], [(m_fitEnd, .inl (T.2 0, 49, .inl f_fitEnd))], [(m_keptPosts, .inl (T.2 0, 7, .inl f_keptPosts))]]) [49, 50, 51, 52, 0, 1, 2, 3, 4, 5, 6, 7, 8, 9, 10, 11, 12, 13, 14, 53, 15, 16, 17, 18, 19, 20, 21, 22, 23, 24, 25, 26, 27, 28, 29, 30, 31, 32, 33, 34, 35, 36, 37, 38, 54, 55, 39, 40, 56, 57, 58, 59, 41, 42, 43, 44, 45, 46, 47, 48] rfl
  refine W.widen (k := 216 + 2 * i + 12) (n := 27000 + 6 * (n4A + n4B) + 2 * m1f) (by omega) (by omega) ?_
  exact kk n4A n4B m1f _ ⟨⟨t, im, mk, rd, po, co, tr, wa, wb_, fi, cd, wt, l0, l1, d0, d1, g0, g1, ln, z0_, z1_, wd0_, wd1_, wg0_, wg1_, rl, rdd, rg, r0, r1, tq, r2, r3, r4, r5, r6, r7, r8, z, wd, wg, wwA, mdA, wwB, mdB, wff, e0f, e1f, wc, cpo, wcp, wr, tpo, wrp, wp_42, fcd, m0, wta, l0a, l1a, d0a, d1a, g0a, g1a, lna, z0_a, z1_a, wd0_a, wd1_a, wg0_a, wg1_a, m1, wtb, l0b, l1b, d0b, d1b, g0b, g1b, lnb, z0_b, z1_b, wd0_b, wd1_b, wg0_b, wg1_b, m2, wtc, l0c, l1c, d0c, d1c, g0c, g1c, lnc, z0_c, z1_c, wd0_c, wd1_c, wg0_c, wg1_c, qi, fmk, m_all, m_has, i_size, i_next, i_where, i_token, i_number, i_word, i_wrong, i_farCrossing, m_read, j_z0_51, j_crossings_52, j_inns_53, m_posts, m_shut, m_here, j_steps_54, j_done_55, j_at_56, j_gone_57, m_was, m_came, m_seenAt, m_rowWorth, m_farBy, m_used, i_everywhere, i_again0, i_d0, i_never, i_firstCame, i_longRun, i_moved, i_crowd, i_l0, i_fitMany, i_fitLeast, i_fitMost, m_fitPost, m_fitEnd, m_keptPosts, i_x0, f_all, f_has, f_read, g_posts_58, g_shut_59, g_here_60, g_was_61, f_came, f_seenAt, f_rowWorth, f_farBy, f_used, f_fitPost, f_fitEnd, f_keptPosts⟩, rfl, ⟨v_7, v_8, v_9, v_10, h_11, (by first | assumption | omega)⟩, ⟨v_13, v_14, v_15, v_16, v_17, v_18, h_19, (by first | assumption | omega)⟩, ⟨v_21, v_22, v_23, v_24, v_25, v_26, h_27, (by first | assumption | omega)⟩, H_wd0_, H_wd1_, H_wg0_, H_wg1_, H_z, H_wd, H_wg, H_wwA, H_wwB, H_wff, H_wc, H_wcp, H_wr, H_wrp, ⟨lp_36, f1_37, f2_38, f3_39, st_40, wh_41, h_43⟩, H_wta, H_z0_a, H_z1_a, H_wd0_a, H_wd1_a, H_wg0_a, H_wg1_a, H_wtb, H_z0_b, H_z1_b, H_wd0_b, H_wd1_b, H_wg0_b, H_wg1_b, H_wtc, H_z0_c, H_z1_c, H_wd0_c, H_wd1_c, H_wg0_c, H_wg1_c, (by first | assumption | omega), (by first | assumption | omega), (by first | assumption | omega), (by first | assumption | omega), (by first | assumption | omega), (by first | assumption | omega), (by first | assumption | omega), (by first | assumption | omega)⟩ _ _ ls G (lv_sub hl [0, 1, 2, 3] rfl)
set_option maxHeartbeats 40000000 in
set_option maxRecDepth 100000 in
theorem z_case_period (l : Launch) {p : Program} {e : Env} {s : State} {m : MethodId} {b : Nat} {below : List Frame} {meth : Method} {c : Code} {Q : State → Prop} {T : zTy} {A : Nat → Prop} {L i : Nat} {xs : Nat → Int32} (hx : p.tables.exec = Jvm.exec) (hb : c.code = cL_law) (C : CallFix p m c cL_law 4 s #[Value.ref b] zT RL) (hX : va_X b L xs s s.heap) (hbl : b < s.heap.size) (hbA : ¬ A b) (hL : L ≤ 3072) (hi6 : i + 6 ≤ L) {xo mo n4A n4B m1f : Nat} (hnA : n4A ≤ 131072) (hnB : n4B ≤ 131072) (hmf : m1f ≤ 16384) {bs : List va_W} (hI : zInv T xo mo n4A n4B m1f bs) {H : Heap} {locs : List Loc} {ls : Array Slot} (G : zS T A s.heap s bs H locs) (hl : lv_has ls 4 [(0, .ref b), (1, .ref xo), (2, .ref mo), (3, .int (nI i))]) (kk : ∀ (n1 n2 n3 : Nat) (bs1 : List va_W), zInv T xo mo n1 n2 n3 bs1 → ∀ (H1 : Heap) (locs1 : List Loc) (ls1 : Array Slot), zS T A s.heap s bs1 H1 locs1 → lv_has ls1 4 [(0, .ref b), (1, .ref xo), (2, .ref mo), (3, .int (nI i))] → W p l e room_1 s m #[Value.ref b] below meth c H1 locs1 (216 + 2 * i + 12) (27000 + 6 * (n1 + n2) + 2 * n3) Q (F0 m 1767 ls1 [])) : W p l e room_1 s m #[Value.ref b] below meth c H locs (216 + 2 * i) (27000 + 6 * (n4A + n4B) + 2 * m1f) Q (F0 m 611 ls []) := by
  obtain ⟨⟨t, im, mk, rd, po, co, tr, wa, wb_, fi, cd, wt, l0, l1, d0, d1, g0, g1, ln, z0_, z1_, wd0_, wd1_, wg0_, wg1_, rl, rdd, rg, r0, r1, tq, r2, r3, r4, r5, r6, r7, r8, z, wd, wg, wwA, mdA, wwB, mdB, wff, e0f, e1f, wc, cpo, wcp, wr, tpo, wrp, wp, fcd, m0, wta, l0a, l1a, d0a, d1a, g0a, g1a, lna, z0_a, z1_a, wd0_a, wd1_a, wg0_a, wg1_a, m1, wtb, l0b, l1b, d0b, d1b, g0b, g1b, lnb, z0_b, z1_b, wd0_b, wd1_b, wg0_b, wg1_b, m2, wtc, l0c, l1c, d0c, d1c, g0c, g1c, lnc, z0_c, z1_c, wd0_c, wd1_c, wg0_c, wg1_c, qi, fmk, m_all, m_has, i_size, i_next, i_where, i_token, i_number, i_word, i_wrong, i_farCrossing, m_read, i_z0, i_crossings, i_inns, m_posts, m_shut, m_here, i_steps, i_done, i_at, i_gone, m_was, m_came, m_seenAt, m_rowWorth, m_farBy, m_used, i_everywhere, i_again0, i_d0, i_never, i_firstCame, i_longRun, i_moved, i_crowd, i_l0, i_fitMany, i_fitLeast, i_fitMost, m_fitPost, m_fitEnd, m_keptPosts, i_x0, f_all, f_has, f_read, f_posts, f_shut, f_here, f_was, f_came, f_seenAt, f_rowWorth, f_farBy, f_used, f_fitPost, f_fitEnd, f_keptPosts⟩, rfl, H_wt, H_z0_, H_z1_, H_wd0_, H_wd1_, H_wg0_, H_wg1_, H_z, H_wd, H_wg, H_wwA, H_wwB, H_wff, H_wc, H_wcp, H_wr, H_wrp, H_wp, H_wta, H_z0_a, H_z1_a, H_wd0_a, H_wd1_a, H_wg0_a, H_wg1_a, H_wtb, H_z0_b, H_z1_b, H_wd0_b, H_wd1_b, H_wg0_b, H_wg1_b, H_wtc, H_z0_c, H_z1_c, H_wd0_c, H_wd1_c, H_wg0_c, H_wg1_c, hm0, hm1, hm2, h56, hFI, hAI, hRl, hHs⟩ := hI
  replace H_wt : hTold T t l0 l1 d0 d1 g0 g1 ln wt := H_wt
  replace H_z0_ : hLand T l0 z0_ := H_z0_
  replace H_z1_ : hLand T l1 z1_ := H_z1_
  replace H_wd0_ : hDay T d0 wd0_ := H_wd0_
  replace H_wd1_ : hDay T d1 wd1_ := H_wd1_
  replace H_wg0_ : hLog T g0 wg0_ := H_wg0_
  replace H_wg1_ : hLog T g1 wg1_ := H_wg1_
  replace H_z : hLandR T rl z := H_z
  replace H_wd : hDay T rdd wd := H_wd
  replace H_wg : hLog T rg wg := H_wg
  replace H_wwA : hWays T wa mdA n4A l0 wwA := H_wwA
  replace H_wwB : hWays T wb_ mdB n4B l1 wwB := H_wwB
  replace H_wff : hFit T fi e0f e1f m1f wff := H_wff
  replace H_wc : hCourse T co cpo wc := H_wc
  replace H_wcp : hPosts T cpo wcp := H_wcp
  replace H_wr : hTrail T tr tpo wr := H_wr
  replace H_wrp : hPosts T tpo wrp := H_wrp
  replace H_wp : hPosts T po wp := H_wp
  replace H_wta : hTold T m0 l0a l1a d0a d1a g0a g1a lna wta := H_wta
  replace H_z0_a : hLand T l0a z0_a := H_z0_a
  replace H_z1_a : hLand T l1a z1_a := H_z1_a
  replace H_wd0_a : hDay T d0a wd0_a := H_wd0_a
  replace H_wd1_a : hDay T d1a wd1_a := H_wd1_a
  replace H_wg0_a : hLog T g0a wg0_a := H_wg0_a
  replace H_wg1_a : hLog T g1a wg1_a := H_wg1_a
  replace H_wtb : hTold T m1 l0b l1b d0b d1b g0b g1b lnb wtb := H_wtb
  replace H_z0_b : hLand T l0b z0_b := H_z0_b
  replace H_z1_b : hLand T l1b z1_b := H_z1_b
  replace H_wd0_b : hDay T d0b wd0_b := H_wd0_b
  replace H_wd1_b : hDay T d1b wd1_b := H_wd1_b
  replace H_wg0_b : hLog T g0b wg0_b := H_wg0_b
  replace H_wg1_b : hLog T g1b wg1_b := H_wg1_b
  replace H_wtc : hTold T m2 l0c l1c d0c d1c g0c g1c lnc wtc := H_wtc
  replace H_z0_c : hLand T l0c z0_c := H_z0_c
  replace H_z1_c : hLand T l1c z1_c := H_z1_c
  replace H_wd0_c : hDay T d0c wd0_c := H_wd0_c
  replace H_wd1_c : hDay T d1c wd1_c := H_wd1_c
  replace H_wg0_c : hLog T g0c wg0_c := H_wg0_c
  replace H_wg1_c : hLog T g1c wg1_c := H_wg1_c
  replace hm0 : qi 0 = some m0 := hm0
  replace hm1 : qi 1 = some m1 := hm1
  replace hm2 : qi 2 = some m2 := hm2
  replace h56 : ((0 ≤ r5.toInt ∧ r5.toInt ≤ 600) ∧ 0 ≤ r6.toInt ∧ r6.toInt ≤ 1000) := h56
  replace hFI : (¬ e0f = 0 → e1f.toInt = 0 ∧ ¬ mdA = 0 ∨ e1f.toInt = 1 ∧ ¬ mdB = 0) := hFI
  replace hAI : zAI f_all := hAI
  replace hRl : zRl ln lna lnb lnc f_all := hRl
  replace hHs : zHs fmk f_has := hHs
  replace G : zS T A s.heap s [[(xo, .inr (10, [.ref t, .ref im, .ref mk, .ref rd, .ref po, .ref co, .ref tr, .ref wa, .ref wb_, .ref fi, .ref cd]))], wt, z0_, z1_, wd0_, wd1_, wg0_, wg1_, [(rd, .inr (7, [.ref rl, .ref rdd, .ref rg, .int r0, .int r1, .ref tq, .int r2, .int r3, .int r4, .int r5, .int r6, .int r7, .int r8]))], z, wd, wg, wwA, wwB, wff, wc, wcp, wr, wrp, wp, [(cd, .inl (T.2 0, 1000, .inl fcd))], wta, z0_a, z1_a, wd0_a, wd1_a, wg0_a, wg1_a, wtb, z0_b, z1_b, wd0_b, wd1_b, wg0_b, wg1_b, wtc, z0_c, z1_c, wd0_c, wd1_c, wg0_c, wg1_c, [(im, .inl (T.2 6, 3, .inr (.inr (.inr (.inr qi)))))], [(mk, .inl (T.2 2, 3, .inl fmk))], [(mo, .inr (11, [.ref m_all, .ref m_has, .int i_size, .int i_next, .int i_where, .int i_token, .int i_number, .int i_word, .int i_wrong, .int i_farCrossing, .ref m_read, .int i_z0, .int i_crossings, .int i_inns, .ref m_posts, .ref m_shut, .ref m_here, .int i_steps, .int i_done, .int i_at, .int i_gone, .ref m_was, .ref m_came, .ref m_seenAt, .ref m_rowWorth, .ref m_farBy, .ref m_used, .int i_everywhere, .int i_again0, .int i_d0, .int i_never, .int i_firstCame, .int i_longRun, .int i_moved, .int i_crowd, .int i_l0, .int i_fitMany, .int i_fitLeast, .int i_fitMost, .ref m_fitPost, .ref m_fitEnd, .ref m_keptPosts, .int i_x0]))], [(m_all, .inl (T.2 0, 3952, .inl f_all))], [(m_has, .inl (T.2 2, 3, .inl f_has))], [(m_read, .inl (T.2 0, 121, .inl f_read))], [(m_posts, .inl (T.2 0, 7, .inl f_posts))], [(m_shut, .inl (T.2 0, 7, .inl f_shut))], [(m_here, .inl (T.2 0, 7, .inl f_here))], [(m_was, .inl (T.2 0, 7, .inl f_was))], [(m_came, .inl (T.2 0, 7, .inl f_came))], [(m_seenAt, .inl (T.2 0, 16384, .inl f_seenAt))], [(m_rowWorth, .inl (T.2 0, 512, .inl f_rowWorth))], [(m_farBy, .inl (T.2 0, 49, .inl f_farBy))], [(m_used, .inl (T.2 0, 7, .inl f_used))], [(m_fitPost, .inl (T.2 0, 28, .inl f_fitPost))], [(m_fitEnd, .inl (T.2 0, 49, .inl f_fitEnd))], [(m_keptPosts, .inl (T.2 0, 7, .inl f_keptPosts))]] H locs := G
  have hB := zAI_0 hAI
  have hB4 := hB.1
  obtain ⟨hln, hlna, hlnb, hlnc⟩ := zRl_in hAI hRl
  refine lv_aload_n hx hb dL_law_611 rfl (lv_at hl 1 rfl) ?_
  refine lv_aload_n hx hb dL_law_612 rfl (lv_at hl 0 rfl) ?_
  refine lv_iload_n hx hb dL_law_613 rfl (lv_at hl 3 rfl) ?_
  refine lv_iconst (v := 1) hx hb dL_law_614 (by decide) ?_
  refine lv_iadd hx hb dL_law_615 ?_
  refine lv_topi (fun y_1 ey_1 => ?_)
  obtain rfl : y_1 = nI (i + 1) := ey_1.trans (z_iaddn i 1 rfl rfl)
  refine va_sld hx hb hX hbl hbA G.2.2.2.1 (vp_in_nI (by omega) (by omega)) dL_law_616 ?_
  refine lv_topi (fun v_2 ev_2 => ?_)
  rw [nI_clamp (by omega)] at ev_2
  have ev_2 : v_2 = xs (i + 1) := ev_2
  subst ev_2
  refine lv_aload_n hx hb dL_law_617 rfl (lv_at hl 0 rfl) ?_
  refine lv_iload_n hx hb dL_law_618 rfl (lv_at hl 3 rfl) ?_
  refine lv_iconst (v := 2) hx hb dL_law_619 (by decide) ?_
  refine lv_iadd hx hb dL_law_620 ?_
  refine lv_topi (fun y_3 ey_3 => ?_)
  obtain rfl : y_3 = nI (i + 2) := ey_3.trans (z_iaddn i 2 rfl rfl)
  refine va_sld hx hb hX hbl hbA G.2.2.2.1 (vp_in_nI (by omega) (by omega)) dL_law_621 ?_
  refine lv_topi (fun v_4 ev_4 => ?_)
  rw [nI_clamp (by omega)] at ev_4
  have ev_4 : v_4 = xs (i + 2) := ev_4
  subst ev_4
  refine lv_aload_n hx hb dL_law_622 rfl (lv_at hl 0 rfl) ?_
  refine lv_iload_n hx hb dL_law_623 rfl (lv_at hl 3 rfl) ?_
  refine lv_iconst (v := 3) hx hb dL_law_624 (by decide) ?_
  refine lv_iadd hx hb dL_law_625 ?_
  refine lv_topi (fun y_5 ey_5 => ?_)
  obtain rfl : y_5 = nI (i + 3) := ey_5.trans (z_iaddn i 3 rfl rfl)
  refine va_sld hx hb hX hbl hbA G.2.2.2.1 (vp_in_nI (by omega) (by omega)) dL_law_626 ?_
  refine lv_topi (fun v_6 ev_6 => ?_)
  rw [nI_clamp (by omega)] at ev_6
  have ev_6 : v_6 = xs (i + 3) := ev_6
  subst ev_6
  refine lv_if_eq (tgt := 634) hx hb dL_law_627 (by decide) (fun c_7 => ?_) (fun c_7 => ?_)
  · have c_7n : (xs (i + 3)).toInt = (0 : Int) := (fa_eq _ _).mp c_7
    refine lv_iconst (v := 0) hx hb dL_law_634 (by decide) ?_
    obtain ⟨v_8, v_9, v_10, v_11, h_12, h_13⟩ := H_wt
    have h_13 : zKT v_11 := h_13
    obtain ⟨v_14, v_15, v_16, v_17, v_18, v_19, h_20, h_21⟩ := H_z0_
    have h_21 : zLI v_14 v_16 v_18 := h_21
    obtain ⟨v_22, v_23, v_24, v_25, v_26, v_27, h_28, h_29⟩ := H_z1_
    have h_29 : zLI v_22 v_24 v_26 := h_29
    obtain ⟨v_30, v_31, v_32, v_33, v_34, v_35, h_36⟩ := H_wp
    refine z_Vi (bc := [[(xo, .inr (10, [.ref t, .ref im, .ref mk, .ref rd, .ref po, .ref co, .ref tr, .ref wa, .ref wb_, .ref fi, .ref cd]))], wt, z0_, z1_, wp, [(cd, .inl (T.2 0, 1000, .inl fcd))]]) (br := [wd0_, wd1_, wg0_, wg1_, [(rd, .inr (7, [.ref rl, .ref rdd, .ref rg, .int r0, .int r1, .ref tq, .int r2, .int r3, .int r4, .int r5, .int r6, .int r7, .int r8]))], z, wd, wg, wwA, wwB, wff, wc, wcp, wr, wrp, wta, z0_a, z1_a, wd0_a, wd1_a, wg0_a, wg1_a, wtb, z0_b, z1_b, wd0_b, wd1_b, wg0_b, wg1_b, wtc, z0_c, z1_c, wd0_c, wd1_c, wg0_c, wg1_c, [(im, .inl (T.2 6, 3, .inr (.inr (.inr (.inr qi)))))], [(mk, .inl (T.2 2, 3, .inl fmk))], [(mo, .inr (11, [.ref m_all, .ref m_has, .int i_size, .int i_next, .int i_where, .int i_token, .int i_number, .int i_word, .int i_wrong, .int i_farCrossing, .ref m_read, .int i_z0, .int i_crossings, .int i_inns, .ref m_posts, .ref m_shut, .ref m_here, .int i_steps, .int i_done, .int i_at, .int i_gone, .ref m_was, .ref m_came, .ref m_seenAt, .ref m_rowWorth, .ref m_farBy, .ref m_used, .int i_everywhere, .int i_again0, .int i_d0, .int i_never, .int i_firstCame, .int i_longRun, .int i_moved, .int i_crowd, .int i_l0, .int i_fitMany, .int i_fitLeast, .int i_fitMost, .ref m_fitPost, .ref m_fitEnd, .ref m_keptPosts, .int i_x0]))], [(m_all, .inl (T.2 0, 3952, .inl f_all))], [(m_has, .inl (T.2 2, 3, .inl f_has))], [(m_read, .inl (T.2 0, 121, .inl f_read))], [(m_posts, .inl (T.2 0, 7, .inl f_posts))], [(m_shut, .inl (T.2 0, 7, .inl f_shut))], [(m_here, .inl (T.2 0, 7, .inl f_here))], [(m_was, .inl (T.2 0, 7, .inl f_was))], [(m_came, .inl (T.2 0, 7, .inl f_came))], [(m_seenAt, .inl (T.2 0, 16384, .inl f_seenAt))], [(m_rowWorth, .inl (T.2 0, 512, .inl f_rowWorth))], [(m_farBy, .inl (T.2 0, 49, .inl f_farBy))], [(m_used, .inl (T.2 0, 7, .inl f_used))], [(m_fitPost, .inl (T.2 0, 28, .inl f_fitPost))], [(m_fitEnd, .inl (T.2 0, 49, .inl f_fitEnd))], [(m_keptPosts, .inl (T.2 0, 7, .inl f_keptPosts))]]) (As := [.int (xs (i + 1)), .int (xs (i + 2)), .int 0]) (rest := []) C G (c_period l T xo t im mk rd po co tr wa wb_ fi cd l0 l1 d0 d1 g0 g1 ln v_8 v_9 v_10 v_11 wt v_14 v_15 v_16 v_17 v_18 v_19 z0_ v_22 v_23 v_24 v_25 v_26 v_27 z1_ v_30 v_31 v_32 v_33 v_34 v_35 wp fcd (xs (i + 1)) (xs (i + 2)) 0 h_12 (by first | assumption | omega | rfl) h_20 (by first | assumption | omega | rfl) h_28 (by first | assumption | omega | rfl) h_36) (kV_RL_62 C.2.2.2.2 (Nat.le_of_ble_eq_true rfl) (Nat.le_of_ble_eq_true rfl)) [0, 1, 2, 3, 19, 20] [4, 5, 6, 7, 8, 9, 10, 11, 12, 13, 14, 15, 16, 17, 18, 21, 22, 23, 24, 25, 26, 27, 28, 29, 30, 31, 32, 33, 34, 35, 36, 37, 38, 39, 40, 41, 42, 43, 44, 45, 46, 47, 48, 49, 50, 51, 52, 53, 54, 55, 56, 57, 58, 59] rfl rfl (ci := 10) (qc := (RX11, TX11, 11)) rfl rfl (List.mem_flatten.mpr ⟨_, List.mem_of_getElem? (i := 0) rfl, List.mem_cons_self⟩) rfl rfl hl.1 dL_law_635 (by show _ + 0 ≤ 600000; omega) (by show _ + 0 ≤ 7302250; omega) (fun r_46 b1 H locs hw G => ?_)
    obtain ⟨lp_37, f1_38, f2_39, f3_40, st_41, wh_42, wp_43, fcd_44, rfl, h_45⟩ := hw
    have G : zS T A s.heap s [wd0_, wd1_, wg0_, wg1_, [(rd, .inr (7, [.ref rl, .ref rdd, .ref rg, .int r0, .int r1, .ref tq, .int r2, .int r3, .int r4, .int r5, .int r6, .int r7, .int r8]))], z, wd, wg, wwA, wwB, wff, wc, wcp, wr, wrp, wta, z0_a, z1_a, wd0_a, wd1_a, wg0_a, wg1_a, wtb, z0_b, z1_b, wd0_b, wd1_b, wg0_b, wg1_b, wtc, z0_c, z1_c, wd0_c, wd1_c, wg0_c, wg1_c, [(im, .inl (T.2 6, 3, .inr (.inr (.inr (.inr qi)))))], [(mk, .inl (T.2 2, 3, .inl fmk))], [(mo, .inr (11, [.ref m_all, .ref m_has, .int i_size, .int i_next, .int i_where, .int i_token, .int i_number, .int i_word, .int i_wrong, .int i_farCrossing, .ref m_read, .int i_z0, .int i_crossings, .int i_inns, .ref m_posts, .ref m_shut, .ref m_here, .int i_steps, .int i_done, .int i_at, .int i_gone, .ref m_was, .ref m_came, .ref m_seenAt, .ref m_rowWorth, .ref m_farBy, .ref m_used, .int i_everywhere, .int i_again0, .int i_d0, .int i_never, .int i_firstCame, .int i_longRun, .int i_moved, .int i_crowd, .int i_l0, .int i_fitMany, .int i_fitLeast, .int i_fitMost, .ref m_fitPost, .ref m_fitEnd, .ref m_keptPosts, .int i_x0]))], [(m_all, .inl (T.2 0, 3952, .inl f_all))], [(m_has, .inl (T.2 2, 3, .inl f_has))], [(m_read, .inl (T.2 0, 121, .inl f_read))], [(m_posts, .inl (T.2 0, 7, .inl f_posts))], [(m_shut, .inl (T.2 0, 7, .inl f_shut))], [(m_here, .inl (T.2 0, 7, .inl f_here))], [(m_was, .inl (T.2 0, 7, .inl f_was))], [(m_came, .inl (T.2 0, 7, .inl f_came))], [(m_seenAt, .inl (T.2 0, 16384, .inl f_seenAt))], [(m_rowWorth, .inl (T.2 0, 512, .inl f_rowWorth))], [(m_farBy, .inl (T.2 0, 49, .inl f_farBy))], [(m_used, .inl (T.2 0, 7, .inl f_used))], [(m_fitPost, .inl (T.2 0, 28, .inl f_fitPost))], [(m_fitEnd, .inl (T.2 0, 49, .inl f_fitEnd))], [(m_keptPosts, .inl (T.2 0, 7, .inl f_keptPosts))], [(xo, .inr (10, [.ref t, .ref im, .ref mk, .ref rd, .ref po, .ref co, .ref tr, .ref wa, .ref wb_, .ref fi, .ref cd]))], wt, z0_, z1_, wp_43, [(cd, .inl (T.2 0, 1000, .inl fcd_44))]] _ _ := G
    refine lv_pop hx hb dL_law_638 rfl ?_
    refine lv_aload_n hx hb dL_law_639 rfl (lv_at hl 2 rfl) ?_
    refine lv_aload_n hx hb dL_law_640 rfl (lv_at hl 0 rfl) ?_
    refine lv_iload_n hx hb dL_law_641 rfl (lv_at hl 3 rfl) ?_
    refine lv_iconst (v := 1) hx hb dL_law_642 (by decide) ?_
    refine lv_iadd hx hb dL_law_643 ?_
    refine lv_topi (fun y_47 ey_47 => ?_)
    obtain rfl : y_47 = nI (i + 1) := ey_47.trans (z_iaddn i 1 rfl rfl)
    refine va_sld hx hb hX hbl hbA G.2.2.2.1 (vp_in_nI (by omega) (by omega)) dL_law_644 ?_
    refine lv_topi (fun v_48 ev_48 => ?_)
    rw [nI_clamp (by omega)] at ev_48
    have ev_48 : v_48 = xs (i + 1) := ev_48
    subst ev_48
    refine lv_aload_n hx hb dL_law_645 rfl (lv_at hl 0 rfl) ?_
    refine lv_iload_n hx hb dL_law_646 rfl (lv_at hl 3 rfl) ?_
    refine lv_iconst (v := 2) hx hb dL_law_647 (by decide) ?_
    refine lv_iadd hx hb dL_law_648 ?_
    refine lv_topi (fun y_49 ey_49 => ?_)
    obtain rfl : y_49 = nI (i + 2) := ey_49.trans (z_iaddn i 2 rfl rfl)
    refine va_sld hx hb hX hbl hbA G.2.2.2.1 (vp_in_nI (by omega) (by omega)) dL_law_649 ?_
    refine lv_topi (fun v_50 ev_50 => ?_)
    rw [nI_clamp (by omega)] at ev_50
    have ev_50 : v_50 = xs (i + 2) := ev_50
    subst ev_50
    refine lv_aload_n hx hb dL_law_650 rfl (lv_at hl 0 rfl) ?_
    refine lv_iload_n hx hb dL_law_651 rfl (lv_at hl 3 rfl) ?_
    refine lv_iconst (v := 3) hx hb dL_law_652 (by decide) ?_
    refine lv_iadd hx hb dL_law_653 ?_
    refine lv_topi (fun y_51 ey_51 => ?_)
    obtain rfl : y_51 = nI (i + 3) := ey_51.trans (z_iaddn i 3 rfl rfl)
    refine va_sld hx hb hX hbl hbA G.2.2.2.1 (vp_in_nI (by omega) (by omega)) dL_law_654 ?_
    refine lv_topi (fun v_52 ev_52 => ?_)
    rw [nI_clamp (by omega)] at ev_52
    have ev_52 : v_52 = xs (i + 3) := ev_52
    subst ev_52
    refine lv_if_eq (tgt := 662) hx hb dL_law_655 (by decide) (fun _ => ?_) (fun q => absurd c_7 q)
    refine lv_iconst (v := 0) hx hb dL_law_662 (by decide) ?_
    refine z_Vi (bc := [[(mo, .inr (11, [.ref m_all, .ref m_has, .int i_size, .int i_next, .int i_where, .int i_token, .int i_number, .int i_word, .int i_wrong, .int i_farCrossing, .ref m_read, .int i_z0, .int i_crossings, .int i_inns, .ref m_posts, .ref m_shut, .ref m_here, .int i_steps, .int i_done, .int i_at, .int i_gone, .ref m_was, .ref m_came, .ref m_seenAt, .ref m_rowWorth, .ref m_farBy, .ref m_used, .int i_everywhere, .int i_again0, .int i_d0, .int i_never, .int i_firstCame, .int i_longRun, .int i_moved, .int i_crowd, .int i_l0, .int i_fitMany, .int i_fitLeast, .int i_fitMost, .ref m_fitPost, .ref m_fitEnd, .ref m_keptPosts, .int i_x0]))], [(m_all, .inl (T.2 0, 3952, .inl f_all))], [(m_posts, .inl (T.2 0, 7, .inl f_posts))], [(m_shut, .inl (T.2 0, 7, .inl f_shut))], [(m_here, .inl (T.2 0, 7, .inl f_here))], [(m_was, .inl (T.2 0, 7, .inl f_was))], [(m_seenAt, .inl (T.2 0, 16384, .inl f_seenAt))]]) (br := [wd0_, wd1_, wg0_, wg1_, [(rd, .inr (7, [.ref rl, .ref rdd, .ref rg, .int r0, .int r1, .ref tq, .int r2, .int r3, .int r4, .int r5, .int r6, .int r7, .int r8]))], z, wd, wg, wwA, wwB, wff, wc, wcp, wr, wrp, wta, z0_a, z1_a, wd0_a, wd1_a, wg0_a, wg1_a, wtb, z0_b, z1_b, wd0_b, wd1_b, wg0_b, wg1_b, wtc, z0_c, z1_c, wd0_c, wd1_c, wg0_c, wg1_c, [(im, .inl (T.2 6, 3, .inr (.inr (.inr (.inr qi)))))], [(mk, .inl (T.2 2, 3, .inl fmk))], [(m_has, .inl (T.2 2, 3, .inl f_has))], [(m_read, .inl (T.2 0, 121, .inl f_read))], [(m_came, .inl (T.2 0, 7, .inl f_came))], [(m_rowWorth, .inl (T.2 0, 512, .inl f_rowWorth))], [(m_farBy, .inl (T.2 0, 49, .inl f_farBy))], [(m_used, .inl (T.2 0, 7, .inl f_used))], [(m_fitPost, .inl (T.2 0, 28, .inl f_fitPost))], [(m_fitEnd, .inl (T.2 0, 49, .inl f_fitEnd))], [(m_keptPosts, .inl (T.2 0, 7, .inl f_keptPosts))], [(xo, .inr (10, [.ref t, .ref im, .ref mk, .ref rd, .ref po, .ref co, .ref tr, .ref wa, .ref wb_, .ref fi, .ref cd]))], wt, z0_, z1_, wp_43, [(cd, .inl (T.2 0, 1000, .inl fcd_44))]]) (As := [.int (xs (i + 1)), .int (xs (i + 2)), .int 0]) (rest := []) C G (c_m_period l T mo m_all m_has i_size i_next i_where i_token i_number i_word i_wrong i_farCrossing m_read i_z0 i_crossings i_inns m_posts m_shut m_here i_steps i_done i_at i_gone m_was m_came m_seenAt m_rowWorth m_farBy m_used i_everywhere i_again0 i_d0 i_never i_firstCame i_longRun i_moved i_crowd i_l0 i_fitMany i_fitLeast i_fitMost m_fitPost m_fitEnd m_keptPosts i_x0 f_all f_posts f_shut f_here f_was f_seenAt (xs (i + 1)) (xs (i + 2)) 0 (by first | assumption | omega | rfl)) (kV_RL_66 C.2.2.2.2 (Nat.le_of_ble_eq_true rfl) (Nat.le_of_ble_eq_true rfl)) [38, 39, 42, 43, 44, 45, 47] [0, 1, 2, 3, 4, 5, 6, 7, 8, 9, 10, 11, 12, 13, 14, 15, 16, 17, 18, 19, 20, 21, 22, 23, 24, 25, 26, 27, 28, 29, 30, 31, 32, 33, 34, 35, 36, 37, 40, 41, 46, 48, 49, 50, 51, 52, 53, 54, 55, 56, 57, 58, 59] rfl rfl (ci := 11) (qc := (RX12, TX12, 43)) rfl rfl (List.mem_flatten.mpr ⟨_, List.mem_of_getElem? (i := 0) rfl, List.mem_cons_self⟩) rfl rfl hl.1 dL_law_663 (by show _ + 0 ≤ 600000; omega) (by show _ + 0 ≤ 7302250; omega) (fun r_65 b1 H locs hw G => ?_)
    obtain ⟨j_z0_53, j_crossings_54, j_inns_55, j_steps_56, j_done_57, j_at_58, j_gone_59, g_posts_60, g_shut_61, g_here_62, g_was_63, g_seenAt_64, rfl⟩ := hw
    have G : zS T A s.heap s [wd0_, wd1_, wg0_, wg1_, [(rd, .inr (7, [.ref rl, .ref rdd, .ref rg, .int r0, .int r1, .ref tq, .int r2, .int r3, .int r4, .int r5, .int r6, .int r7, .int r8]))], z, wd, wg, wwA, wwB, wff, wc, wcp, wr, wrp, wta, z0_a, z1_a, wd0_a, wd1_a, wg0_a, wg1_a, wtb, z0_b, z1_b, wd0_b, wd1_b, wg0_b, wg1_b, wtc, z0_c, z1_c, wd0_c, wd1_c, wg0_c, wg1_c, [(im, .inl (T.2 6, 3, .inr (.inr (.inr (.inr qi)))))], [(mk, .inl (T.2 2, 3, .inl fmk))], [(m_has, .inl (T.2 2, 3, .inl f_has))], [(m_read, .inl (T.2 0, 121, .inl f_read))], [(m_came, .inl (T.2 0, 7, .inl f_came))], [(m_rowWorth, .inl (T.2 0, 512, .inl f_rowWorth))], [(m_farBy, .inl (T.2 0, 49, .inl f_farBy))], [(m_used, .inl (T.2 0, 7, .inl f_used))], [(m_fitPost, .inl (T.2 0, 28, .inl f_fitPost))], [(m_fitEnd, .inl (T.2 0, 49, .inl f_fitEnd))], [(m_keptPosts, .inl (T.2 0, 7, .inl f_keptPosts))], [(xo, .inr (10, [.ref t, .ref im, .ref mk, .ref rd, .ref po, .ref co, .ref tr, .ref wa, .ref wb_, .ref fi, .ref cd]))], wt, z0_, z1_, wp_43, [(cd, .inl (T.2 0, 1000, .inl fcd_44))], [(mo, .inr (11, [.ref m_all, .ref m_has, .int i_size, .int i_next, .int i_where, .int i_token, .int i_number, .int i_word, .int i_wrong, .int i_farCrossing, .ref m_read, .int j_z0_53, .int j_crossings_54, .int j_inns_55, .ref m_posts, .ref m_shut, .ref m_here, .int j_steps_56, .int j_done_57, .int j_at_58, .int j_gone_59, .ref m_was, .ref m_came, .ref m_seenAt, .ref m_rowWorth, .ref m_farBy, .ref m_used, .int i_everywhere, .int i_again0, .int i_d0, .int i_never, .int i_firstCame, .int i_longRun, .int i_moved, .int i_crowd, .int i_l0, .int i_fitMany, .int i_fitLeast, .int i_fitMost, .ref m_fitPost, .ref m_fitEnd, .ref m_keptPosts, .int i_x0]))], [(m_all, .inl (T.2 0, 3952, .inl f_all))], [(m_posts, .inl (T.2 0, 7, .inl g_posts_60))], [(m_shut, .inl (T.2 0, 7, .inl g_shut_61))], [(m_here, .inl (T.2 0, 7, .inl g_here_62))], [(m_was, .inl (T.2 0, 7, .inl g_was_63))], [(m_seenAt, .inl (T.2 0, 16384, .inl g_seenAt_64))]] _ _ := G
    refine lv_pop hx hb dL_law_666 rfl ?_
    refine lv_goto (tgt := 1767) hx hb dL_law_667 (by decide) ?_
    have G := G.sub (bs' := [[(xo, .inr (10, [.ref t, .ref im, .ref mk, .ref rd, .ref po, .ref co, .ref tr, .ref wa, .ref wb_, .ref fi, .ref cd]))], wt, z0_, z1_, wd0_, wd1_, wg0_, wg1_, [(rd, .inr (7, [.ref rl, .ref rdd, .ref rg, .int r0, .int r1, .ref tq, .int r2, .int r3, .int r4, .int r5, .int r6, .int r7, .int r8]))], z, wd, wg, wwA, wwB, wff, wc, wcp, wr, wrp, wp_43, [(cd, .inl (T.2 0, 1000, .inl fcd_44))], wta, z0_a, z1_a, wd0_a, wd1_a, wg0_a, wg1_a, wtb, z0_b, z1_b, wd0_b, wd1_b, wg0_b, wg1_b, wtc, z0_c, z1_c, wd0_c, wd1_c, wg0_c, wg1_c, [(im, .inl (T.2 6, 3, .inr (.inr (.inr (.inr qi)))))], [(mk, .inl (T.2 2, 3, .inl fmk))], [(mo, .inr (11, [.ref m_all, .ref m_has, .int i_size, .int i_next, .int i_where, .int i_token, .int i_number, .int i_word, .int i_wrong, .int i_farCrossing, .ref m_read, .int j_z0_53, .int j_crossings_54, .int j_inns_55, .ref m_posts, .ref m_shut, .ref m_here, .int j_steps_56, .int j_done_57, .int j_at_58, .int j_gone_59, .ref m_was, .ref m_came, .ref m_seenAt, .ref m_rowWorth, .ref m_farBy, .ref m_used, .int i_everywhere, .int i_again0, .int i_d0, .int i_never, .int i_firstCame, .int i_longRun, .int i_moved, .int i_crowd, .int i_l0, .int i_fitMany, .int i_fitLeast, .int i_fitMost, .ref m_fitPost, .ref m_fitEnd, .ref m_keptPosts, .int i_x0]))], [(m_all, .inl (T.2 0, 3952, .inl f_all))], [(m_has, .inl (T.2 2, 3, .inl f_has))], [(m_read, .inl (T.2 0, 121, .inl f_read))], [(m_posts, .inl (T.2 0, 7, .inl g_posts_60))], [(m_shut, .inl (T.2 0, 7, .inl g_shut_61))], [(m_here, .inl (T.2 0, 7, .inl g_here_62))], [(m_was, .inl (T.2 0, 7, .inl g_was_63))], [(m_came, .inl (T.2 0, 7, .inl f_came))], [(m_seenAt, .inl (T.2 0, 16384, .inl g_seenAt_64))], [(m_rowWorth, .inl (T.2 0, 512, .inl f_rowWorth))], [(m_farBy, .inl (T.2 0, 49, .inl f_farBy))], [(m_used, .inl (T.2 0, 7, .inl f_used))], [(m_fitPost, .inl (T.2 0, 28, .inl f_fitPost))], [(m_fitEnd, .inl (T.2 0, 49, .inl f_fitEnd))], [(m_keptPosts, .inl (T.2 0, 7, .inl f_keptPosts))]]) [47, 48, 49, 50, 0, 1, 2, 3, 4, 5, 6, 7, 8, 9, 10, 11, 12, 13, 14, 51, 52, 15, 16, 17, 18, 19, 20, 21, 22, 23, 24, 25, 26, 27, 28, 29, 30, 31, 32, 33, 34, 35, 36, 37, 53, 54, 38, 39, 55, 56, 57, 58, 40, 59, 41, 42, 43, 44, 45, 46] rfl
    refine W.widen (k := 216 + 2 * i + 12) (n := 27000 + 6 * (n4A + n4B) + 2 * m1f) (by omega) (by omega) ?_
    exact kk n4A n4B m1f _ ⟨⟨t, im, mk, rd, po, co, tr, wa, wb_, fi, cd, wt, l0, l1, d0, d1, g0, g1, ln, z0_, z1_, wd0_, wd1_, wg0_, wg1_, rl, rdd, rg, r0, r1, tq, r2, r3, r4, r5, r6, r7, r8, z, wd, wg, wwA, mdA, wwB, mdB, wff, e0f, e1f, wc, cpo, wcp, wr, tpo, wrp, wp_43, fcd_44, m0, wta, l0a, l1a, d0a, d1a, g0a, g1a, lna, z0_a, z1_a, wd0_a, wd1_a, wg0_a, wg1_a, m1, wtb, l0b, l1b, d0b, d1b, g0b, g1b, lnb, z0_b, z1_b, wd0_b, wd1_b, wg0_b, wg1_b, m2, wtc, l0c, l1c, d0c, d1c, g0c, g1c, lnc, z0_c, z1_c, wd0_c, wd1_c, wg0_c, wg1_c, qi, fmk, m_all, m_has, i_size, i_next, i_where, i_token, i_number, i_word, i_wrong, i_farCrossing, m_read, j_z0_53, j_crossings_54, j_inns_55, m_posts, m_shut, m_here, j_steps_56, j_done_57, j_at_58, j_gone_59, m_was, m_came, m_seenAt, m_rowWorth, m_farBy, m_used, i_everywhere, i_again0, i_d0, i_never, i_firstCame, i_longRun, i_moved, i_crowd, i_l0, i_fitMany, i_fitLeast, i_fitMost, m_fitPost, m_fitEnd, m_keptPosts, i_x0, f_all, f_has, f_read, g_posts_60, g_shut_61, g_here_62, g_was_63, f_came, g_seenAt_64, f_rowWorth, f_farBy, f_used, f_fitPost, f_fitEnd, f_keptPosts⟩, rfl, ⟨v_8, v_9, v_10, v_11, h_12, (by first | assumption | omega)⟩, ⟨v_14, v_15, v_16, v_17, v_18, v_19, h_20, (by first | assumption | omega)⟩, ⟨v_22, v_23, v_24, v_25, v_26, v_27, h_28, (by first | assumption | omega)⟩, H_wd0_, H_wd1_, H_wg0_, H_wg1_, H_z, H_wd, H_wg, H_wwA, H_wwB, H_wff, H_wc, H_wcp, H_wr, H_wrp, ⟨lp_37, f1_38, f2_39, f3_40, st_41, wh_42, h_45⟩, H_wta, H_z0_a, H_z1_a, H_wd0_a, H_wd1_a, H_wg0_a, H_wg1_a, H_wtb, H_z0_b, H_z1_b, H_wd0_b, H_wd1_b, H_wg0_b, H_wg1_b, H_wtc, H_z0_c, H_z1_c, H_wd0_c, H_wd1_c, H_wg0_c, H_wg1_c, (by first | assumption | omega), (by first | assumption | omega), (by first | assumption | omega), (by first | assumption | omega), (by first | assumption | omega), (by first | assumption | omega), (by first | assumption | omega), (by first | assumption | omega)⟩ _ _ ls G (lv_sub hl [0, 1, 2, 3] rfl)
  · have c_7n : ¬ (xs (i + 3)).toInt = (0 : Int) := fun q => c_7 ((fa_eq _ _).mpr q)
    refine lv_iconst (v := 1) hx hb dL_law_630 (by decide) ?_
    refine lv_goto (tgt := 635) hx hb dL_law_631 (by decide) ?_
    obtain ⟨v_66, v_67, v_68, v_69, h_70, h_71⟩ := H_wt
    have h_71 : zKT v_69 := h_71
    obtain ⟨v_72, v_73, v_74, v_75, v_76, v_77, h_78, h_79⟩ := H_z0_
    have h_79 : zLI v_72 v_74 v_76 := h_79
    obtain ⟨v_80, v_81, v_82, v_83, v_84, v_85, h_86, h_87⟩ := H_z1_
    have h_87 : zLI v_80 v_82 v_84 := h_87
    obtain ⟨v_88, v_89, v_90, v_91, v_92, v_93, h_94⟩ := H_wp
    refine z_Vi (bc := [[(xo, .inr (10, [.ref t, .ref im, .ref mk, .ref rd, .ref po, .ref co, .ref tr, .ref wa, .ref wb_, .ref fi, .ref cd]))], wt, z0_, z1_, wp, [(cd, .inl (T.2 0, 1000, .inl fcd))]]) (br := [wd0_, wd1_, wg0_, wg1_, [(rd, .inr (7, [.ref rl, .ref rdd, .ref rg, .int r0, .int r1, .ref tq, .int r2, .int r3, .int r4, .int r5, .int r6, .int r7, .int r8]))], z, wd, wg, wwA, wwB, wff, wc, wcp, wr, wrp, wta, z0_a, z1_a, wd0_a, wd1_a, wg0_a, wg1_a, wtb, z0_b, z1_b, wd0_b, wd1_b, wg0_b, wg1_b, wtc, z0_c, z1_c, wd0_c, wd1_c, wg0_c, wg1_c, [(im, .inl (T.2 6, 3, .inr (.inr (.inr (.inr qi)))))], [(mk, .inl (T.2 2, 3, .inl fmk))], [(mo, .inr (11, [.ref m_all, .ref m_has, .int i_size, .int i_next, .int i_where, .int i_token, .int i_number, .int i_word, .int i_wrong, .int i_farCrossing, .ref m_read, .int i_z0, .int i_crossings, .int i_inns, .ref m_posts, .ref m_shut, .ref m_here, .int i_steps, .int i_done, .int i_at, .int i_gone, .ref m_was, .ref m_came, .ref m_seenAt, .ref m_rowWorth, .ref m_farBy, .ref m_used, .int i_everywhere, .int i_again0, .int i_d0, .int i_never, .int i_firstCame, .int i_longRun, .int i_moved, .int i_crowd, .int i_l0, .int i_fitMany, .int i_fitLeast, .int i_fitMost, .ref m_fitPost, .ref m_fitEnd, .ref m_keptPosts, .int i_x0]))], [(m_all, .inl (T.2 0, 3952, .inl f_all))], [(m_has, .inl (T.2 2, 3, .inl f_has))], [(m_read, .inl (T.2 0, 121, .inl f_read))], [(m_posts, .inl (T.2 0, 7, .inl f_posts))], [(m_shut, .inl (T.2 0, 7, .inl f_shut))], [(m_here, .inl (T.2 0, 7, .inl f_here))], [(m_was, .inl (T.2 0, 7, .inl f_was))], [(m_came, .inl (T.2 0, 7, .inl f_came))], [(m_seenAt, .inl (T.2 0, 16384, .inl f_seenAt))], [(m_rowWorth, .inl (T.2 0, 512, .inl f_rowWorth))], [(m_farBy, .inl (T.2 0, 49, .inl f_farBy))], [(m_used, .inl (T.2 0, 7, .inl f_used))], [(m_fitPost, .inl (T.2 0, 28, .inl f_fitPost))], [(m_fitEnd, .inl (T.2 0, 49, .inl f_fitEnd))], [(m_keptPosts, .inl (T.2 0, 7, .inl f_keptPosts))]]) (As := [.int (xs (i + 1)), .int (xs (i + 2)), .int 1]) (rest := []) C G (c_period l T xo t im mk rd po co tr wa wb_ fi cd l0 l1 d0 d1 g0 g1 ln v_66 v_67 v_68 v_69 wt v_72 v_73 v_74 v_75 v_76 v_77 z0_ v_80 v_81 v_82 v_83 v_84 v_85 z1_ v_88 v_89 v_90 v_91 v_92 v_93 wp fcd (xs (i + 1)) (xs (i + 2)) 1 h_70 (by first | assumption | omega | rfl) h_78 (by first | assumption | omega | rfl) h_86 (by first | assumption | omega | rfl) h_94) (kV_RL_62 C.2.2.2.2 (Nat.le_of_ble_eq_true rfl) (Nat.le_of_ble_eq_true rfl)) [0, 1, 2, 3, 19, 20] [4, 5, 6, 7, 8, 9, 10, 11, 12, 13, 14, 15, 16, 17, 18, 21, 22, 23, 24, 25, 26, 27, 28, 29, 30, 31, 32, 33, 34, 35, 36, 37, 38, 39, 40, 41, 42, 43, 44, 45, 46, 47, 48, 49, 50, 51, 52, 53, 54, 55, 56, 57, 58, 59] rfl rfl (ci := 10) (qc := (RX11, TX11, 11)) rfl rfl (List.mem_flatten.mpr ⟨_, List.mem_of_getElem? (i := 0) rfl, List.mem_cons_self⟩) rfl rfl hl.1 dL_law_635 (by show _ + 0 ≤ 600000; omega) (by show _ + 0 ≤ 7302250; omega) (fun r_104 b1 H locs hw G => ?_)
    obtain ⟨lp_95, f1_96, f2_97, f3_98, st_99, wh_100, wp_101, fcd_102, rfl, h_103⟩ := hw
    have G : zS T A s.heap s [wd0_, wd1_, wg0_, wg1_, [(rd, .inr (7, [.ref rl, .ref rdd, .ref rg, .int r0, .int r1, .ref tq, .int r2, .int r3, .int r4, .int r5, .int r6, .int r7, .int r8]))], z, wd, wg, wwA, wwB, wff, wc, wcp, wr, wrp, wta, z0_a, z1_a, wd0_a, wd1_a, wg0_a, wg1_a, wtb, z0_b, z1_b, wd0_b, wd1_b, wg0_b, wg1_b, wtc, z0_c, z1_c, wd0_c, wd1_c, wg0_c, wg1_c, [(im, .inl (T.2 6, 3, .inr (.inr (.inr (.inr qi)))))], [(mk, .inl (T.2 2, 3, .inl fmk))], [(mo, .inr (11, [.ref m_all, .ref m_has, .int i_size, .int i_next, .int i_where, .int i_token, .int i_number, .int i_word, .int i_wrong, .int i_farCrossing, .ref m_read, .int i_z0, .int i_crossings, .int i_inns, .ref m_posts, .ref m_shut, .ref m_here, .int i_steps, .int i_done, .int i_at, .int i_gone, .ref m_was, .ref m_came, .ref m_seenAt, .ref m_rowWorth, .ref m_farBy, .ref m_used, .int i_everywhere, .int i_again0, .int i_d0, .int i_never, .int i_firstCame, .int i_longRun, .int i_moved, .int i_crowd, .int i_l0, .int i_fitMany, .int i_fitLeast, .int i_fitMost, .ref m_fitPost, .ref m_fitEnd, .ref m_keptPosts, .int i_x0]))], [(m_all, .inl (T.2 0, 3952, .inl f_all))], [(m_has, .inl (T.2 2, 3, .inl f_has))], [(m_read, .inl (T.2 0, 121, .inl f_read))], [(m_posts, .inl (T.2 0, 7, .inl f_posts))], [(m_shut, .inl (T.2 0, 7, .inl f_shut))], [(m_here, .inl (T.2 0, 7, .inl f_here))], [(m_was, .inl (T.2 0, 7, .inl f_was))], [(m_came, .inl (T.2 0, 7, .inl f_came))], [(m_seenAt, .inl (T.2 0, 16384, .inl f_seenAt))], [(m_rowWorth, .inl (T.2 0, 512, .inl f_rowWorth))], [(m_farBy, .inl (T.2 0, 49, .inl f_farBy))], [(m_used, .inl (T.2 0, 7, .inl f_used))], [(m_fitPost, .inl (T.2 0, 28, .inl f_fitPost))], [(m_fitEnd, .inl (T.2 0, 49, .inl f_fitEnd))], [(m_keptPosts, .inl (T.2 0, 7, .inl f_keptPosts))], [(xo, .inr (10, [.ref t, .ref im, .ref mk, .ref rd, .ref po, .ref co, .ref tr, .ref wa, .ref wb_, .ref fi, .ref cd]))], wt, z0_, z1_, wp_101, [(cd, .inl (T.2 0, 1000, .inl fcd_102))]] _ _ := G
    refine lv_pop hx hb dL_law_638 rfl ?_
    refine lv_aload_n hx hb dL_law_639 rfl (lv_at hl 2 rfl) ?_
    refine lv_aload_n hx hb dL_law_640 rfl (lv_at hl 0 rfl) ?_
    refine lv_iload_n hx hb dL_law_641 rfl (lv_at hl 3 rfl) ?_
    refine lv_iconst (v := 1) hx hb dL_law_642 (by decide) ?_
    refine lv_iadd hx hb dL_law_643 ?_
    refine lv_topi (fun y_105 ey_105 => ?_)
    obtain rfl : y_105 = nI (i + 1) := ey_105.trans (z_iaddn i 1 rfl rfl)
    refine va_sld hx hb hX hbl hbA G.2.2.2.1 (vp_in_nI (by omega) (by omega)) dL_law_644 ?_
    refine lv_topi (fun v_106 ev_106 => ?_)
    rw [nI_clamp (by omega)] at ev_106
    have ev_106 : v_106 = xs (i + 1) := ev_106
    subst ev_106
    refine lv_aload_n hx hb dL_law_645 rfl (lv_at hl 0 rfl) ?_
    refine lv_iload_n hx hb dL_law_646 rfl (lv_at hl 3 rfl) ?_
    refine lv_iconst (v := 2) hx hb dL_law_647 (by decide) ?_
    refine lv_iadd hx hb dL_law_648 ?_
    refine lv_topi (fun y_107 ey_107 => ?_)
    obtain rfl : y_107 = nI (i + 2) := ey_107.trans (z_iaddn i 2 rfl rfl)
    refine va_sld hx hb hX hbl hbA G.2.2.2.1 (vp_in_nI (by omega) (by omega)) dL_law_649 ?_
    refine lv_topi (fun v_108 ev_108 => ?_)
    rw [nI_clamp (by omega)] at ev_108
    have ev_108 : v_108 = xs (i + 2) := ev_108
    subst ev_108
    refine lv_aload_n hx hb dL_law_650 rfl (lv_at hl 0 rfl) ?_
    refine lv_iload_n hx hb dL_law_651 rfl (lv_at hl 3 rfl) ?_
    refine lv_iconst (v := 3) hx hb dL_law_652 (by decide) ?_
    refine lv_iadd hx hb dL_law_653 ?_
    refine lv_topi (fun y_109 ey_109 => ?_)
    obtain rfl : y_109 = nI (i + 3) := ey_109.trans (z_iaddn i 3 rfl rfl)
    refine va_sld hx hb hX hbl hbA G.2.2.2.1 (vp_in_nI (by omega) (by omega)) dL_law_654 ?_
    refine lv_topi (fun v_110 ev_110 => ?_)
    rw [nI_clamp (by omega)] at ev_110
    have ev_110 : v_110 = xs (i + 3) := ev_110
    subst ev_110
    refine lv_if_eq (tgt := 662) hx hb dL_law_655 (by decide) (fun q => absurd q c_7) (fun _ => ?_)
    refine lv_iconst (v := 1) hx hb dL_law_658 (by decide) ?_
    refine lv_goto (tgt := 663) hx hb dL_law_659 (by decide) ?_
    refine z_Vi (bc := [[(mo, .inr (11, [.ref m_all, .ref m_has, .int i_size, .int i_next, .int i_where, .int i_token, .int i_number, .int i_word, .int i_wrong, .int i_farCrossing, .ref m_read, .int i_z0, .int i_crossings, .int i_inns, .ref m_posts, .ref m_shut, .ref m_here, .int i_steps, .int i_done, .int i_at, .int i_gone, .ref m_was, .ref m_came, .ref m_seenAt, .ref m_rowWorth, .ref m_farBy, .ref m_used, .int i_everywhere, .int i_again0, .int i_d0, .int i_never, .int i_firstCame, .int i_longRun, .int i_moved, .int i_crowd, .int i_l0, .int i_fitMany, .int i_fitLeast, .int i_fitMost, .ref m_fitPost, .ref m_fitEnd, .ref m_keptPosts, .int i_x0]))], [(m_all, .inl (T.2 0, 3952, .inl f_all))], [(m_posts, .inl (T.2 0, 7, .inl f_posts))], [(m_shut, .inl (T.2 0, 7, .inl f_shut))], [(m_here, .inl (T.2 0, 7, .inl f_here))], [(m_was, .inl (T.2 0, 7, .inl f_was))], [(m_seenAt, .inl (T.2 0, 16384, .inl f_seenAt))]]) (br := [wd0_, wd1_, wg0_, wg1_, [(rd, .inr (7, [.ref rl, .ref rdd, .ref rg, .int r0, .int r1, .ref tq, .int r2, .int r3, .int r4, .int r5, .int r6, .int r7, .int r8]))], z, wd, wg, wwA, wwB, wff, wc, wcp, wr, wrp, wta, z0_a, z1_a, wd0_a, wd1_a, wg0_a, wg1_a, wtb, z0_b, z1_b, wd0_b, wd1_b, wg0_b, wg1_b, wtc, z0_c, z1_c, wd0_c, wd1_c, wg0_c, wg1_c, [(im, .inl (T.2 6, 3, .inr (.inr (.inr (.inr qi)))))], [(mk, .inl (T.2 2, 3, .inl fmk))], [(m_has, .inl (T.2 2, 3, .inl f_has))], [(m_read, .inl (T.2 0, 121, .inl f_read))], [(m_came, .inl (T.2 0, 7, .inl f_came))], [(m_rowWorth, .inl (T.2 0, 512, .inl f_rowWorth))], [(m_farBy, .inl (T.2 0, 49, .inl f_farBy))], [(m_used, .inl (T.2 0, 7, .inl f_used))], [(m_fitPost, .inl (T.2 0, 28, .inl f_fitPost))], [(m_fitEnd, .inl (T.2 0, 49, .inl f_fitEnd))], [(m_keptPosts, .inl (T.2 0, 7, .inl f_keptPosts))], [(xo, .inr (10, [.ref t, .ref im, .ref mk, .ref rd, .ref po, .ref co, .ref tr, .ref wa, .ref wb_, .ref fi, .ref cd]))], wt, z0_, z1_, wp_101, [(cd, .inl (T.2 0, 1000, .inl fcd_102))]]) (As := [.int (xs (i + 1)), .int (xs (i + 2)), .int 1]) (rest := []) C G (c_m_period l T mo m_all m_has i_size i_next i_where i_token i_number i_word i_wrong i_farCrossing m_read i_z0 i_crossings i_inns m_posts m_shut m_here i_steps i_done i_at i_gone m_was m_came m_seenAt m_rowWorth m_farBy m_used i_everywhere i_again0 i_d0 i_never i_firstCame i_longRun i_moved i_crowd i_l0 i_fitMany i_fitLeast i_fitMost m_fitPost m_fitEnd m_keptPosts i_x0 f_all f_posts f_shut f_here f_was f_seenAt (xs (i + 1)) (xs (i + 2)) 1 (by first | assumption | omega | rfl)) (kV_RL_66 C.2.2.2.2 (Nat.le_of_ble_eq_true rfl) (Nat.le_of_ble_eq_true rfl)) [38, 39, 42, 43, 44, 45, 47] [0, 1, 2, 3, 4, 5, 6, 7, 8, 9, 10, 11, 12, 13, 14, 15, 16, 17, 18, 19, 20, 21, 22, 23, 24, 25, 26, 27, 28, 29, 30, 31, 32, 33, 34, 35, 36, 37, 40, 41, 46, 48, 49, 50, 51, 52, 53, 54, 55, 56, 57, 58, 59] rfl rfl (ci := 11) (qc := (RX12, TX12, 43)) rfl rfl (List.mem_flatten.mpr ⟨_, List.mem_of_getElem? (i := 0) rfl, List.mem_cons_self⟩) rfl rfl hl.1 dL_law_663 (by show _ + 0 ≤ 600000; omega) (by show _ + 0 ≤ 7302250; omega) (fun r_123 b1 H locs hw G => ?_)
    obtain ⟨j_z0_111, j_crossings_112, j_inns_113, j_steps_114, j_done_115, j_at_116, j_gone_117, g_posts_118, g_shut_119, g_here_120, g_was_121, g_seenAt_122, rfl⟩ := hw
    have G : zS T A s.heap s [wd0_, wd1_, wg0_, wg1_, [(rd, .inr (7, [.ref rl, .ref rdd, .ref rg, .int r0, .int r1, .ref tq, .int r2, .int r3, .int r4, .int r5, .int r6, .int r7, .int r8]))], z, wd, wg, wwA, wwB, wff, wc, wcp, wr, wrp, wta, z0_a, z1_a, wd0_a, wd1_a, wg0_a, wg1_a, wtb, z0_b, z1_b, wd0_b, wd1_b, wg0_b, wg1_b, wtc, z0_c, z1_c, wd0_c, wd1_c, wg0_c, wg1_c, [(im, .inl (T.2 6, 3, .inr (.inr (.inr (.inr qi)))))], [(mk, .inl (T.2 2, 3, .inl fmk))], [(m_has, .inl (T.2 2, 3, .inl f_has))], [(m_read, .inl (T.2 0, 121, .inl f_read))], [(m_came, .inl (T.2 0, 7, .inl f_came))], [(m_rowWorth, .inl (T.2 0, 512, .inl f_rowWorth))], [(m_farBy, .inl (T.2 0, 49, .inl f_farBy))], [(m_used, .inl (T.2 0, 7, .inl f_used))], [(m_fitPost, .inl (T.2 0, 28, .inl f_fitPost))], [(m_fitEnd, .inl (T.2 0, 49, .inl f_fitEnd))], [(m_keptPosts, .inl (T.2 0, 7, .inl f_keptPosts))], [(xo, .inr (10, [.ref t, .ref im, .ref mk, .ref rd, .ref po, .ref co, .ref tr, .ref wa, .ref wb_, .ref fi, .ref cd]))], wt, z0_, z1_, wp_101, [(cd, .inl (T.2 0, 1000, .inl fcd_102))], [(mo, .inr (11, [.ref m_all, .ref m_has, .int i_size, .int i_next, .int i_where, .int i_token, .int i_number, .int i_word, .int i_wrong, .int i_farCrossing, .ref m_read, .int j_z0_111, .int j_crossings_112, .int j_inns_113, .ref m_posts, .ref m_shut, .ref m_here, .int j_steps_114, .int j_done_115, .int j_at_116, .int j_gone_117, .ref m_was, .ref m_came, .ref m_seenAt, .ref m_rowWorth, .ref m_farBy, .ref m_used, .int i_everywhere, .int i_again0, .int i_d0, .int i_never, .int i_firstCame, .int i_longRun, .int i_moved, .int i_crowd, .int i_l0, .int i_fitMany, .int i_fitLeast, .int i_fitMost, .ref m_fitPost, .ref m_fitEnd, .ref m_keptPosts, .int i_x0]))], [(m_all, .inl (T.2 0, 3952, .inl f_all))], [(m_posts, .inl (T.2 0, 7, .inl g_posts_118))], [(m_shut, .inl (T.2 0, 7, .inl g_shut_119))], [(m_here, .inl (T.2 0, 7, .inl g_here_120))], [(m_was, .inl (T.2 0, 7, .inl g_was_121))], [(m_seenAt, .inl (T.2 0, 16384, .inl g_seenAt_122))]] _ _ := G
    refine lv_pop hx hb dL_law_666 rfl ?_
    refine lv_goto (tgt := 1767) hx hb dL_law_667 (by decide) ?_
    have G := G.sub (bs' := [[(xo, .inr (10, [.ref t, .ref im, .ref mk, .ref rd, .ref po, .ref co, .ref tr, .ref wa, .ref wb_, .ref fi, .ref cd]))], wt, z0_, z1_, wd0_, wd1_, wg0_, wg1_, [(rd, .inr (7, [.ref rl, .ref rdd, .ref rg, .int r0, .int r1, .ref tq, .int r2, .int r3, .int r4, .int r5, .int r6, .int r7, .int r8]))], z, wd, wg, wwA, wwB, wff, wc, wcp, wr, wrp, wp_101, [(cd, .inl (T.2 0, 1000, .inl fcd_102))], wta, z0_a, z1_a, wd0_a, wd1_a, wg0_a, wg1_a, wtb, z0_b, z1_b, wd0_b, wd1_b, wg0_b, wg1_b, wtc, z0_c, z1_c, wd0_c, wd1_c, wg0_c, wg1_c, [(im, .inl (T.2 6, 3, .inr (.inr (.inr (.inr qi)))))], [(mk, .inl (T.2 2, 3, .inl fmk))], [(mo, .inr (11, [.ref m_all, .ref m_has, .int i_size, .int i_next, .int i_where, .int i_token, .int i_number, .int i_word, .int i_wrong, .int i_farCrossing, .ref m_read, .int j_z0_111, .int j_crossings_112, .int j_inns_113, .ref m_posts, .ref m_shut, .ref m_here, .int j_steps_114, .int j_done_115, .int j_at_116, .int j_gone_117, .ref m_was, .ref m_came, .ref m_seenAt, .ref m_rowWorth, .ref m_farBy, .ref m_used, .int i_everywhere, .int i_again0, .int i_d0, .int i_never, .int i_firstCame, .int i_longRun, .int i_moved, .int i_crowd, .int i_l0, .int i_fitMany, .int i_fitLeast, .int i_fitMost, .ref m_fitPost, .ref m_fitEnd, .ref m_keptPosts, .int i_x0]))], [(m_all, .inl (T.2 0, 3952, .inl f_all))], [(m_has, .inl (T.2 2, 3, .inl f_has))], [(m_read, .inl (T.2 0, 121, .inl f_read))], [(m_posts, .inl (T.2 0, 7, .inl g_posts_118))], [(m_shut, .inl (T.2 0, 7, .inl g_shut_119))], [(m_here, .inl (T.2 0, 7, .inl g_here_120))], [(m_was, .inl (T.2 0, 7, .inl g_was_121))], [(m_came, .inl (T.2 0, 7, .inl f_came))], [(m_seenAt, .inl (T.2 0, 16384, .inl g_seenAt_122))], [(m_rowWorth, .inl (T.2 0, 512, .inl f_rowWorth))], [(m_farBy, .inl (T.2 0, 49, .inl f_farBy))], [(m_used, .inl (T.2 0, 7, .inl f_used))], [(m_fitPost, .inl (T.2 0, 28, .inl f_fitPost))], [(m_fitEnd, .inl (T.2 0, 49, .inl f_fitEnd))], [(m_keptPosts, .inl (T.2 0, 7, .inl f_keptPosts))]]) [47, 48, 49, 50, 0, 1, 2, 3, 4, 5, 6, 7, 8, 9, 10, 11, 12, 13, 14, 51, 52, 15, 16, 17, 18, 19, 20, 21, 22, 23, 24, 25, 26, 27, 28, 29, 30, 31, 32, 33, 34, 35, 36, 37, 53, 54, 38, 39, 55, 56, 57, 58, 40, 59, 41, 42, 43, 44, 45, 46] rfl
    refine W.widen (k := 216 + 2 * i + 12) (n := 27000 + 6 * (n4A + n4B) + 2 * m1f) (by omega) (by omega) ?_
    exact kk n4A n4B m1f _ ⟨⟨t, im, mk, rd, po, co, tr, wa, wb_, fi, cd, wt, l0, l1, d0, d1, g0, g1, ln, z0_, z1_, wd0_, wd1_, wg0_, wg1_, rl, rdd, rg, r0, r1, tq, r2, r3, r4, r5, r6, r7, r8, z, wd, wg, wwA, mdA, wwB, mdB, wff, e0f, e1f, wc, cpo, wcp, wr, tpo, wrp, wp_101, fcd_102, m0, wta, l0a, l1a, d0a, d1a, g0a, g1a, lna, z0_a, z1_a, wd0_a, wd1_a, wg0_a, wg1_a, m1, wtb, l0b, l1b, d0b, d1b, g0b, g1b, lnb, z0_b, z1_b, wd0_b, wd1_b, wg0_b, wg1_b, m2, wtc, l0c, l1c, d0c, d1c, g0c, g1c, lnc, z0_c, z1_c, wd0_c, wd1_c, wg0_c, wg1_c, qi, fmk, m_all, m_has, i_size, i_next, i_where, i_token, i_number, i_word, i_wrong, i_farCrossing, m_read, j_z0_111, j_crossings_112, j_inns_113, m_posts, m_shut, m_here, j_steps_114, j_done_115, j_at_116, j_gone_117, m_was, m_came, m_seenAt, m_rowWorth, m_farBy, m_used, i_everywhere, i_again0, i_d0, i_never, i_firstCame, i_longRun, i_moved, i_crowd, i_l0, i_fitMany, i_fitLeast, i_fitMost, m_fitPost, m_fitEnd, m_keptPosts, i_x0, f_all, f_has, f_read, g_posts_118, g_shut_119, g_here_120, g_was_121, f_came, g_seenAt_122, f_rowWorth, f_farBy, f_used, f_fitPost, f_fitEnd, f_keptPosts⟩, rfl, ⟨v_66, v_67, v_68, v_69, h_70, (by first | assumption | omega)⟩, ⟨v_72, v_73, v_74, v_75, v_76, v_77, h_78, (by first | assumption | omega)⟩, ⟨v_80, v_81, v_82, v_83, v_84, v_85, h_86, (by first | assumption | omega)⟩, H_wd0_, H_wd1_, H_wg0_, H_wg1_, H_z, H_wd, H_wg, H_wwA, H_wwB, H_wff, H_wc, H_wcp, H_wr, H_wrp, ⟨lp_95, f1_96, f2_97, f3_98, st_99, wh_100, h_103⟩, H_wta, H_z0_a, H_z1_a, H_wd0_a, H_wd1_a, H_wg0_a, H_wg1_a, H_wtb, H_z0_b, H_z1_b, H_wd0_b, H_wd1_b, H_wg0_b, H_wg1_b, H_wtc, H_z0_c, H_z1_c, H_wd0_c, H_wd1_c, H_wg0_c, H_wg1_c, (by first | assumption | omega), (by first | assumption | omega), (by first | assumption | omega), (by first | assumption | omega), (by first | assumption | omega), (by first | assumption | omega), (by first | assumption | omega), (by first | assumption | omega)⟩ _ _ ls G (lv_sub hl [0, 1, 2, 3] rfl)

set_option maxHeartbeats 40000000 in
set_option maxRecDepth 100000 in
theorem z_case_cover (l : Launch) {p : Program} {e : Env} {s : State} {m : MethodId} {b : Nat} {below : List Frame} {meth : Method} {c : Code} {Q : State → Prop} {T : zTy} {A : Nat → Prop} {L i : Nat} {xs : Nat → Int32} (hx : p.tables.exec = Jvm.exec) (hb : c.code = cL_law) (C : CallFix p m c cL_law 4 s #[Value.ref b] zT RL) (hX : va_X b L xs s s.heap) (hbl : b < s.heap.size) (hbA : ¬ A b) (hL : L ≤ 3072) (hi6 : i + 6 ≤ L) {xo mo n4A n4B m1f : Nat} (hnA : n4A ≤ 131072) (hnB : n4B ≤ 131072) (hmf : m1f ≤ 16384) {bs : List va_W} (hI : zInv T xo mo n4A n4B m1f bs) {H : Heap} {locs : List Loc} {ls : Array Slot} (G : zS T A s.heap s bs H locs) (hl : lv_has ls 4 [(0, .ref b), (1, .ref xo), (2, .ref mo), (3, .int (nI i))]) (kk : ∀ (n1 n2 n3 : Nat) (bs1 : List va_W), zInv T xo mo n1 n2 n3 bs1 → ∀ (H1 : Heap) (locs1 : List Loc) (ls1 : Array Slot), zS T A s.heap s bs1 H1 locs1 → lv_has ls1 4 [(0, .ref b), (1, .ref xo), (2, .ref mo), (3, .int (nI i))] → W p l e room_1 s m #[Value.ref b] below meth c H1 locs1 (216 + 2 * i + 12) (27000 + 6 * (n1 + n2) + 2 * n3) Q (F0 m 1767 ls1 [])) : W p l e room_1 s m #[Value.ref b] below meth c H locs (216 + 2 * i) (27000 + 6 * (n4A + n4B) + 2 * m1f) Q (F0 m 1244 ls []) := by
  obtain ⟨⟨t, im, mk, rd, po, co, tr, wa, wb_, fi, cd, wt, l0, l1, d0, d1, g0, g1, ln, z0_, z1_, wd0_, wd1_, wg0_, wg1_, rl, rdd, rg, r0, r1, tq, r2, r3, r4, r5, r6, r7, r8, z, wd, wg, wwA, mdA, wwB, mdB, wff, e0f, e1f, wc, cpo, wcp, wr, tpo, wrp, wp, fcd, m0, wta, l0a, l1a, d0a, d1a, g0a, g1a, lna, z0_a, z1_a, wd0_a, wd1_a, wg0_a, wg1_a, m1, wtb, l0b, l1b, d0b, d1b, g0b, g1b, lnb, z0_b, z1_b, wd0_b, wd1_b, wg0_b, wg1_b, m2, wtc, l0c, l1c, d0c, d1c, g0c, g1c, lnc, z0_c, z1_c, wd0_c, wd1_c, wg0_c, wg1_c, qi, fmk, m_all, m_has, i_size, i_next, i_where, i_token, i_number, i_word, i_wrong, i_farCrossing, m_read, i_z0, i_crossings, i_inns, m_posts, m_shut, m_here, i_steps, i_done, i_at, i_gone, m_was, m_came, m_seenAt, m_rowWorth, m_farBy, m_used, i_everywhere, i_again0, i_d0, i_never, i_firstCame, i_longRun, i_moved, i_crowd, i_l0, i_fitMany, i_fitLeast, i_fitMost, m_fitPost, m_fitEnd, m_keptPosts, i_x0, f_all, f_has, f_read, f_posts, f_shut, f_here, f_was, f_came, f_seenAt, f_rowWorth, f_farBy, f_used, f_fitPost, f_fitEnd, f_keptPosts⟩, rfl, H_wt, H_z0_, H_z1_, H_wd0_, H_wd1_, H_wg0_, H_wg1_, H_z, H_wd, H_wg, H_wwA, H_wwB, H_wff, H_wc, H_wcp, H_wr, H_wrp, H_wp, H_wta, H_z0_a, H_z1_a, H_wd0_a, H_wd1_a, H_wg0_a, H_wg1_a, H_wtb, H_z0_b, H_z1_b, H_wd0_b, H_wd1_b, H_wg0_b, H_wg1_b, H_wtc, H_z0_c, H_z1_c, H_wd0_c, H_wd1_c, H_wg0_c, H_wg1_c, hm0, hm1, hm2, h56, hFI, hAI, hRl, hHs⟩ := hI
  replace H_wt : hTold T t l0 l1 d0 d1 g0 g1 ln wt := H_wt
  replace H_z0_ : hLand T l0 z0_ := H_z0_
  replace H_z1_ : hLand T l1 z1_ := H_z1_
  replace H_wd0_ : hDay T d0 wd0_ := H_wd0_
  replace H_wd1_ : hDay T d1 wd1_ := H_wd1_
  replace H_wg0_ : hLog T g0 wg0_ := H_wg0_
  replace H_wg1_ : hLog T g1 wg1_ := H_wg1_
  replace H_z : hLandR T rl z := H_z
  replace H_wd : hDay T rdd wd := H_wd
  replace H_wg : hLog T rg wg := H_wg
  replace H_wwA : hWays T wa mdA n4A l0 wwA := H_wwA
  replace H_wwB : hWays T wb_ mdB n4B l1 wwB := H_wwB
  replace H_wff : hFit T fi e0f e1f m1f wff := H_wff
  replace H_wc : hCourse T co cpo wc := H_wc
  replace H_wcp : hPosts T cpo wcp := H_wcp
  replace H_wr : hTrail T tr tpo wr := H_wr
  replace H_wrp : hPosts T tpo wrp := H_wrp
  replace H_wp : hPosts T po wp := H_wp
  replace H_wta : hTold T m0 l0a l1a d0a d1a g0a g1a lna wta := H_wta
  replace H_z0_a : hLand T l0a z0_a := H_z0_a
  replace H_z1_a : hLand T l1a z1_a := H_z1_a
  replace H_wd0_a : hDay T d0a wd0_a := H_wd0_a
  replace H_wd1_a : hDay T d1a wd1_a := H_wd1_a
  replace H_wg0_a : hLog T g0a wg0_a := H_wg0_a
  replace H_wg1_a : hLog T g1a wg1_a := H_wg1_a
  replace H_wtb : hTold T m1 l0b l1b d0b d1b g0b g1b lnb wtb := H_wtb
  replace H_z0_b : hLand T l0b z0_b := H_z0_b
  replace H_z1_b : hLand T l1b z1_b := H_z1_b
  replace H_wd0_b : hDay T d0b wd0_b := H_wd0_b
  replace H_wd1_b : hDay T d1b wd1_b := H_wd1_b
  replace H_wg0_b : hLog T g0b wg0_b := H_wg0_b
  replace H_wg1_b : hLog T g1b wg1_b := H_wg1_b
  replace H_wtc : hTold T m2 l0c l1c d0c d1c g0c g1c lnc wtc := H_wtc
  replace H_z0_c : hLand T l0c z0_c := H_z0_c
  replace H_z1_c : hLand T l1c z1_c := H_z1_c
  replace H_wd0_c : hDay T d0c wd0_c := H_wd0_c
  replace H_wd1_c : hDay T d1c wd1_c := H_wd1_c
  replace H_wg0_c : hLog T g0c wg0_c := H_wg0_c
  replace H_wg1_c : hLog T g1c wg1_c := H_wg1_c
  replace hm0 : qi 0 = some m0 := hm0
  replace hm1 : qi 1 = some m1 := hm1
  replace hm2 : qi 2 = some m2 := hm2
  replace h56 : ((0 ≤ r5.toInt ∧ r5.toInt ≤ 600) ∧ 0 ≤ r6.toInt ∧ r6.toInt ≤ 1000) := h56
  replace hFI : (¬ e0f = 0 → e1f.toInt = 0 ∧ ¬ mdA = 0 ∨ e1f.toInt = 1 ∧ ¬ mdB = 0) := hFI
  replace hAI : zAI f_all := hAI
  replace hRl : zRl ln lna lnb lnc f_all := hRl
  replace hHs : zHs fmk f_has := hHs
  replace G : zS T A s.heap s [[(xo, .inr (10, [.ref t, .ref im, .ref mk, .ref rd, .ref po, .ref co, .ref tr, .ref wa, .ref wb_, .ref fi, .ref cd]))], wt, z0_, z1_, wd0_, wd1_, wg0_, wg1_, [(rd, .inr (7, [.ref rl, .ref rdd, .ref rg, .int r0, .int r1, .ref tq, .int r2, .int r3, .int r4, .int r5, .int r6, .int r7, .int r8]))], z, wd, wg, wwA, wwB, wff, wc, wcp, wr, wrp, wp, [(cd, .inl (T.2 0, 1000, .inl fcd))], wta, z0_a, z1_a, wd0_a, wd1_a, wg0_a, wg1_a, wtb, z0_b, z1_b, wd0_b, wd1_b, wg0_b, wg1_b, wtc, z0_c, z1_c, wd0_c, wd1_c, wg0_c, wg1_c, [(im, .inl (T.2 6, 3, .inr (.inr (.inr (.inr qi)))))], [(mk, .inl (T.2 2, 3, .inl fmk))], [(mo, .inr (11, [.ref m_all, .ref m_has, .int i_size, .int i_next, .int i_where, .int i_token, .int i_number, .int i_word, .int i_wrong, .int i_farCrossing, .ref m_read, .int i_z0, .int i_crossings, .int i_inns, .ref m_posts, .ref m_shut, .ref m_here, .int i_steps, .int i_done, .int i_at, .int i_gone, .ref m_was, .ref m_came, .ref m_seenAt, .ref m_rowWorth, .ref m_farBy, .ref m_used, .int i_everywhere, .int i_again0, .int i_d0, .int i_never, .int i_firstCame, .int i_longRun, .int i_moved, .int i_crowd, .int i_l0, .int i_fitMany, .int i_fitLeast, .int i_fitMost, .ref m_fitPost, .ref m_fitEnd, .ref m_keptPosts, .int i_x0]))], [(m_all, .inl (T.2 0, 3952, .inl f_all))], [(m_has, .inl (T.2 2, 3, .inl f_has))], [(m_read, .inl (T.2 0, 121, .inl f_read))], [(m_posts, .inl (T.2 0, 7, .inl f_posts))], [(m_shut, .inl (T.2 0, 7, .inl f_shut))], [(m_here, .inl (T.2 0, 7, .inl f_here))], [(m_was, .inl (T.2 0, 7, .inl f_was))], [(m_came, .inl (T.2 0, 7, .inl f_came))], [(m_seenAt, .inl (T.2 0, 16384, .inl f_seenAt))], [(m_rowWorth, .inl (T.2 0, 512, .inl f_rowWorth))], [(m_farBy, .inl (T.2 0, 49, .inl f_farBy))], [(m_used, .inl (T.2 0, 7, .inl f_used))], [(m_fitPost, .inl (T.2 0, 28, .inl f_fitPost))], [(m_fitEnd, .inl (T.2 0, 49, .inl f_fitEnd))], [(m_keptPosts, .inl (T.2 0, 7, .inl f_keptPosts))]] H locs := G
  have hB := zAI_0 hAI
  have hB4 := hB.1
  obtain ⟨hln, hlna, hlnb, hlnc⟩ := zRl_in hAI hRl
  refine lv_aload_n hx hb dL_law_1244 rfl (lv_at hl 1 rfl) ?_
  refine lv_aload_n hx hb dL_law_1245 rfl (lv_at hl 0 rfl) ?_
  refine lv_iload_n hx hb dL_law_1246 rfl (lv_at hl 3 rfl) ?_
  refine lv_iconst (v := 1) hx hb dL_law_1247 (by decide) ?_
  refine lv_iadd hx hb dL_law_1248 ?_
  refine lv_topi (fun y_1 ey_1 => ?_)
  obtain rfl : y_1 = nI (i + 1) := ey_1.trans (z_iaddn i 1 rfl rfl)
  refine va_sld hx hb hX hbl hbA G.2.2.2.1 (vp_in_nI (by omega) (by omega)) dL_law_1249 ?_
  refine lv_topi (fun v_2 ev_2 => ?_)
  rw [nI_clamp (by omega)] at ev_2
  have ev_2 : v_2 = xs (i + 1) := ev_2
  subst ev_2
  refine lv_aload_n hx hb dL_law_1250 rfl (lv_at hl 0 rfl) ?_
  refine lv_iload_n hx hb dL_law_1251 rfl (lv_at hl 3 rfl) ?_
  refine lv_iconst (v := 2) hx hb dL_law_1252 (by decide) ?_
  refine lv_iadd hx hb dL_law_1253 ?_
  refine lv_topi (fun y_3 ey_3 => ?_)
  obtain rfl : y_3 = nI (i + 2) := ey_3.trans (z_iaddn i 2 rfl rfl)
  refine va_sld hx hb hX hbl hbA G.2.2.2.1 (vp_in_nI (by omega) (by omega)) dL_law_1254 ?_
  refine lv_topi (fun v_4 ev_4 => ?_)
  rw [nI_clamp (by omega)] at ev_4
  have ev_4 : v_4 = xs (i + 2) := ev_4
  subst ev_4
  refine lv_aload_n hx hb dL_law_1255 rfl (lv_at hl 0 rfl) ?_
  refine lv_iload_n hx hb dL_law_1256 rfl (lv_at hl 3 rfl) ?_
  refine lv_iconst (v := 3) hx hb dL_law_1257 (by decide) ?_
  refine lv_iadd hx hb dL_law_1258 ?_
  refine lv_topi (fun y_5 ey_5 => ?_)
  obtain rfl : y_5 = nI (i + 3) := ey_5.trans (z_iaddn i 3 rfl rfl)
  refine va_sld hx hb hX hbl hbA G.2.2.2.1 (vp_in_nI (by omega) (by omega)) dL_law_1259 ?_
  refine lv_topi (fun v_6 ev_6 => ?_)
  rw [nI_clamp (by omega)] at ev_6
  have ev_6 : v_6 = xs (i + 3) := ev_6
  subst ev_6
  obtain ⟨v_7, v_8, v_9, v_10, h_11, h_12⟩ := H_wt
  have h_12 : zKT v_10 := h_12
  obtain ⟨v_13, v_14, v_15, v_16, v_17, v_18, h_19, h_20⟩ := H_z0_
  have h_20 : zLI v_13 v_15 v_17 := h_20
  obtain ⟨v_21, v_22, v_23, v_24, v_25, v_26, h_27, h_28⟩ := H_z1_
  have h_28 : zLI v_21 v_23 v_25 := h_28
  obtain ⟨v_29, v_30, v_31, v_32, v_33, v_34, v_35, h_36⟩ := H_wr
  obtain ⟨v_37, v_38, v_39, v_40, v_41, v_42, h_43⟩ := H_wrp
  refine z_Vi (bc := [[(xo, .inr (10, [.ref t, .ref im, .ref mk, .ref rd, .ref po, .ref co, .ref tr, .ref wa, .ref wb_, .ref fi, .ref cd]))], wt, z0_, z1_, wr, wrp]) (br := [wd0_, wd1_, wg0_, wg1_, [(rd, .inr (7, [.ref rl, .ref rdd, .ref rg, .int r0, .int r1, .ref tq, .int r2, .int r3, .int r4, .int r5, .int r6, .int r7, .int r8]))], z, wd, wg, wwA, wwB, wff, wc, wcp, wp, [(cd, .inl (T.2 0, 1000, .inl fcd))], wta, z0_a, z1_a, wd0_a, wd1_a, wg0_a, wg1_a, wtb, z0_b, z1_b, wd0_b, wd1_b, wg0_b, wg1_b, wtc, z0_c, z1_c, wd0_c, wd1_c, wg0_c, wg1_c, [(im, .inl (T.2 6, 3, .inr (.inr (.inr (.inr qi)))))], [(mk, .inl (T.2 2, 3, .inl fmk))], [(mo, .inr (11, [.ref m_all, .ref m_has, .int i_size, .int i_next, .int i_where, .int i_token, .int i_number, .int i_word, .int i_wrong, .int i_farCrossing, .ref m_read, .int i_z0, .int i_crossings, .int i_inns, .ref m_posts, .ref m_shut, .ref m_here, .int i_steps, .int i_done, .int i_at, .int i_gone, .ref m_was, .ref m_came, .ref m_seenAt, .ref m_rowWorth, .ref m_farBy, .ref m_used, .int i_everywhere, .int i_again0, .int i_d0, .int i_never, .int i_firstCame, .int i_longRun, .int i_moved, .int i_crowd, .int i_l0, .int i_fitMany, .int i_fitLeast, .int i_fitMost, .ref m_fitPost, .ref m_fitEnd, .ref m_keptPosts, .int i_x0]))], [(m_all, .inl (T.2 0, 3952, .inl f_all))], [(m_has, .inl (T.2 2, 3, .inl f_has))], [(m_read, .inl (T.2 0, 121, .inl f_read))], [(m_posts, .inl (T.2 0, 7, .inl f_posts))], [(m_shut, .inl (T.2 0, 7, .inl f_shut))], [(m_here, .inl (T.2 0, 7, .inl f_here))], [(m_was, .inl (T.2 0, 7, .inl f_was))], [(m_came, .inl (T.2 0, 7, .inl f_came))], [(m_seenAt, .inl (T.2 0, 16384, .inl f_seenAt))], [(m_rowWorth, .inl (T.2 0, 512, .inl f_rowWorth))], [(m_farBy, .inl (T.2 0, 49, .inl f_farBy))], [(m_used, .inl (T.2 0, 7, .inl f_used))], [(m_fitPost, .inl (T.2 0, 28, .inl f_fitPost))], [(m_fitEnd, .inl (T.2 0, 49, .inl f_fitEnd))], [(m_keptPosts, .inl (T.2 0, 7, .inl f_keptPosts))]]) (As := [.int (xs (i + 1)), .int (xs (i + 2)), .int (xs (i + 3))]) (rest := []) C G (c_cover l T xo t im mk rd po co tr wa wb_ fi cd l0 l1 d0 d1 g0 g1 ln v_7 v_8 v_9 v_10 wt v_13 v_14 v_15 v_16 v_17 v_18 z0_ v_21 v_22 v_23 v_24 v_25 v_26 z1_ tpo v_29 v_30 v_31 v_32 v_33 v_34 v_35 wr v_37 v_38 v_39 v_40 v_41 v_42 wrp (xs (i + 1)) (xs (i + 2)) (xs (i + 3)) h_11 (by first | assumption | omega | rfl) h_19 (by first | assumption | omega | rfl) h_27 (by first | assumption | omega | rfl) h_36 h_43) (kV_RL_116 C.2.2.2.2 (Nat.le_of_ble_eq_true rfl) (Nat.le_of_ble_eq_true rfl)) [0, 1, 2, 3, 17, 18] [4, 5, 6, 7, 8, 9, 10, 11, 12, 13, 14, 15, 16, 19, 20, 21, 22, 23, 24, 25, 26, 27, 28, 29, 30, 31, 32, 33, 34, 35, 36, 37, 38, 39, 40, 41, 42, 43, 44, 45, 46, 47, 48, 49, 50, 51, 52, 53, 54, 55, 56, 57, 58, 59] rfl rfl (ci := 10) (qc := (RX11, TX11, 11)) rfl rfl (List.mem_flatten.mpr ⟨_, List.mem_of_getElem? (i := 0) rfl, List.mem_cons_self⟩) rfl rfl hl.1 dL_law_1260 (by show _ + 0 ≤ 600000; omega) (by show _ + 0 ≤ 7302250; omega) (fun r_61 b1 H locs hw G => ?_)
  obtain ⟨t1_44, t2_45, u0__46, u1__47, u2__48, u3__49, u4__50, wr_51, tpl_52, tf1_53, tf2_54, tf3_55, tst_56, twh_57, wrp_58, rfl, h_59, h_60⟩ := hw
  have G : zS T A s.heap s [wd0_, wd1_, wg0_, wg1_, [(rd, .inr (7, [.ref rl, .ref rdd, .ref rg, .int r0, .int r1, .ref tq, .int r2, .int r3, .int r4, .int r5, .int r6, .int r7, .int r8]))], z, wd, wg, wwA, wwB, wff, wc, wcp, wp, [(cd, .inl (T.2 0, 1000, .inl fcd))], wta, z0_a, z1_a, wd0_a, wd1_a, wg0_a, wg1_a, wtb, z0_b, z1_b, wd0_b, wd1_b, wg0_b, wg1_b, wtc, z0_c, z1_c, wd0_c, wd1_c, wg0_c, wg1_c, [(im, .inl (T.2 6, 3, .inr (.inr (.inr (.inr qi)))))], [(mk, .inl (T.2 2, 3, .inl fmk))], [(mo, .inr (11, [.ref m_all, .ref m_has, .int i_size, .int i_next, .int i_where, .int i_token, .int i_number, .int i_word, .int i_wrong, .int i_farCrossing, .ref m_read, .int i_z0, .int i_crossings, .int i_inns, .ref m_posts, .ref m_shut, .ref m_here, .int i_steps, .int i_done, .int i_at, .int i_gone, .ref m_was, .ref m_came, .ref m_seenAt, .ref m_rowWorth, .ref m_farBy, .ref m_used, .int i_everywhere, .int i_again0, .int i_d0, .int i_never, .int i_firstCame, .int i_longRun, .int i_moved, .int i_crowd, .int i_l0, .int i_fitMany, .int i_fitLeast, .int i_fitMost, .ref m_fitPost, .ref m_fitEnd, .ref m_keptPosts, .int i_x0]))], [(m_all, .inl (T.2 0, 3952, .inl f_all))], [(m_has, .inl (T.2 2, 3, .inl f_has))], [(m_read, .inl (T.2 0, 121, .inl f_read))], [(m_posts, .inl (T.2 0, 7, .inl f_posts))], [(m_shut, .inl (T.2 0, 7, .inl f_shut))], [(m_here, .inl (T.2 0, 7, .inl f_here))], [(m_was, .inl (T.2 0, 7, .inl f_was))], [(m_came, .inl (T.2 0, 7, .inl f_came))], [(m_seenAt, .inl (T.2 0, 16384, .inl f_seenAt))], [(m_rowWorth, .inl (T.2 0, 512, .inl f_rowWorth))], [(m_farBy, .inl (T.2 0, 49, .inl f_farBy))], [(m_used, .inl (T.2 0, 7, .inl f_used))], [(m_fitPost, .inl (T.2 0, 28, .inl f_fitPost))], [(m_fitEnd, .inl (T.2 0, 49, .inl f_fitEnd))], [(m_keptPosts, .inl (T.2 0, 7, .inl f_keptPosts))], [(xo, .inr (10, [.ref t, .ref im, .ref mk, .ref rd, .ref po, .ref co, .ref tr, .ref wa, .ref wb_, .ref fi, .ref cd]))], wt, z0_, z1_, wr_51, wrp_58] _ _ := G
  refine lv_pop hx hb dL_law_1263 rfl ?_
  refine lv_aload_n hx hb dL_law_1264 rfl (lv_at hl 2 rfl) ?_
  refine lv_aload_n hx hb dL_law_1265 rfl (lv_at hl 0 rfl) ?_
  refine lv_iload_n hx hb dL_law_1266 rfl (lv_at hl 3 rfl) ?_
  refine lv_iconst (v := 1) hx hb dL_law_1267 (by decide) ?_
  refine lv_iadd hx hb dL_law_1268 ?_
  refine lv_topi (fun y_62 ey_62 => ?_)
  obtain rfl : y_62 = nI (i + 1) := ey_62.trans (z_iaddn i 1 rfl rfl)
  refine va_sld hx hb hX hbl hbA G.2.2.2.1 (vp_in_nI (by omega) (by omega)) dL_law_1269 ?_
  refine lv_topi (fun v_63 ev_63 => ?_)
  rw [nI_clamp (by omega)] at ev_63
  have ev_63 : v_63 = xs (i + 1) := ev_63
  subst ev_63
  refine lv_aload_n hx hb dL_law_1270 rfl (lv_at hl 0 rfl) ?_
  refine lv_iload_n hx hb dL_law_1271 rfl (lv_at hl 3 rfl) ?_
  refine lv_iconst (v := 2) hx hb dL_law_1272 (by decide) ?_
  refine lv_iadd hx hb dL_law_1273 ?_
  refine lv_topi (fun y_64 ey_64 => ?_)
  obtain rfl : y_64 = nI (i + 2) := ey_64.trans (z_iaddn i 2 rfl rfl)
  refine va_sld hx hb hX hbl hbA G.2.2.2.1 (vp_in_nI (by omega) (by omega)) dL_law_1274 ?_
  refine lv_topi (fun v_65 ev_65 => ?_)
  rw [nI_clamp (by omega)] at ev_65
  have ev_65 : v_65 = xs (i + 2) := ev_65
  subst ev_65
  refine lv_aload_n hx hb dL_law_1275 rfl (lv_at hl 0 rfl) ?_
  refine lv_iload_n hx hb dL_law_1276 rfl (lv_at hl 3 rfl) ?_
  refine lv_iconst (v := 3) hx hb dL_law_1277 (by decide) ?_
  refine lv_iadd hx hb dL_law_1278 ?_
  refine lv_topi (fun y_66 ey_66 => ?_)
  obtain rfl : y_66 = nI (i + 3) := ey_66.trans (z_iaddn i 3 rfl rfl)
  refine va_sld hx hb hX hbl hbA G.2.2.2.1 (vp_in_nI (by omega) (by omega)) dL_law_1279 ?_
  refine lv_topi (fun v_67 ev_67 => ?_)
  rw [nI_clamp (by omega)] at ev_67
  have ev_67 : v_67 = xs (i + 3) := ev_67
  subst ev_67
  refine z_Vi (bc := [[(mo, .inr (11, [.ref m_all, .ref m_has, .int i_size, .int i_next, .int i_where, .int i_token, .int i_number, .int i_word, .int i_wrong, .int i_farCrossing, .ref m_read, .int i_z0, .int i_crossings, .int i_inns, .ref m_posts, .ref m_shut, .ref m_here, .int i_steps, .int i_done, .int i_at, .int i_gone, .ref m_was, .ref m_came, .ref m_seenAt, .ref m_rowWorth, .ref m_farBy, .ref m_used, .int i_everywhere, .int i_again0, .int i_d0, .int i_never, .int i_firstCame, .int i_longRun, .int i_moved, .int i_crowd, .int i_l0, .int i_fitMany, .int i_fitLeast, .int i_fitMost, .ref m_fitPost, .ref m_fitEnd, .ref m_keptPosts, .int i_x0]))], [(m_all, .inl (T.2 0, 3952, .inl f_all))], [(m_posts, .inl (T.2 0, 7, .inl f_posts))], [(m_shut, .inl (T.2 0, 7, .inl f_shut))], [(m_here, .inl (T.2 0, 7, .inl f_here))], [(m_was, .inl (T.2 0, 7, .inl f_was))], [(m_farBy, .inl (T.2 0, 49, .inl f_farBy))], [(m_used, .inl (T.2 0, 7, .inl f_used))]]) (br := [wd0_, wd1_, wg0_, wg1_, [(rd, .inr (7, [.ref rl, .ref rdd, .ref rg, .int r0, .int r1, .ref tq, .int r2, .int r3, .int r4, .int r5, .int r6, .int r7, .int r8]))], z, wd, wg, wwA, wwB, wff, wc, wcp, wp, [(cd, .inl (T.2 0, 1000, .inl fcd))], wta, z0_a, z1_a, wd0_a, wd1_a, wg0_a, wg1_a, wtb, z0_b, z1_b, wd0_b, wd1_b, wg0_b, wg1_b, wtc, z0_c, z1_c, wd0_c, wd1_c, wg0_c, wg1_c, [(im, .inl (T.2 6, 3, .inr (.inr (.inr (.inr qi)))))], [(mk, .inl (T.2 2, 3, .inl fmk))], [(m_has, .inl (T.2 2, 3, .inl f_has))], [(m_read, .inl (T.2 0, 121, .inl f_read))], [(m_came, .inl (T.2 0, 7, .inl f_came))], [(m_seenAt, .inl (T.2 0, 16384, .inl f_seenAt))], [(m_rowWorth, .inl (T.2 0, 512, .inl f_rowWorth))], [(m_fitPost, .inl (T.2 0, 28, .inl f_fitPost))], [(m_fitEnd, .inl (T.2 0, 49, .inl f_fitEnd))], [(m_keptPosts, .inl (T.2 0, 7, .inl f_keptPosts))], [(xo, .inr (10, [.ref t, .ref im, .ref mk, .ref rd, .ref po, .ref co, .ref tr, .ref wa, .ref wb_, .ref fi, .ref cd]))], wt, z0_, z1_, wr_51, wrp_58]) (As := [.int (xs (i + 1)), .int (xs (i + 2)), .int (xs (i + 3))]) (rest := []) C G (c_m_cover l T mo m_all m_has i_size i_next i_where i_token i_number i_word i_wrong i_farCrossing m_read i_z0 i_crossings i_inns m_posts m_shut m_here i_steps i_done i_at i_gone m_was m_came m_seenAt m_rowWorth m_farBy m_used i_everywhere i_again0 i_d0 i_never i_firstCame i_longRun i_moved i_crowd i_l0 i_fitMany i_fitLeast i_fitMost m_fitPost m_fitEnd m_keptPosts i_x0 f_all f_posts f_shut f_here f_was f_farBy f_used (xs (i + 1)) (xs (i + 2)) (xs (i + 3)) (by first | assumption | omega | rfl)) (kV_RL_119 C.2.2.2.2 (Nat.le_of_ble_eq_true rfl) (Nat.le_of_ble_eq_true rfl)) [38, 39, 42, 43, 44, 45, 49, 50] [0, 1, 2, 3, 4, 5, 6, 7, 8, 9, 10, 11, 12, 13, 14, 15, 16, 17, 18, 19, 20, 21, 22, 23, 24, 25, 26, 27, 28, 29, 30, 31, 32, 33, 34, 35, 36, 37, 40, 41, 46, 47, 48, 51, 52, 53, 54, 55, 56, 57, 58, 59] rfl rfl (ci := 11) (qc := (RX12, TX12, 43)) rfl rfl (List.mem_flatten.mpr ⟨_, List.mem_of_getElem? (i := 0) rfl, List.mem_cons_self⟩) rfl rfl hl.1 dL_law_1280 (by show _ + 0 ≤ 600000; omega) (by show _ + 0 ≤ 7302250; omega) (fun r_83 b1 H locs hw G => ?_)
  obtain ⟨j_z0_68, j_crossings_69, j_inns_70, j_steps_71, j_done_72, j_at_73, j_gone_74, j_everywhere_75, j_again0_76, g_posts_77, g_shut_78, g_here_79, g_was_80, g_farBy_81, g_used_82, rfl⟩ := hw
  have G : zS T A s.heap s [wd0_, wd1_, wg0_, wg1_, [(rd, .inr (7, [.ref rl, .ref rdd, .ref rg, .int r0, .int r1, .ref tq, .int r2, .int r3, .int r4, .int r5, .int r6, .int r7, .int r8]))], z, wd, wg, wwA, wwB, wff, wc, wcp, wp, [(cd, .inl (T.2 0, 1000, .inl fcd))], wta, z0_a, z1_a, wd0_a, wd1_a, wg0_a, wg1_a, wtb, z0_b, z1_b, wd0_b, wd1_b, wg0_b, wg1_b, wtc, z0_c, z1_c, wd0_c, wd1_c, wg0_c, wg1_c, [(im, .inl (T.2 6, 3, .inr (.inr (.inr (.inr qi)))))], [(mk, .inl (T.2 2, 3, .inl fmk))], [(m_has, .inl (T.2 2, 3, .inl f_has))], [(m_read, .inl (T.2 0, 121, .inl f_read))], [(m_came, .inl (T.2 0, 7, .inl f_came))], [(m_seenAt, .inl (T.2 0, 16384, .inl f_seenAt))], [(m_rowWorth, .inl (T.2 0, 512, .inl f_rowWorth))], [(m_fitPost, .inl (T.2 0, 28, .inl f_fitPost))], [(m_fitEnd, .inl (T.2 0, 49, .inl f_fitEnd))], [(m_keptPosts, .inl (T.2 0, 7, .inl f_keptPosts))], [(xo, .inr (10, [.ref t, .ref im, .ref mk, .ref rd, .ref po, .ref co, .ref tr, .ref wa, .ref wb_, .ref fi, .ref cd]))], wt, z0_, z1_, wr_51, wrp_58, [(mo, .inr (11, [.ref m_all, .ref m_has, .int i_size, .int i_next, .int i_where, .int i_token, .int i_number, .int i_word, .int i_wrong, .int i_farCrossing, .ref m_read, .int j_z0_68, .int j_crossings_69, .int j_inns_70, .ref m_posts, .ref m_shut, .ref m_here, .int j_steps_71, .int j_done_72, .int j_at_73, .int j_gone_74, .ref m_was, .ref m_came, .ref m_seenAt, .ref m_rowWorth, .ref m_farBy, .ref m_used, .int j_everywhere_75, .int j_again0_76, .int i_d0, .int i_never, .int i_firstCame, .int i_longRun, .int i_moved, .int i_crowd, .int i_l0, .int i_fitMany, .int i_fitLeast, .int i_fitMost, .ref m_fitPost, .ref m_fitEnd, .ref m_keptPosts, .int i_x0]))], [(m_all, .inl (T.2 0, 3952, .inl f_all))], [(m_posts, .inl (T.2 0, 7, .inl g_posts_77))], [(m_shut, .inl (T.2 0, 7, .inl g_shut_78))], [(m_here, .inl (T.2 0, 7, .inl g_here_79))], [(m_was, .inl (T.2 0, 7, .inl g_was_80))], [(m_farBy, .inl (T.2 0, 49, .inl g_farBy_81))], [(m_used, .inl (T.2 0, 7, .inl g_used_82))]] _ _ := G
  refine lv_pop hx hb dL_law_1283 rfl ?_
  refine lv_goto (tgt := 1767) hx hb dL_law_1284 (by decide) ?_
  have G := G.sub (bs' := [[(xo, .inr (10, [.ref t, .ref im, .ref mk, .ref rd, .ref po, .ref co, .ref tr, .ref wa, .ref wb_, .ref fi, .ref cd]))], wt, z0_, z1_, wd0_, wd1_, wg0_, wg1_, [(rd, .inr (7, [.ref rl, .ref rdd, .ref rg, .int r0, .int r1, .ref tq, .int r2, .int r3, .int r4, .int r5, .int r6, .int r7, .int r8]))], z, wd, wg, wwA, wwB, wff, wc, wcp, wr_51, wrp_58, wp, [(cd, .inl (T.2 0, 1000, .inl fcd))], wta, z0_a, z1_a, wd0_a, wd1_a, wg0_a, wg1_a, wtb, z0_b, z1_b, wd0_b, wd1_b, wg0_b, wg1_b, wtc, z0_c, z1_c, wd0_c, wd1_c, wg0_c, wg1_c, [(im, .inl (T.2 6, 3, .inr (.inr (.inr (.inr qi)))))], [(mk, .inl (T.2 2, 3, .inl fmk))], [(mo, .inr (11, [.ref m_all, .ref m_has, .int i_size, .int i_next, .int i_where, .int i_token, .int i_number, .int i_word, .int i_wrong, .int i_farCrossing, .ref m_read, .int j_z0_68, .int j_crossings_69, .int j_inns_70, .ref m_posts, .ref m_shut, .ref m_here, .int j_steps_71, .int j_done_72, .int j_at_73, .int j_gone_74, .ref m_was, .ref m_came, .ref m_seenAt, .ref m_rowWorth, .ref m_farBy, .ref m_used, .int j_everywhere_75, .int j_again0_76, .int i_d0, .int i_never, .int i_firstCame, .int i_longRun, .int i_moved, .int i_crowd, .int i_l0, .int i_fitMany, .int i_fitLeast, .int i_fitMost, .ref m_fitPost, .ref m_fitEnd, .ref m_keptPosts, .int i_x0]))], [(m_all, .inl (T.2 0, 3952, .inl f_all))], [(m_has, .inl (T.2 2, 3, .inl f_has))], [(m_read, .inl (T.2 0, 121, .inl f_read))], [(m_posts, .inl (T.2 0, 7, .inl g_posts_77))], [(m_shut, .inl (T.2 0, 7, .inl g_shut_78))], [(m_here, .inl (T.2 0, 7, .inl g_here_79))], [(m_was, .inl (T.2 0, 7, .inl g_was_80))], [(m_came, .inl (T.2 0, 7, .inl f_came))], [(m_seenAt, .inl (T.2 0, 16384, .inl f_seenAt))], [(m_rowWorth, .inl (T.2 0, 512, .inl f_rowWorth))], [(m_farBy, .inl (T.2 0, 49, .inl g_farBy_81))], [(m_used, .inl (T.2 0, 7, .inl g_used_82))], [(m_fitPost, .inl (T.2 0, 28, .inl f_fitPost))], [(m_fitEnd, .inl (T.2 0, 49, .inl f_fitEnd))], [(m_keptPosts, .inl (T.2 0, 7, .inl f_keptPosts))]]) [46, 47, 48, 49, 0, 1, 2, 3, 4, 5, 6, 7, 8, 9, 10, 11, 12, 50, 51, 13, 14, 15, 16, 17, 18, 19, 20, 21, 22, 23, 24, 25, 26, 27, 28, 29, 30, 31, 32, 33, 34, 35, 36, 37, 52, 53, 38, 39, 54, 55, 56, 57, 40, 41, 42, 58, 59, 43, 44, 45] rfl
  refine W.widen (k := 216 + 2 * i + 12) (n := 27000 + 6 * (n4A + n4B) + 2 * m1f) (by omega) (by omega) ?_
  exact kk n4A n4B m1f _ ⟨⟨t, im, mk, rd, po, co, tr, wa, wb_, fi, cd, wt, l0, l1, d0, d1, g0, g1, ln, z0_, z1_, wd0_, wd1_, wg0_, wg1_, rl, rdd, rg, r0, r1, tq, r2, r3, r4, r5, r6, r7, r8, z, wd, wg, wwA, mdA, wwB, mdB, wff, e0f, e1f, wc, cpo, wcp, wr_51, tpo, wrp_58, wp, fcd, m0, wta, l0a, l1a, d0a, d1a, g0a, g1a, lna, z0_a, z1_a, wd0_a, wd1_a, wg0_a, wg1_a, m1, wtb, l0b, l1b, d0b, d1b, g0b, g1b, lnb, z0_b, z1_b, wd0_b, wd1_b, wg0_b, wg1_b, m2, wtc, l0c, l1c, d0c, d1c, g0c, g1c, lnc, z0_c, z1_c, wd0_c, wd1_c, wg0_c, wg1_c, qi, fmk, m_all, m_has, i_size, i_next, i_where, i_token, i_number, i_word, i_wrong, i_farCrossing, m_read, j_z0_68, j_crossings_69, j_inns_70, m_posts, m_shut, m_here, j_steps_71, j_done_72, j_at_73, j_gone_74, m_was, m_came, m_seenAt, m_rowWorth, m_farBy, m_used, j_everywhere_75, j_again0_76, i_d0, i_never, i_firstCame, i_longRun, i_moved, i_crowd, i_l0, i_fitMany, i_fitLeast, i_fitMost, m_fitPost, m_fitEnd, m_keptPosts, i_x0, f_all, f_has, f_read, g_posts_77, g_shut_78, g_here_79, g_was_80, f_came, f_seenAt, f_rowWorth, g_farBy_81, g_used_82, f_fitPost, f_fitEnd, f_keptPosts⟩, rfl, ⟨v_7, v_8, v_9, v_10, h_11, (by first | assumption | omega)⟩, ⟨v_13, v_14, v_15, v_16, v_17, v_18, h_19, (by first | assumption | omega)⟩, ⟨v_21, v_22, v_23, v_24, v_25, v_26, h_27, (by first | assumption | omega)⟩, H_wd0_, H_wd1_, H_wg0_, H_wg1_, H_z, H_wd, H_wg, H_wwA, H_wwB, H_wff, H_wc, H_wcp, ⟨t1_44, t2_45, u0__46, u1__47, u2__48, u3__49, u4__50, h_59⟩, ⟨tpl_52, tf1_53, tf2_54, tf3_55, tst_56, twh_57, h_60⟩, H_wp, H_wta, H_z0_a, H_z1_a, H_wd0_a, H_wd1_a, H_wg0_a, H_wg1_a, H_wtb, H_z0_b, H_z1_b, H_wd0_b, H_wd1_b, H_wg0_b, H_wg1_b, H_wtc, H_z0_c, H_z1_c, H_wd0_c, H_wd1_c, H_wg0_c, H_wg1_c, (by first | assumption | omega), (by first | assumption | omega), (by first | assumption | omega), (by first | assumption | omega), (by first | assumption | omega), (by first | assumption | omega), (by first | assumption | omega), (by first | assumption | omega)⟩ _ _ ls G (lv_sub hl [0, 1, 2, 3] rfl)
set_option maxHeartbeats 40000000 in
set_option maxRecDepth 100000 in
theorem z_case_share (l : Launch) {p : Program} {e : Env} {s : State} {m : MethodId} {b : Nat} {below : List Frame} {meth : Method} {c : Code} {Q : State → Prop} {T : zTy} {A : Nat → Prop} {L i : Nat} {xs : Nat → Int32} (hx : p.tables.exec = Jvm.exec) (hb : c.code = cL_law) (C : CallFix p m c cL_law 4 s #[Value.ref b] zT RL) (hX : va_X b L xs s s.heap) (hbl : b < s.heap.size) (hbA : ¬ A b) (hL : L ≤ 3072) (hi6 : i + 6 ≤ L) {xo mo n4A n4B m1f : Nat} (hnA : n4A ≤ 131072) (hnB : n4B ≤ 131072) (hmf : m1f ≤ 16384) {bs : List va_W} (hI : zInv T xo mo n4A n4B m1f bs) {H : Heap} {locs : List Loc} {ls : Array Slot} (G : zS T A s.heap s bs H locs) (hl : lv_has ls 4 [(0, .ref b), (1, .ref xo), (2, .ref mo), (3, .int (nI i))]) (kk : ∀ (n1 n2 n3 : Nat) (bs1 : List va_W), zInv T xo mo n1 n2 n3 bs1 → ∀ (H1 : Heap) (locs1 : List Loc) (ls1 : Array Slot), zS T A s.heap s bs1 H1 locs1 → lv_has ls1 4 [(0, .ref b), (1, .ref xo), (2, .ref mo), (3, .int (nI i))] → W p l e room_1 s m #[Value.ref b] below meth c H1 locs1 (216 + 2 * i + 12) (27000 + 6 * (n1 + n2) + 2 * n3) Q (F0 m 1767 ls1 [])) : W p l e room_1 s m #[Value.ref b] below meth c H locs (216 + 2 * i) (27000 + 6 * (n4A + n4B) + 2 * m1f) Q (F0 m 1287 ls []) := by
  obtain ⟨⟨t, im, mk, rd, po, co, tr, wa, wb_, fi, cd, wt, l0, l1, d0, d1, g0, g1, ln, z0_, z1_, wd0_, wd1_, wg0_, wg1_, rl, rdd, rg, r0, r1, tq, r2, r3, r4, r5, r6, r7, r8, z, wd, wg, wwA, mdA, wwB, mdB, wff, e0f, e1f, wc, cpo, wcp, wr, tpo, wrp, wp, fcd, m0, wta, l0a, l1a, d0a, d1a, g0a, g1a, lna, z0_a, z1_a, wd0_a, wd1_a, wg0_a, wg1_a, m1, wtb, l0b, l1b, d0b, d1b, g0b, g1b, lnb, z0_b, z1_b, wd0_b, wd1_b, wg0_b, wg1_b, m2, wtc, l0c, l1c, d0c, d1c, g0c, g1c, lnc, z0_c, z1_c, wd0_c, wd1_c, wg0_c, wg1_c, qi, fmk, m_all, m_has, i_size, i_next, i_where, i_token, i_number, i_word, i_wrong, i_farCrossing, m_read, i_z0, i_crossings, i_inns, m_posts, m_shut, m_here, i_steps, i_done, i_at, i_gone, m_was, m_came, m_seenAt, m_rowWorth, m_farBy, m_used, i_everywhere, i_again0, i_d0, i_never, i_firstCame, i_longRun, i_moved, i_crowd, i_l0, i_fitMany, i_fitLeast, i_fitMost, m_fitPost, m_fitEnd, m_keptPosts, i_x0, f_all, f_has, f_read, f_posts, f_shut, f_here, f_was, f_came, f_seenAt, f_rowWorth, f_farBy, f_used, f_fitPost, f_fitEnd, f_keptPosts⟩, rfl, H_wt, H_z0_, H_z1_, H_wd0_, H_wd1_, H_wg0_, H_wg1_, H_z, H_wd, H_wg, H_wwA, H_wwB, H_wff, H_wc, H_wcp, H_wr, H_wrp, H_wp, H_wta, H_z0_a, H_z1_a, H_wd0_a, H_wd1_a, H_wg0_a, H_wg1_a, H_wtb, H_z0_b, H_z1_b, H_wd0_b, H_wd1_b, H_wg0_b, H_wg1_b, H_wtc, H_z0_c, H_z1_c, H_wd0_c, H_wd1_c, H_wg0_c, H_wg1_c, hm0, hm1, hm2, h56, hFI, hAI, hRl, hHs⟩ := hI
  replace H_wt : hTold T t l0 l1 d0 d1 g0 g1 ln wt := H_wt
  replace H_z0_ : hLand T l0 z0_ := H_z0_
  replace H_z1_ : hLand T l1 z1_ := H_z1_
  replace H_wd0_ : hDay T d0 wd0_ := H_wd0_
  replace H_wd1_ : hDay T d1 wd1_ := H_wd1_
  replace H_wg0_ : hLog T g0 wg0_ := H_wg0_
  replace H_wg1_ : hLog T g1 wg1_ := H_wg1_
  replace H_z : hLandR T rl z := H_z
  replace H_wd : hDay T rdd wd := H_wd
  replace H_wg : hLog T rg wg := H_wg
  replace H_wwA : hWays T wa mdA n4A l0 wwA := H_wwA
  replace H_wwB : hWays T wb_ mdB n4B l1 wwB := H_wwB
  replace H_wff : hFit T fi e0f e1f m1f wff := H_wff
  replace H_wc : hCourse T co cpo wc := H_wc
  replace H_wcp : hPosts T cpo wcp := H_wcp
  replace H_wr : hTrail T tr tpo wr := H_wr
  replace H_wrp : hPosts T tpo wrp := H_wrp
  replace H_wp : hPosts T po wp := H_wp
  replace H_wta : hTold T m0 l0a l1a d0a d1a g0a g1a lna wta := H_wta
  replace H_z0_a : hLand T l0a z0_a := H_z0_a
  replace H_z1_a : hLand T l1a z1_a := H_z1_a
  replace H_wd0_a : hDay T d0a wd0_a := H_wd0_a
  replace H_wd1_a : hDay T d1a wd1_a := H_wd1_a
  replace H_wg0_a : hLog T g0a wg0_a := H_wg0_a
  replace H_wg1_a : hLog T g1a wg1_a := H_wg1_a
  replace H_wtb : hTold T m1 l0b l1b d0b d1b g0b g1b lnb wtb := H_wtb
  replace H_z0_b : hLand T l0b z0_b := H_z0_b
  replace H_z1_b : hLand T l1b z1_b := H_z1_b
  replace H_wd0_b : hDay T d0b wd0_b := H_wd0_b
  replace H_wd1_b : hDay T d1b wd1_b := H_wd1_b
  replace H_wg0_b : hLog T g0b wg0_b := H_wg0_b
  replace H_wg1_b : hLog T g1b wg1_b := H_wg1_b
  replace H_wtc : hTold T m2 l0c l1c d0c d1c g0c g1c lnc wtc := H_wtc
  replace H_z0_c : hLand T l0c z0_c := H_z0_c
  replace H_z1_c : hLand T l1c z1_c := H_z1_c
  replace H_wd0_c : hDay T d0c wd0_c := H_wd0_c
  replace H_wd1_c : hDay T d1c wd1_c := H_wd1_c
  replace H_wg0_c : hLog T g0c wg0_c := H_wg0_c
  replace H_wg1_c : hLog T g1c wg1_c := H_wg1_c
  replace hm0 : qi 0 = some m0 := hm0
  replace hm1 : qi 1 = some m1 := hm1
  replace hm2 : qi 2 = some m2 := hm2
  replace h56 : ((0 ≤ r5.toInt ∧ r5.toInt ≤ 600) ∧ 0 ≤ r6.toInt ∧ r6.toInt ≤ 1000) := h56
  replace hFI : (¬ e0f = 0 → e1f.toInt = 0 ∧ ¬ mdA = 0 ∨ e1f.toInt = 1 ∧ ¬ mdB = 0) := hFI
  replace hAI : zAI f_all := hAI
  replace hRl : zRl ln lna lnb lnc f_all := hRl
  replace hHs : zHs fmk f_has := hHs
  replace G : zS T A s.heap s [[(xo, .inr (10, [.ref t, .ref im, .ref mk, .ref rd, .ref po, .ref co, .ref tr, .ref wa, .ref wb_, .ref fi, .ref cd]))], wt, z0_, z1_, wd0_, wd1_, wg0_, wg1_, [(rd, .inr (7, [.ref rl, .ref rdd, .ref rg, .int r0, .int r1, .ref tq, .int r2, .int r3, .int r4, .int r5, .int r6, .int r7, .int r8]))], z, wd, wg, wwA, wwB, wff, wc, wcp, wr, wrp, wp, [(cd, .inl (T.2 0, 1000, .inl fcd))], wta, z0_a, z1_a, wd0_a, wd1_a, wg0_a, wg1_a, wtb, z0_b, z1_b, wd0_b, wd1_b, wg0_b, wg1_b, wtc, z0_c, z1_c, wd0_c, wd1_c, wg0_c, wg1_c, [(im, .inl (T.2 6, 3, .inr (.inr (.inr (.inr qi)))))], [(mk, .inl (T.2 2, 3, .inl fmk))], [(mo, .inr (11, [.ref m_all, .ref m_has, .int i_size, .int i_next, .int i_where, .int i_token, .int i_number, .int i_word, .int i_wrong, .int i_farCrossing, .ref m_read, .int i_z0, .int i_crossings, .int i_inns, .ref m_posts, .ref m_shut, .ref m_here, .int i_steps, .int i_done, .int i_at, .int i_gone, .ref m_was, .ref m_came, .ref m_seenAt, .ref m_rowWorth, .ref m_farBy, .ref m_used, .int i_everywhere, .int i_again0, .int i_d0, .int i_never, .int i_firstCame, .int i_longRun, .int i_moved, .int i_crowd, .int i_l0, .int i_fitMany, .int i_fitLeast, .int i_fitMost, .ref m_fitPost, .ref m_fitEnd, .ref m_keptPosts, .int i_x0]))], [(m_all, .inl (T.2 0, 3952, .inl f_all))], [(m_has, .inl (T.2 2, 3, .inl f_has))], [(m_read, .inl (T.2 0, 121, .inl f_read))], [(m_posts, .inl (T.2 0, 7, .inl f_posts))], [(m_shut, .inl (T.2 0, 7, .inl f_shut))], [(m_here, .inl (T.2 0, 7, .inl f_here))], [(m_was, .inl (T.2 0, 7, .inl f_was))], [(m_came, .inl (T.2 0, 7, .inl f_came))], [(m_seenAt, .inl (T.2 0, 16384, .inl f_seenAt))], [(m_rowWorth, .inl (T.2 0, 512, .inl f_rowWorth))], [(m_farBy, .inl (T.2 0, 49, .inl f_farBy))], [(m_used, .inl (T.2 0, 7, .inl f_used))], [(m_fitPost, .inl (T.2 0, 28, .inl f_fitPost))], [(m_fitEnd, .inl (T.2 0, 49, .inl f_fitEnd))], [(m_keptPosts, .inl (T.2 0, 7, .inl f_keptPosts))]] H locs := G
  have hB := zAI_0 hAI
  have hB4 := hB.1
  obtain ⟨hln, hlna, hlnb, hlnc⟩ := zRl_in hAI hRl
  refine lv_aload_n hx hb dL_law_1287 rfl (lv_at hl 1 rfl) ?_
  refine lv_aload_n hx hb dL_law_1288 rfl (lv_at hl 0 rfl) ?_
  refine lv_iload_n hx hb dL_law_1289 rfl (lv_at hl 3 rfl) ?_
  refine lv_iconst (v := 1) hx hb dL_law_1290 (by decide) ?_
  refine lv_iadd hx hb dL_law_1291 ?_
  refine lv_topi (fun y_1 ey_1 => ?_)
  obtain rfl : y_1 = nI (i + 1) := ey_1.trans (z_iaddn i 1 rfl rfl)
  refine va_sld hx hb hX hbl hbA G.2.2.2.1 (vp_in_nI (by omega) (by omega)) dL_law_1292 ?_
  refine lv_topi (fun v_2 ev_2 => ?_)
  rw [nI_clamp (by omega)] at ev_2
  have ev_2 : v_2 = xs (i + 1) := ev_2
  subst ev_2
  refine lv_aload_n hx hb dL_law_1293 rfl (lv_at hl 0 rfl) ?_
  refine lv_iload_n hx hb dL_law_1294 rfl (lv_at hl 3 rfl) ?_
  refine lv_iconst (v := 2) hx hb dL_law_1295 (by decide) ?_
  refine lv_iadd hx hb dL_law_1296 ?_
  refine lv_topi (fun y_3 ey_3 => ?_)
  obtain rfl : y_3 = nI (i + 2) := ey_3.trans (z_iaddn i 2 rfl rfl)
  refine va_sld hx hb hX hbl hbA G.2.2.2.1 (vp_in_nI (by omega) (by omega)) dL_law_1297 ?_
  refine lv_topi (fun v_4 ev_4 => ?_)
  rw [nI_clamp (by omega)] at ev_4
  have ev_4 : v_4 = xs (i + 2) := ev_4
  subst ev_4
  refine lv_aload_n hx hb dL_law_1298 rfl (lv_at hl 0 rfl) ?_
  refine lv_iload_n hx hb dL_law_1299 rfl (lv_at hl 3 rfl) ?_
  refine lv_iconst (v := 3) hx hb dL_law_1300 (by decide) ?_
  refine lv_iadd hx hb dL_law_1301 ?_
  refine lv_topi (fun y_5 ey_5 => ?_)
  obtain rfl : y_5 = nI (i + 3) := ey_5.trans (z_iaddn i 3 rfl rfl)
  refine va_sld hx hb hX hbl hbA G.2.2.2.1 (vp_in_nI (by omega) (by omega)) dL_law_1302 ?_
  refine lv_topi (fun v_6 ev_6 => ?_)
  rw [nI_clamp (by omega)] at ev_6
  have ev_6 : v_6 = xs (i + 3) := ev_6
  subst ev_6
  refine lv_aload_n hx hb dL_law_1303 rfl (lv_at hl 0 rfl) ?_
  refine lv_iload_n hx hb dL_law_1304 rfl (lv_at hl 3 rfl) ?_
  refine lv_iconst (v := 4) hx hb dL_law_1305 (by decide) ?_
  refine lv_iadd hx hb dL_law_1306 ?_
  refine lv_topi (fun y_7 ey_7 => ?_)
  obtain rfl : y_7 = nI (i + 4) := ey_7.trans (z_iaddn i 4 rfl rfl)
  refine va_sld hx hb hX hbl hbA G.2.2.2.1 (vp_in_nI (by omega) (by omega)) dL_law_1307 ?_
  refine lv_topi (fun v_8 ev_8 => ?_)
  rw [nI_clamp (by omega)] at ev_8
  have ev_8 : v_8 = xs (i + 4) := ev_8
  subst ev_8
  obtain ⟨v_9, v_10, v_11, v_12, h_13, h_14⟩ := H_wt
  have h_14 : zKT v_12 := h_14
  obtain ⟨v_15, v_16, v_17, v_18, v_19, v_20, h_21, h_22⟩ := H_z0_
  have h_22 : zLI v_15 v_17 v_19 := h_22
  obtain ⟨v_23, v_24, v_25, v_26, v_27, v_28, h_29, h_30⟩ := H_z1_
  have h_30 : zLI v_23 v_25 v_27 := h_30
  obtain ⟨v_31, v_32, v_33, v_34, v_35, v_36, h_37⟩ := H_wp
  refine z_Vi (bc := [[(xo, .inr (10, [.ref t, .ref im, .ref mk, .ref rd, .ref po, .ref co, .ref tr, .ref wa, .ref wb_, .ref fi, .ref cd]))], wt, z0_, z1_, wp]) (br := [wd0_, wd1_, wg0_, wg1_, [(rd, .inr (7, [.ref rl, .ref rdd, .ref rg, .int r0, .int r1, .ref tq, .int r2, .int r3, .int r4, .int r5, .int r6, .int r7, .int r8]))], z, wd, wg, wwA, wwB, wff, wc, wcp, wr, wrp, [(cd, .inl (T.2 0, 1000, .inl fcd))], wta, z0_a, z1_a, wd0_a, wd1_a, wg0_a, wg1_a, wtb, z0_b, z1_b, wd0_b, wd1_b, wg0_b, wg1_b, wtc, z0_c, z1_c, wd0_c, wd1_c, wg0_c, wg1_c, [(im, .inl (T.2 6, 3, .inr (.inr (.inr (.inr qi)))))], [(mk, .inl (T.2 2, 3, .inl fmk))], [(mo, .inr (11, [.ref m_all, .ref m_has, .int i_size, .int i_next, .int i_where, .int i_token, .int i_number, .int i_word, .int i_wrong, .int i_farCrossing, .ref m_read, .int i_z0, .int i_crossings, .int i_inns, .ref m_posts, .ref m_shut, .ref m_here, .int i_steps, .int i_done, .int i_at, .int i_gone, .ref m_was, .ref m_came, .ref m_seenAt, .ref m_rowWorth, .ref m_farBy, .ref m_used, .int i_everywhere, .int i_again0, .int i_d0, .int i_never, .int i_firstCame, .int i_longRun, .int i_moved, .int i_crowd, .int i_l0, .int i_fitMany, .int i_fitLeast, .int i_fitMost, .ref m_fitPost, .ref m_fitEnd, .ref m_keptPosts, .int i_x0]))], [(m_all, .inl (T.2 0, 3952, .inl f_all))], [(m_has, .inl (T.2 2, 3, .inl f_has))], [(m_read, .inl (T.2 0, 121, .inl f_read))], [(m_posts, .inl (T.2 0, 7, .inl f_posts))], [(m_shut, .inl (T.2 0, 7, .inl f_shut))], [(m_here, .inl (T.2 0, 7, .inl f_here))], [(m_was, .inl (T.2 0, 7, .inl f_was))], [(m_came, .inl (T.2 0, 7, .inl f_came))], [(m_seenAt, .inl (T.2 0, 16384, .inl f_seenAt))], [(m_rowWorth, .inl (T.2 0, 512, .inl f_rowWorth))], [(m_farBy, .inl (T.2 0, 49, .inl f_farBy))], [(m_used, .inl (T.2 0, 7, .inl f_used))], [(m_fitPost, .inl (T.2 0, 28, .inl f_fitPost))], [(m_fitEnd, .inl (T.2 0, 49, .inl f_fitEnd))], [(m_keptPosts, .inl (T.2 0, 7, .inl f_keptPosts))]]) (As := [.int (xs (i + 1)), .int (xs (i + 2)), .int (xs (i + 3)), .int (xs (i + 4))]) (rest := []) C G (c_share l T xo t im mk rd po co tr wa wb_ fi cd l0 l1 d0 d1 g0 g1 ln v_9 v_10 v_11 v_12 wt v_15 v_16 v_17 v_18 v_19 v_20 z0_ v_23 v_24 v_25 v_26 v_27 v_28 z1_ v_31 v_32 v_33 v_34 v_35 v_36 wp (xs (i + 1)) (xs (i + 2)) (xs (i + 3)) (xs (i + 4)) h_13 (by first | assumption | omega | rfl) h_21 (by first | assumption | omega | rfl) h_29 (by first | assumption | omega | rfl) h_37) (kV_RL_120 C.2.2.2.2 (Nat.le_of_ble_eq_true rfl) (Nat.le_of_ble_eq_true rfl)) [0, 1, 2, 3, 19] [4, 5, 6, 7, 8, 9, 10, 11, 12, 13, 14, 15, 16, 17, 18, 20, 21, 22, 23, 24, 25, 26, 27, 28, 29, 30, 31, 32, 33, 34, 35, 36, 37, 38, 39, 40, 41, 42, 43, 44, 45, 46, 47, 48, 49, 50, 51, 52, 53, 54, 55, 56, 57, 58, 59] rfl rfl (ci := 10) (qc := (RX11, TX11, 11)) rfl rfl (List.mem_flatten.mpr ⟨_, List.mem_of_getElem? (i := 0) rfl, List.mem_cons_self⟩) rfl rfl hl.1 dL_law_1308 (by show _ + 0 ≤ 600000; omega) (by show _ + 0 ≤ 7302250; omega) (fun r_46 b1 H locs hw G => ?_)
  obtain ⟨lp_38, f1_39, f2_40, f3_41, st_42, wh_43, wp_44, rfl, h_45⟩ := hw
  have G : zS T A s.heap s [wd0_, wd1_, wg0_, wg1_, [(rd, .inr (7, [.ref rl, .ref rdd, .ref rg, .int r0, .int r1, .ref tq, .int r2, .int r3, .int r4, .int r5, .int r6, .int r7, .int r8]))], z, wd, wg, wwA, wwB, wff, wc, wcp, wr, wrp, [(cd, .inl (T.2 0, 1000, .inl fcd))], wta, z0_a, z1_a, wd0_a, wd1_a, wg0_a, wg1_a, wtb, z0_b, z1_b, wd0_b, wd1_b, wg0_b, wg1_b, wtc, z0_c, z1_c, wd0_c, wd1_c, wg0_c, wg1_c, [(im, .inl (T.2 6, 3, .inr (.inr (.inr (.inr qi)))))], [(mk, .inl (T.2 2, 3, .inl fmk))], [(mo, .inr (11, [.ref m_all, .ref m_has, .int i_size, .int i_next, .int i_where, .int i_token, .int i_number, .int i_word, .int i_wrong, .int i_farCrossing, .ref m_read, .int i_z0, .int i_crossings, .int i_inns, .ref m_posts, .ref m_shut, .ref m_here, .int i_steps, .int i_done, .int i_at, .int i_gone, .ref m_was, .ref m_came, .ref m_seenAt, .ref m_rowWorth, .ref m_farBy, .ref m_used, .int i_everywhere, .int i_again0, .int i_d0, .int i_never, .int i_firstCame, .int i_longRun, .int i_moved, .int i_crowd, .int i_l0, .int i_fitMany, .int i_fitLeast, .int i_fitMost, .ref m_fitPost, .ref m_fitEnd, .ref m_keptPosts, .int i_x0]))], [(m_all, .inl (T.2 0, 3952, .inl f_all))], [(m_has, .inl (T.2 2, 3, .inl f_has))], [(m_read, .inl (T.2 0, 121, .inl f_read))], [(m_posts, .inl (T.2 0, 7, .inl f_posts))], [(m_shut, .inl (T.2 0, 7, .inl f_shut))], [(m_here, .inl (T.2 0, 7, .inl f_here))], [(m_was, .inl (T.2 0, 7, .inl f_was))], [(m_came, .inl (T.2 0, 7, .inl f_came))], [(m_seenAt, .inl (T.2 0, 16384, .inl f_seenAt))], [(m_rowWorth, .inl (T.2 0, 512, .inl f_rowWorth))], [(m_farBy, .inl (T.2 0, 49, .inl f_farBy))], [(m_used, .inl (T.2 0, 7, .inl f_used))], [(m_fitPost, .inl (T.2 0, 28, .inl f_fitPost))], [(m_fitEnd, .inl (T.2 0, 49, .inl f_fitEnd))], [(m_keptPosts, .inl (T.2 0, 7, .inl f_keptPosts))], [(xo, .inr (10, [.ref t, .ref im, .ref mk, .ref rd, .ref po, .ref co, .ref tr, .ref wa, .ref wb_, .ref fi, .ref cd]))], wt, z0_, z1_, wp_44] _ _ := G
  refine lv_pop hx hb dL_law_1311 rfl ?_
  refine lv_aload_n hx hb dL_law_1312 rfl (lv_at hl 2 rfl) ?_
  refine lv_aload_n hx hb dL_law_1313 rfl (lv_at hl 0 rfl) ?_
  refine lv_iload_n hx hb dL_law_1314 rfl (lv_at hl 3 rfl) ?_
  refine lv_iconst (v := 1) hx hb dL_law_1315 (by decide) ?_
  refine lv_iadd hx hb dL_law_1316 ?_
  refine lv_topi (fun y_47 ey_47 => ?_)
  obtain rfl : y_47 = nI (i + 1) := ey_47.trans (z_iaddn i 1 rfl rfl)
  refine va_sld hx hb hX hbl hbA G.2.2.2.1 (vp_in_nI (by omega) (by omega)) dL_law_1317 ?_
  refine lv_topi (fun v_48 ev_48 => ?_)
  rw [nI_clamp (by omega)] at ev_48
  have ev_48 : v_48 = xs (i + 1) := ev_48
  subst ev_48
  refine lv_aload_n hx hb dL_law_1318 rfl (lv_at hl 0 rfl) ?_
  refine lv_iload_n hx hb dL_law_1319 rfl (lv_at hl 3 rfl) ?_
  refine lv_iconst (v := 2) hx hb dL_law_1320 (by decide) ?_
  refine lv_iadd hx hb dL_law_1321 ?_
  refine lv_topi (fun y_49 ey_49 => ?_)
  obtain rfl : y_49 = nI (i + 2) := ey_49.trans (z_iaddn i 2 rfl rfl)
  refine va_sld hx hb hX hbl hbA G.2.2.2.1 (vp_in_nI (by omega) (by omega)) dL_law_1322 ?_
  refine lv_topi (fun v_50 ev_50 => ?_)
  rw [nI_clamp (by omega)] at ev_50
  have ev_50 : v_50 = xs (i + 2) := ev_50
  subst ev_50
  refine lv_aload_n hx hb dL_law_1323 rfl (lv_at hl 0 rfl) ?_
  refine lv_iload_n hx hb dL_law_1324 rfl (lv_at hl 3 rfl) ?_
  refine lv_iconst (v := 3) hx hb dL_law_1325 (by decide) ?_
  refine lv_iadd hx hb dL_law_1326 ?_
  refine lv_topi (fun y_51 ey_51 => ?_)
  obtain rfl : y_51 = nI (i + 3) := ey_51.trans (z_iaddn i 3 rfl rfl)
  refine va_sld hx hb hX hbl hbA G.2.2.2.1 (vp_in_nI (by omega) (by omega)) dL_law_1327 ?_
  refine lv_topi (fun v_52 ev_52 => ?_)
  rw [nI_clamp (by omega)] at ev_52
  have ev_52 : v_52 = xs (i + 3) := ev_52
  subst ev_52
  refine lv_aload_n hx hb dL_law_1328 rfl (lv_at hl 0 rfl) ?_
  refine lv_iload_n hx hb dL_law_1329 rfl (lv_at hl 3 rfl) ?_
  refine lv_iconst (v := 4) hx hb dL_law_1330 (by decide) ?_
  refine lv_iadd hx hb dL_law_1331 ?_
  refine lv_topi (fun y_53 ey_53 => ?_)
  obtain rfl : y_53 = nI (i + 4) := ey_53.trans (z_iaddn i 4 rfl rfl)
  refine va_sld hx hb hX hbl hbA G.2.2.2.1 (vp_in_nI (by omega) (by omega)) dL_law_1332 ?_
  refine lv_topi (fun v_54 ev_54 => ?_)
  rw [nI_clamp (by omega)] at ev_54
  have ev_54 : v_54 = xs (i + 4) := ev_54
  subst ev_54
  refine z_Vi (bc := [[(mo, .inr (11, [.ref m_all, .ref m_has, .int i_size, .int i_next, .int i_where, .int i_token, .int i_number, .int i_word, .int i_wrong, .int i_farCrossing, .ref m_read, .int i_z0, .int i_crossings, .int i_inns, .ref m_posts, .ref m_shut, .ref m_here, .int i_steps, .int i_done, .int i_at, .int i_gone, .ref m_was, .ref m_came, .ref m_seenAt, .ref m_rowWorth, .ref m_farBy, .ref m_used, .int i_everywhere, .int i_again0, .int i_d0, .int i_never, .int i_firstCame, .int i_longRun, .int i_moved, .int i_crowd, .int i_l0, .int i_fitMany, .int i_fitLeast, .int i_fitMost, .ref m_fitPost, .ref m_fitEnd, .ref m_keptPosts, .int i_x0]))], [(m_all, .inl (T.2 0, 3952, .inl f_all))], [(m_posts, .inl (T.2 0, 7, .inl f_posts))], [(m_shut, .inl (T.2 0, 7, .inl f_shut))], [(m_here, .inl (T.2 0, 7, .inl f_here))], [(m_was, .inl (T.2 0, 7, .inl f_was))]]) (br := [wd0_, wd1_, wg0_, wg1_, [(rd, .inr (7, [.ref rl, .ref rdd, .ref rg, .int r0, .int r1, .ref tq, .int r2, .int r3, .int r4, .int r5, .int r6, .int r7, .int r8]))], z, wd, wg, wwA, wwB, wff, wc, wcp, wr, wrp, [(cd, .inl (T.2 0, 1000, .inl fcd))], wta, z0_a, z1_a, wd0_a, wd1_a, wg0_a, wg1_a, wtb, z0_b, z1_b, wd0_b, wd1_b, wg0_b, wg1_b, wtc, z0_c, z1_c, wd0_c, wd1_c, wg0_c, wg1_c, [(im, .inl (T.2 6, 3, .inr (.inr (.inr (.inr qi)))))], [(mk, .inl (T.2 2, 3, .inl fmk))], [(m_has, .inl (T.2 2, 3, .inl f_has))], [(m_read, .inl (T.2 0, 121, .inl f_read))], [(m_came, .inl (T.2 0, 7, .inl f_came))], [(m_seenAt, .inl (T.2 0, 16384, .inl f_seenAt))], [(m_rowWorth, .inl (T.2 0, 512, .inl f_rowWorth))], [(m_farBy, .inl (T.2 0, 49, .inl f_farBy))], [(m_used, .inl (T.2 0, 7, .inl f_used))], [(m_fitPost, .inl (T.2 0, 28, .inl f_fitPost))], [(m_fitEnd, .inl (T.2 0, 49, .inl f_fitEnd))], [(m_keptPosts, .inl (T.2 0, 7, .inl f_keptPosts))], [(xo, .inr (10, [.ref t, .ref im, .ref mk, .ref rd, .ref po, .ref co, .ref tr, .ref wa, .ref wb_, .ref fi, .ref cd]))], wt, z0_, z1_, wp_44]) (As := [.int (xs (i + 1)), .int (xs (i + 2)), .int (xs (i + 3)), .int (xs (i + 4))]) (rest := []) C G (c_m_share l T mo m_all m_has i_size i_next i_where i_token i_number i_word i_wrong i_farCrossing m_read i_z0 i_crossings i_inns m_posts m_shut m_here i_steps i_done i_at i_gone m_was m_came m_seenAt m_rowWorth m_farBy m_used i_everywhere i_again0 i_d0 i_never i_firstCame i_longRun i_moved i_crowd i_l0 i_fitMany i_fitLeast i_fitMost m_fitPost m_fitEnd m_keptPosts i_x0 f_all f_posts f_shut f_here f_was (xs (i + 1)) (xs (i + 2)) (xs (i + 3)) (xs (i + 4)) (by first | assumption | omega | rfl)) (kV_RL_123 C.2.2.2.2 (Nat.le_of_ble_eq_true rfl) (Nat.le_of_ble_eq_true rfl)) [39, 40, 43, 44, 45, 46] [0, 1, 2, 3, 4, 5, 6, 7, 8, 9, 10, 11, 12, 13, 14, 15, 16, 17, 18, 19, 20, 21, 22, 23, 24, 25, 26, 27, 28, 29, 30, 31, 32, 33, 34, 35, 36, 37, 38, 41, 42, 47, 48, 49, 50, 51, 52, 53, 54, 55, 56, 57, 58, 59] rfl rfl (ci := 11) (qc := (RX12, TX12, 43)) rfl rfl (List.mem_flatten.mpr ⟨_, List.mem_of_getElem? (i := 0) rfl, List.mem_cons_self⟩) rfl rfl hl.1 dL_law_1333 (by show _ + 0 ≤ 600000; omega) (by show _ + 0 ≤ 7302250; omega) (fun r_66 b1 H locs hw G => ?_)
  obtain ⟨j_z0_55, j_crossings_56, j_inns_57, j_steps_58, j_done_59, j_at_60, j_gone_61, g_posts_62, g_shut_63, g_here_64, g_was_65, rfl⟩ := hw
  have G : zS T A s.heap s [wd0_, wd1_, wg0_, wg1_, [(rd, .inr (7, [.ref rl, .ref rdd, .ref rg, .int r0, .int r1, .ref tq, .int r2, .int r3, .int r4, .int r5, .int r6, .int r7, .int r8]))], z, wd, wg, wwA, wwB, wff, wc, wcp, wr, wrp, [(cd, .inl (T.2 0, 1000, .inl fcd))], wta, z0_a, z1_a, wd0_a, wd1_a, wg0_a, wg1_a, wtb, z0_b, z1_b, wd0_b, wd1_b, wg0_b, wg1_b, wtc, z0_c, z1_c, wd0_c, wd1_c, wg0_c, wg1_c, [(im, .inl (T.2 6, 3, .inr (.inr (.inr (.inr qi)))))], [(mk, .inl (T.2 2, 3, .inl fmk))], [(m_has, .inl (T.2 2, 3, .inl f_has))], [(m_read, .inl (T.2 0, 121, .inl f_read))], [(m_came, .inl (T.2 0, 7, .inl f_came))], [(m_seenAt, .inl (T.2 0, 16384, .inl f_seenAt))], [(m_rowWorth, .inl (T.2 0, 512, .inl f_rowWorth))], [(m_farBy, .inl (T.2 0, 49, .inl f_farBy))], [(m_used, .inl (T.2 0, 7, .inl f_used))], [(m_fitPost, .inl (T.2 0, 28, .inl f_fitPost))], [(m_fitEnd, .inl (T.2 0, 49, .inl f_fitEnd))], [(m_keptPosts, .inl (T.2 0, 7, .inl f_keptPosts))], [(xo, .inr (10, [.ref t, .ref im, .ref mk, .ref rd, .ref po, .ref co, .ref tr, .ref wa, .ref wb_, .ref fi, .ref cd]))], wt, z0_, z1_, wp_44, [(mo, .inr (11, [.ref m_all, .ref m_has, .int i_size, .int i_next, .int i_where, .int i_token, .int i_number, .int i_word, .int i_wrong, .int i_farCrossing, .ref m_read, .int j_z0_55, .int j_crossings_56, .int j_inns_57, .ref m_posts, .ref m_shut, .ref m_here, .int j_steps_58, .int j_done_59, .int j_at_60, .int j_gone_61, .ref m_was, .ref m_came, .ref m_seenAt, .ref m_rowWorth, .ref m_farBy, .ref m_used, .int i_everywhere, .int i_again0, .int i_d0, .int i_never, .int i_firstCame, .int i_longRun, .int i_moved, .int i_crowd, .int i_l0, .int i_fitMany, .int i_fitLeast, .int i_fitMost, .ref m_fitPost, .ref m_fitEnd, .ref m_keptPosts, .int i_x0]))], [(m_all, .inl (T.2 0, 3952, .inl f_all))], [(m_posts, .inl (T.2 0, 7, .inl g_posts_62))], [(m_shut, .inl (T.2 0, 7, .inl g_shut_63))], [(m_here, .inl (T.2 0, 7, .inl g_here_64))], [(m_was, .inl (T.2 0, 7, .inl g_was_65))]] _ _ := G
  refine lv_pop hx hb dL_law_1336 rfl ?_
  refine lv_goto (tgt := 1767) hx hb dL_law_1337 (by decide) ?_
  have G := G.sub (bs' := [[(xo, .inr (10, [.ref t, .ref im, .ref mk, .ref rd, .ref po, .ref co, .ref tr, .ref wa, .ref wb_, .ref fi, .ref cd]))], wt, z0_, z1_, wd0_, wd1_, wg0_, wg1_, [(rd, .inr (7, [.ref rl, .ref rdd, .ref rg, .int r0, .int r1, .ref tq, .int r2, .int r3, .int r4, .int r5, .int r6, .int r7, .int r8]))], z, wd, wg, wwA, wwB, wff, wc, wcp, wr, wrp, wp_44, [(cd, .inl (T.2 0, 1000, .inl fcd))], wta, z0_a, z1_a, wd0_a, wd1_a, wg0_a, wg1_a, wtb, z0_b, z1_b, wd0_b, wd1_b, wg0_b, wg1_b, wtc, z0_c, z1_c, wd0_c, wd1_c, wg0_c, wg1_c, [(im, .inl (T.2 6, 3, .inr (.inr (.inr (.inr qi)))))], [(mk, .inl (T.2 2, 3, .inl fmk))], [(mo, .inr (11, [.ref m_all, .ref m_has, .int i_size, .int i_next, .int i_where, .int i_token, .int i_number, .int i_word, .int i_wrong, .int i_farCrossing, .ref m_read, .int j_z0_55, .int j_crossings_56, .int j_inns_57, .ref m_posts, .ref m_shut, .ref m_here, .int j_steps_58, .int j_done_59, .int j_at_60, .int j_gone_61, .ref m_was, .ref m_came, .ref m_seenAt, .ref m_rowWorth, .ref m_farBy, .ref m_used, .int i_everywhere, .int i_again0, .int i_d0, .int i_never, .int i_firstCame, .int i_longRun, .int i_moved, .int i_crowd, .int i_l0, .int i_fitMany, .int i_fitLeast, .int i_fitMost, .ref m_fitPost, .ref m_fitEnd, .ref m_keptPosts, .int i_x0]))], [(m_all, .inl (T.2 0, 3952, .inl f_all))], [(m_has, .inl (T.2 2, 3, .inl f_has))], [(m_read, .inl (T.2 0, 121, .inl f_read))], [(m_posts, .inl (T.2 0, 7, .inl g_posts_62))], [(m_shut, .inl (T.2 0, 7, .inl g_shut_63))], [(m_here, .inl (T.2 0, 7, .inl g_here_64))], [(m_was, .inl (T.2 0, 7, .inl g_was_65))], [(m_came, .inl (T.2 0, 7, .inl f_came))], [(m_seenAt, .inl (T.2 0, 16384, .inl f_seenAt))], [(m_rowWorth, .inl (T.2 0, 512, .inl f_rowWorth))], [(m_farBy, .inl (T.2 0, 49, .inl f_farBy))], [(m_used, .inl (T.2 0, 7, .inl f_used))], [(m_fitPost, .inl (T.2 0, 28, .inl f_fitPost))], [(m_fitEnd, .inl (T.2 0, 49, .inl f_fitEnd))], [(m_keptPosts, .inl (T.2 0, 7, .inl f_keptPosts))]]) [49, 50, 51, 52, 0, 1, 2, 3, 4, 5, 6, 7, 8, 9, 10, 11, 12, 13, 14, 53, 15, 16, 17, 18, 19, 20, 21, 22, 23, 24, 25, 26, 27, 28, 29, 30, 31, 32, 33, 34, 35, 36, 37, 38, 54, 55, 39, 40, 56, 57, 58, 59, 41, 42, 43, 44, 45, 46, 47, 48] rfl
  refine W.widen (k := 216 + 2 * i + 12) (n := 27000 + 6 * (n4A + n4B) + 2 * m1f) (by omega) (by omega) ?_
  exact kk n4A n4B m1f _ ⟨⟨t, im, mk, rd, po, co, tr, wa, wb_, fi, cd, wt, l0, l1, d0, d1, g0, g1, ln, z0_, z1_, wd0_, wd1_, wg0_, wg1_, rl, rdd, rg, r0, r1, tq, r2, r3, r4, r5, r6, r7, r8, z, wd, wg, wwA, mdA, wwB, mdB, wff, e0f, e1f, wc, cpo, wcp, wr, tpo, wrp, wp_44, fcd, m0, wta, l0a, l1a, d0a, d1a, g0a, g1a, lna, z0_a, z1_a, wd0_a, wd1_a, wg0_a, wg1_a, m1, wtb, l0b, l1b, d0b, d1b, g0b, g1b, lnb, z0_b, z1_b, wd0_b, wd1_b, wg0_b, wg1_b, m2, wtc, l0c, l1c, d0c, d1c, g0c, g1c, lnc, z0_c, z1_c, wd0_c, wd1_c, wg0_c, wg1_c, qi, fmk, m_all, m_has, i_size, i_next, i_where, i_token, i_number, i_word, i_wrong, i_farCrossing, m_read, j_z0_55, j_crossings_56, j_inns_57, m_posts, m_shut, m_here, j_steps_58, j_done_59, j_at_60, j_gone_61, m_was, m_came, m_seenAt, m_rowWorth, m_farBy, m_used, i_everywhere, i_again0, i_d0, i_never, i_firstCame, i_longRun, i_moved, i_crowd, i_l0, i_fitMany, i_fitLeast, i_fitMost, m_fitPost, m_fitEnd, m_keptPosts, i_x0, f_all, f_has, f_read, g_posts_62, g_shut_63, g_here_64, g_was_65, f_came, f_seenAt, f_rowWorth, f_farBy, f_used, f_fitPost, f_fitEnd, f_keptPosts⟩, rfl, ⟨v_9, v_10, v_11, v_12, h_13, (by first | assumption | omega)⟩, ⟨v_15, v_16, v_17, v_18, v_19, v_20, h_21, (by first | assumption | omega)⟩, ⟨v_23, v_24, v_25, v_26, v_27, v_28, h_29, (by first | assumption | omega)⟩, H_wd0_, H_wd1_, H_wg0_, H_wg1_, H_z, H_wd, H_wg, H_wwA, H_wwB, H_wff, H_wc, H_wcp, H_wr, H_wrp, ⟨lp_38, f1_39, f2_40, f3_41, st_42, wh_43, h_45⟩, H_wta, H_z0_a, H_z1_a, H_wd0_a, H_wd1_a, H_wg0_a, H_wg1_a, H_wtb, H_z0_b, H_z1_b, H_wd0_b, H_wd1_b, H_wg0_b, H_wg1_b, H_wtc, H_z0_c, H_z1_c, H_wd0_c, H_wd1_c, H_wg0_c, H_wg1_c, (by first | assumption | omega), (by first | assumption | omega), (by first | assumption | omega), (by first | assumption | omega), (by first | assumption | omega), (by first | assumption | omega), (by first | assumption | omega), (by first | assumption | omega)⟩ _ _ ls G (lv_sub hl [0, 1, 2, 3] rfl)
set_option maxHeartbeats 40000000 in
set_option maxRecDepth 100000 in
theorem z_case_longest (l : Launch) {p : Program} {e : Env} {s : State} {m : MethodId} {b : Nat} {below : List Frame} {meth : Method} {c : Code} {Q : State → Prop} {T : zTy} {A : Nat → Prop} {L i : Nat} {xs : Nat → Int32} (hx : p.tables.exec = Jvm.exec) (hb : c.code = cL_law) (C : CallFix p m c cL_law 4 s #[Value.ref b] zT RL) (hX : va_X b L xs s s.heap) (hbl : b < s.heap.size) (hbA : ¬ A b) (hL : L ≤ 3072) (hi6 : i + 6 ≤ L) {xo mo n4A n4B m1f : Nat} (hnA : n4A ≤ 131072) (hnB : n4B ≤ 131072) (hmf : m1f ≤ 16384) {bs : List va_W} (hI : zInv T xo mo n4A n4B m1f bs) {H : Heap} {locs : List Loc} {ls : Array Slot} (G : zS T A s.heap s bs H locs) (hl : lv_has ls 4 [(0, .ref b), (1, .ref xo), (2, .ref mo), (3, .int (nI i))]) (kk : ∀ (n1 n2 n3 : Nat) (bs1 : List va_W), zInv T xo mo n1 n2 n3 bs1 → ∀ (H1 : Heap) (locs1 : List Loc) (ls1 : Array Slot), zS T A s.heap s bs1 H1 locs1 → lv_has ls1 4 [(0, .ref b), (1, .ref xo), (2, .ref mo), (3, .int (nI i))] → W p l e room_1 s m #[Value.ref b] below meth c H1 locs1 (216 + 2 * i + 12) (27000 + 6 * (n1 + n2) + 2 * n3) Q (F0 m 1767 ls1 [])) : W p l e room_1 s m #[Value.ref b] below meth c H locs (216 + 2 * i) (27000 + 6 * (n4A + n4B) + 2 * m1f) Q (F0 m 1340 ls []) := by
  obtain ⟨⟨t, im, mk, rd, po, co, tr, wa, wb_, fi, cd, wt, l0, l1, d0, d1, g0, g1, ln, z0_, z1_, wd0_, wd1_, wg0_, wg1_, rl, rdd, rg, r0, r1, tq, r2, r3, r4, r5, r6, r7, r8, z, wd, wg, wwA, mdA, wwB, mdB, wff, e0f, e1f, wc, cpo, wcp, wr, tpo, wrp, wp, fcd, m0, wta, l0a, l1a, d0a, d1a, g0a, g1a, lna, z0_a, z1_a, wd0_a, wd1_a, wg0_a, wg1_a, m1, wtb, l0b, l1b, d0b, d1b, g0b, g1b, lnb, z0_b, z1_b, wd0_b, wd1_b, wg0_b, wg1_b, m2, wtc, l0c, l1c, d0c, d1c, g0c, g1c, lnc, z0_c, z1_c, wd0_c, wd1_c, wg0_c, wg1_c, qi, fmk, m_all, m_has, i_size, i_next, i_where, i_token, i_number, i_word, i_wrong, i_farCrossing, m_read, i_z0, i_crossings, i_inns, m_posts, m_shut, m_here, i_steps, i_done, i_at, i_gone, m_was, m_came, m_seenAt, m_rowWorth, m_farBy, m_used, i_everywhere, i_again0, i_d0, i_never, i_firstCame, i_longRun, i_moved, i_crowd, i_l0, i_fitMany, i_fitLeast, i_fitMost, m_fitPost, m_fitEnd, m_keptPosts, i_x0, f_all, f_has, f_read, f_posts, f_shut, f_here, f_was, f_came, f_seenAt, f_rowWorth, f_farBy, f_used, f_fitPost, f_fitEnd, f_keptPosts⟩, rfl, H_wt, H_z0_, H_z1_, H_wd0_, H_wd1_, H_wg0_, H_wg1_, H_z, H_wd, H_wg, H_wwA, H_wwB, H_wff, H_wc, H_wcp, H_wr, H_wrp, H_wp, H_wta, H_z0_a, H_z1_a, H_wd0_a, H_wd1_a, H_wg0_a, H_wg1_a, H_wtb, H_z0_b, H_z1_b, H_wd0_b, H_wd1_b, H_wg0_b, H_wg1_b, H_wtc, H_z0_c, H_z1_c, H_wd0_c, H_wd1_c, H_wg0_c, H_wg1_c, hm0, hm1, hm2, h56, hFI, hAI, hRl, hHs⟩ := hI
  replace H_wt : hTold T t l0 l1 d0 d1 g0 g1 ln wt := H_wt
  replace H_z0_ : hLand T l0 z0_ := H_z0_
  replace H_z1_ : hLand T l1 z1_ := H_z1_
  replace H_wd0_ : hDay T d0 wd0_ := H_wd0_
  replace H_wd1_ : hDay T d1 wd1_ := H_wd1_
  replace H_wg0_ : hLog T g0 wg0_ := H_wg0_
  replace H_wg1_ : hLog T g1 wg1_ := H_wg1_
  replace H_z : hLandR T rl z := H_z
  replace H_wd : hDay T rdd wd := H_wd
  replace H_wg : hLog T rg wg := H_wg
  replace H_wwA : hWays T wa mdA n4A l0 wwA := H_wwA
  replace H_wwB : hWays T wb_ mdB n4B l1 wwB := H_wwB
  replace H_wff : hFit T fi e0f e1f m1f wff := H_wff
  replace H_wc : hCourse T co cpo wc := H_wc
  replace H_wcp : hPosts T cpo wcp := H_wcp
  replace H_wr : hTrail T tr tpo wr := H_wr
  replace H_wrp : hPosts T tpo wrp := H_wrp
  replace H_wp : hPosts T po wp := H_wp
  replace H_wta : hTold T m0 l0a l1a d0a d1a g0a g1a lna wta := H_wta
  replace H_z0_a : hLand T l0a z0_a := H_z0_a
  replace H_z1_a : hLand T l1a z1_a := H_z1_a
  replace H_wd0_a : hDay T d0a wd0_a := H_wd0_a
  replace H_wd1_a : hDay T d1a wd1_a := H_wd1_a
  replace H_wg0_a : hLog T g0a wg0_a := H_wg0_a
  replace H_wg1_a : hLog T g1a wg1_a := H_wg1_a
  replace H_wtb : hTold T m1 l0b l1b d0b d1b g0b g1b lnb wtb := H_wtb
  replace H_z0_b : hLand T l0b z0_b := H_z0_b
  replace H_z1_b : hLand T l1b z1_b := H_z1_b
  replace H_wd0_b : hDay T d0b wd0_b := H_wd0_b
  replace H_wd1_b : hDay T d1b wd1_b := H_wd1_b
  replace H_wg0_b : hLog T g0b wg0_b := H_wg0_b
  replace H_wg1_b : hLog T g1b wg1_b := H_wg1_b
  replace H_wtc : hTold T m2 l0c l1c d0c d1c g0c g1c lnc wtc := H_wtc
  replace H_z0_c : hLand T l0c z0_c := H_z0_c
  replace H_z1_c : hLand T l1c z1_c := H_z1_c
  replace H_wd0_c : hDay T d0c wd0_c := H_wd0_c
  replace H_wd1_c : hDay T d1c wd1_c := H_wd1_c
  replace H_wg0_c : hLog T g0c wg0_c := H_wg0_c
  replace H_wg1_c : hLog T g1c wg1_c := H_wg1_c
  replace hm0 : qi 0 = some m0 := hm0
  replace hm1 : qi 1 = some m1 := hm1
  replace hm2 : qi 2 = some m2 := hm2
  replace h56 : ((0 ≤ r5.toInt ∧ r5.toInt ≤ 600) ∧ 0 ≤ r6.toInt ∧ r6.toInt ≤ 1000) := h56
  replace hFI : (¬ e0f = 0 → e1f.toInt = 0 ∧ ¬ mdA = 0 ∨ e1f.toInt = 1 ∧ ¬ mdB = 0) := hFI
  replace hAI : zAI f_all := hAI
  replace hRl : zRl ln lna lnb lnc f_all := hRl
  replace hHs : zHs fmk f_has := hHs
  replace G : zS T A s.heap s [[(xo, .inr (10, [.ref t, .ref im, .ref mk, .ref rd, .ref po, .ref co, .ref tr, .ref wa, .ref wb_, .ref fi, .ref cd]))], wt, z0_, z1_, wd0_, wd1_, wg0_, wg1_, [(rd, .inr (7, [.ref rl, .ref rdd, .ref rg, .int r0, .int r1, .ref tq, .int r2, .int r3, .int r4, .int r5, .int r6, .int r7, .int r8]))], z, wd, wg, wwA, wwB, wff, wc, wcp, wr, wrp, wp, [(cd, .inl (T.2 0, 1000, .inl fcd))], wta, z0_a, z1_a, wd0_a, wd1_a, wg0_a, wg1_a, wtb, z0_b, z1_b, wd0_b, wd1_b, wg0_b, wg1_b, wtc, z0_c, z1_c, wd0_c, wd1_c, wg0_c, wg1_c, [(im, .inl (T.2 6, 3, .inr (.inr (.inr (.inr qi)))))], [(mk, .inl (T.2 2, 3, .inl fmk))], [(mo, .inr (11, [.ref m_all, .ref m_has, .int i_size, .int i_next, .int i_where, .int i_token, .int i_number, .int i_word, .int i_wrong, .int i_farCrossing, .ref m_read, .int i_z0, .int i_crossings, .int i_inns, .ref m_posts, .ref m_shut, .ref m_here, .int i_steps, .int i_done, .int i_at, .int i_gone, .ref m_was, .ref m_came, .ref m_seenAt, .ref m_rowWorth, .ref m_farBy, .ref m_used, .int i_everywhere, .int i_again0, .int i_d0, .int i_never, .int i_firstCame, .int i_longRun, .int i_moved, .int i_crowd, .int i_l0, .int i_fitMany, .int i_fitLeast, .int i_fitMost, .ref m_fitPost, .ref m_fitEnd, .ref m_keptPosts, .int i_x0]))], [(m_all, .inl (T.2 0, 3952, .inl f_all))], [(m_has, .inl (T.2 2, 3, .inl f_has))], [(m_read, .inl (T.2 0, 121, .inl f_read))], [(m_posts, .inl (T.2 0, 7, .inl f_posts))], [(m_shut, .inl (T.2 0, 7, .inl f_shut))], [(m_here, .inl (T.2 0, 7, .inl f_here))], [(m_was, .inl (T.2 0, 7, .inl f_was))], [(m_came, .inl (T.2 0, 7, .inl f_came))], [(m_seenAt, .inl (T.2 0, 16384, .inl f_seenAt))], [(m_rowWorth, .inl (T.2 0, 512, .inl f_rowWorth))], [(m_farBy, .inl (T.2 0, 49, .inl f_farBy))], [(m_used, .inl (T.2 0, 7, .inl f_used))], [(m_fitPost, .inl (T.2 0, 28, .inl f_fitPost))], [(m_fitEnd, .inl (T.2 0, 49, .inl f_fitEnd))], [(m_keptPosts, .inl (T.2 0, 7, .inl f_keptPosts))]] H locs := G
  have hB := zAI_0 hAI
  have hB4 := hB.1
  obtain ⟨hln, hlna, hlnb, hlnc⟩ := zRl_in hAI hRl
  refine lv_aload_n hx hb dL_law_1340 rfl (lv_at hl 1 rfl) ?_
  refine lv_aload_n hx hb dL_law_1341 rfl (lv_at hl 0 rfl) ?_
  refine lv_iload_n hx hb dL_law_1342 rfl (lv_at hl 3 rfl) ?_
  refine lv_iconst (v := 1) hx hb dL_law_1343 (by decide) ?_
  refine lv_iadd hx hb dL_law_1344 ?_
  refine lv_topi (fun y_1 ey_1 => ?_)
  obtain rfl : y_1 = nI (i + 1) := ey_1.trans (z_iaddn i 1 rfl rfl)
  refine va_sld hx hb hX hbl hbA G.2.2.2.1 (vp_in_nI (by omega) (by omega)) dL_law_1345 ?_
  refine lv_topi (fun v_2 ev_2 => ?_)
  rw [nI_clamp (by omega)] at ev_2
  have ev_2 : v_2 = xs (i + 1) := ev_2
  subst ev_2
  refine lv_aload_n hx hb dL_law_1346 rfl (lv_at hl 0 rfl) ?_
  refine lv_iload_n hx hb dL_law_1347 rfl (lv_at hl 3 rfl) ?_
  refine lv_iconst (v := 2) hx hb dL_law_1348 (by decide) ?_
  refine lv_iadd hx hb dL_law_1349 ?_
  refine lv_topi (fun y_3 ey_3 => ?_)
  obtain rfl : y_3 = nI (i + 2) := ey_3.trans (z_iaddn i 2 rfl rfl)
  refine va_sld hx hb hX hbl hbA G.2.2.2.1 (vp_in_nI (by omega) (by omega)) dL_law_1350 ?_
  refine lv_topi (fun v_4 ev_4 => ?_)
  rw [nI_clamp (by omega)] at ev_4
  have ev_4 : v_4 = xs (i + 2) := ev_4
  subst ev_4
  refine lv_aload_n hx hb dL_law_1351 rfl (lv_at hl 0 rfl) ?_
  refine lv_iload_n hx hb dL_law_1352 rfl (lv_at hl 3 rfl) ?_
  refine lv_iconst (v := 3) hx hb dL_law_1353 (by decide) ?_
  refine lv_iadd hx hb dL_law_1354 ?_
  refine lv_topi (fun y_5 ey_5 => ?_)
  obtain rfl : y_5 = nI (i + 3) := ey_5.trans (z_iaddn i 3 rfl rfl)
  refine va_sld hx hb hX hbl hbA G.2.2.2.1 (vp_in_nI (by omega) (by omega)) dL_law_1355 ?_
  refine lv_topi (fun v_6 ev_6 => ?_)
  rw [nI_clamp (by omega)] at ev_6
  have ev_6 : v_6 = xs (i + 3) := ev_6
  subst ev_6
  refine lv_if_eq (tgt := 1363) hx hb dL_law_1356 (by decide) (fun c_7 => ?_) (fun c_7 => ?_)
  · have c_7n : (xs (i + 3)).toInt = (0 : Int) := (fa_eq _ _).mp c_7
    refine lv_iconst (v := 0) hx hb dL_law_1363 (by decide) ?_
    refine lv_aload_n hx hb dL_law_1364 rfl (lv_at hl 0 rfl) ?_
    refine lv_iload_n hx hb dL_law_1365 rfl (lv_at hl 3 rfl) ?_
    refine lv_iconst (v := 4) hx hb dL_law_1366 (by decide) ?_
    refine lv_iadd hx hb dL_law_1367 ?_
    refine lv_topi (fun y_8 ey_8 => ?_)
    obtain rfl : y_8 = nI (i + 4) := ey_8.trans (z_iaddn i 4 rfl rfl)
    refine va_sld hx hb hX hbl hbA G.2.2.2.1 (vp_in_nI (by omega) (by omega)) dL_law_1368 ?_
    refine lv_topi (fun v_9 ev_9 => ?_)
    rw [nI_clamp (by omega)] at ev_9
    have ev_9 : v_9 = xs (i + 4) := ev_9
    subst ev_9
    refine lv_if_eq (tgt := 1376) hx hb dL_law_1369 (by decide) (fun c_10 => ?_) (fun c_10 => ?_)
    · have c_10n : (xs (i + 4)).toInt = (0 : Int) := (fa_eq _ _).mp c_10
      refine lv_iconst (v := 0) hx hb dL_law_1376 (by decide) ?_
      obtain ⟨v_11, v_12, v_13, v_14, h_15, h_16⟩ := H_wt
      have h_16 : zKT v_14 := h_16
      obtain ⟨v_17, v_18, v_19, v_20, v_21, v_22, h_23, h_24⟩ := H_z0_
      have h_24 : zLI v_17 v_19 v_21 := h_24
      obtain ⟨v_25, v_26, v_27, v_28, v_29, v_30, h_31, h_32⟩ := H_z1_
      have h_32 : zLI v_25 v_27 v_29 := h_32
      obtain ⟨v_33, v_34, v_35, v_36, v_37, v_38, v_39, v_40, v_41, h_42, h_43, h_44, h_45⟩ := H_wwA
      have h_43 : zPw n4A := h_43
      have h_44 : (mdA = 0 ∨ v_33 = l0) := h_44
      have h_45 : (0 ≤ v_34.toInt ∧ v_34.toInt ≤ 16384) := h_45
      obtain ⟨v_46, v_47, v_48, v_49, v_50, v_51, v_52, v_53, v_54, h_55, h_56, h_57, h_58⟩ := H_wwB
      have h_56 : zPw n4B := h_56
      have h_57 : (mdB = 0 ∨ v_46 = l1) := h_57
      have h_58 : (0 ≤ v_47.toInt ∧ v_47.toInt ≤ 16384) := h_58
      have hq0m := zNA_mono (c := ((xs (i + 1)).toInt = 0 ∧ 0 < (v_14 0).toInt ∧ 0 ≤ (xs (i + 2)).toInt ∧ (xs (i + 2)).toInt < v_17.toInt ∧ (xs (i + 2)).toInt < 7)) (md := mdA) (cr := v_17) (inn := v_18) (k1 := v_19) h_43
      have hq0l := zPw_le (zNA_ge (c := ((xs (i + 1)).toInt = 0 ∧ 0 < (v_14 0).toInt ∧ 0 ≤ (xs (i + 2)).toInt ∧ (xs (i + 2)).toInt < v_17.toInt ∧ (xs (i + 2)).toInt < 7)) (md := mdA) (pl := (zPl v_17 v_18 v_19)) h_43)
      have hq2m := zNA_mono (c := ((xs (i + 1)).toInt = 1 ∧ 1 < (v_14 0).toInt ∧ 0 ≤ (xs (i + 2)).toInt ∧ (xs (i + 2)).toInt < v_25.toInt ∧ (xs (i + 2)).toInt < 7)) (md := mdB) (cr := v_25) (inn := v_26) (k1 := v_27) h_56
      have hq2l := zPw_le (zNA_ge (c := ((xs (i + 1)).toInt = 1 ∧ 1 < (v_14 0).toInt ∧ 0 ≤ (xs (i + 2)).toInt ∧ (xs (i + 2)).toInt < v_25.toInt ∧ (xs (i + 2)).toInt < 7)) (md := mdB) (pl := (zPl v_25 v_26 v_27)) h_56)
      refine z_Vi (bc := [[(xo, .inr (10, [.ref t, .ref im, .ref mk, .ref rd, .ref po, .ref co, .ref tr, .ref wa, .ref wb_, .ref fi, .ref cd]))], wt, z0_, z1_, wwA, wwB]) (br := [wd0_, wd1_, wg0_, wg1_, [(rd, .inr (7, [.ref rl, .ref rdd, .ref rg, .int r0, .int r1, .ref tq, .int r2, .int r3, .int r4, .int r5, .int r6, .int r7, .int r8]))], z, wd, wg, wff, wc, wcp, wr, wrp, wp, [(cd, .inl (T.2 0, 1000, .inl fcd))], wta, z0_a, z1_a, wd0_a, wd1_a, wg0_a, wg1_a, wtb, z0_b, z1_b, wd0_b, wd1_b, wg0_b, wg1_b, wtc, z0_c, z1_c, wd0_c, wd1_c, wg0_c, wg1_c, [(im, .inl (T.2 6, 3, .inr (.inr (.inr (.inr qi)))))], [(mk, .inl (T.2 2, 3, .inl fmk))], [(mo, .inr (11, [.ref m_all, .ref m_has, .int i_size, .int i_next, .int i_where, .int i_token, .int i_number, .int i_word, .int i_wrong, .int i_farCrossing, .ref m_read, .int i_z0, .int i_crossings, .int i_inns, .ref m_posts, .ref m_shut, .ref m_here, .int i_steps, .int i_done, .int i_at, .int i_gone, .ref m_was, .ref m_came, .ref m_seenAt, .ref m_rowWorth, .ref m_farBy, .ref m_used, .int i_everywhere, .int i_again0, .int i_d0, .int i_never, .int i_firstCame, .int i_longRun, .int i_moved, .int i_crowd, .int i_l0, .int i_fitMany, .int i_fitLeast, .int i_fitMost, .ref m_fitPost, .ref m_fitEnd, .ref m_keptPosts, .int i_x0]))], [(m_all, .inl (T.2 0, 3952, .inl f_all))], [(m_has, .inl (T.2 2, 3, .inl f_has))], [(m_read, .inl (T.2 0, 121, .inl f_read))], [(m_posts, .inl (T.2 0, 7, .inl f_posts))], [(m_shut, .inl (T.2 0, 7, .inl f_shut))], [(m_here, .inl (T.2 0, 7, .inl f_here))], [(m_was, .inl (T.2 0, 7, .inl f_was))], [(m_came, .inl (T.2 0, 7, .inl f_came))], [(m_seenAt, .inl (T.2 0, 16384, .inl f_seenAt))], [(m_rowWorth, .inl (T.2 0, 512, .inl f_rowWorth))], [(m_farBy, .inl (T.2 0, 49, .inl f_farBy))], [(m_used, .inl (T.2 0, 7, .inl f_used))], [(m_fitPost, .inl (T.2 0, 28, .inl f_fitPost))], [(m_fitEnd, .inl (T.2 0, 49, .inl f_fitEnd))], [(m_keptPosts, .inl (T.2 0, 7, .inl f_keptPosts))]]) (As := [.int (xs (i + 1)), .int (xs (i + 2)), .int 0, .int 0]) (rest := []) C G (c_longest l T xo t im mk rd po co tr wa wb_ fi cd l0 l1 d0 d1 g0 g1 ln v_11 v_12 v_13 v_14 wt v_17 v_18 v_19 v_20 v_21 v_22 z0_ v_25 v_26 v_27 v_28 v_29 v_30 z1_ v_33 mdA v_34 v_35 v_36 v_37 v_38 v_39 v_40 v_41 n4A wwA v_46 mdB v_47 v_48 v_49 v_50 v_51 v_52 v_53 v_54 n4B wwB (xs (i + 1)) (xs (i + 2)) 0 0 h_15 (by first | assumption | omega | rfl) h_23 (by first | assumption | omega | rfl) h_31 (by first | assumption | omega | rfl) h_42 (by first | assumption | omega | rfl) (by first | assumption | omega | rfl) (by first | assumption | omega | rfl) h_55 (by first | assumption | omega | rfl) (by first | assumption | omega | rfl) (by first | assumption | omega | rfl)) (kV_RL_124 C.2.2.2.2 (Nat.le_of_ble_eq_true rfl) (Nat.le_of_ble_eq_true rfl)) [0, 1, 2, 3, 12, 13] [4, 5, 6, 7, 8, 9, 10, 11, 14, 15, 16, 17, 18, 19, 20, 21, 22, 23, 24, 25, 26, 27, 28, 29, 30, 31, 32, 33, 34, 35, 36, 37, 38, 39, 40, 41, 42, 43, 44, 45, 46, 47, 48, 49, 50, 51, 52, 53, 54, 55, 56, 57, 58, 59] rfl rfl (ci := 10) (qc := (RX11, TX11, 11)) rfl rfl (List.mem_flatten.mpr ⟨_, List.mem_of_getElem? (i := 0) rfl, List.mem_cons_self⟩) rfl rfl hl.1 dL_law_1377 (by show _ + 3 ≤ 600000; omega) (by show _ + (6 * (zNA ((xs (i + 1)).toInt = 0 ∧ 0 < (v_14 0).toInt ∧ 0 ≤ (xs (i + 2)).toInt ∧ (xs (i + 2)).toInt < v_17.toInt ∧ (xs (i + 2)).toInt < 7) mdA n4A (zPl v_17 v_18 v_19) - n4A) + 6 * (zNA ((xs (i + 1)).toInt = 1 ∧ 1 < (v_14 0).toInt ∧ 0 ≤ (xs (i + 2)).toInt ∧ (xs (i + 2)).toInt < v_25.toInt ∧ (xs (i + 2)).toInt < 7) mdB n4B (zPl v_25 v_26 v_27) - n4B)) ≤ 7302250; omega) (fun r_95 b1 H locs hw G => ?_)
      obtain ⟨laA_59, mdA_60, wyA_61, pc_A_62, f1A_63, f2A_64, f3A_65, f4A_66, f5A_67, f6A_68, n4A_69, wwA_70, laB_71, mdB_72, wyB_73, pc_B_74, f1B_75, f2B_76, f3B_77, f4B_78, f5B_79, f6B_80, n4B_81, wwB_82, rfl, h_83, h_84, h_85, h_86, h_87, h_88, h_89, h_90, h_91, h_92, h_93, h_94⟩ := hw
      have G : zS T A s.heap s [wd0_, wd1_, wg0_, wg1_, [(rd, .inr (7, [.ref rl, .ref rdd, .ref rg, .int r0, .int r1, .ref tq, .int r2, .int r3, .int r4, .int r5, .int r6, .int r7, .int r8]))], z, wd, wg, wff, wc, wcp, wr, wrp, wp, [(cd, .inl (T.2 0, 1000, .inl fcd))], wta, z0_a, z1_a, wd0_a, wd1_a, wg0_a, wg1_a, wtb, z0_b, z1_b, wd0_b, wd1_b, wg0_b, wg1_b, wtc, z0_c, z1_c, wd0_c, wd1_c, wg0_c, wg1_c, [(im, .inl (T.2 6, 3, .inr (.inr (.inr (.inr qi)))))], [(mk, .inl (T.2 2, 3, .inl fmk))], [(mo, .inr (11, [.ref m_all, .ref m_has, .int i_size, .int i_next, .int i_where, .int i_token, .int i_number, .int i_word, .int i_wrong, .int i_farCrossing, .ref m_read, .int i_z0, .int i_crossings, .int i_inns, .ref m_posts, .ref m_shut, .ref m_here, .int i_steps, .int i_done, .int i_at, .int i_gone, .ref m_was, .ref m_came, .ref m_seenAt, .ref m_rowWorth, .ref m_farBy, .ref m_used, .int i_everywhere, .int i_again0, .int i_d0, .int i_never, .int i_firstCame, .int i_longRun, .int i_moved, .int i_crowd, .int i_l0, .int i_fitMany, .int i_fitLeast, .int i_fitMost, .ref m_fitPost, .ref m_fitEnd, .ref m_keptPosts, .int i_x0]))], [(m_all, .inl (T.2 0, 3952, .inl f_all))], [(m_has, .inl (T.2 2, 3, .inl f_has))], [(m_read, .inl (T.2 0, 121, .inl f_read))], [(m_posts, .inl (T.2 0, 7, .inl f_posts))], [(m_shut, .inl (T.2 0, 7, .inl f_shut))], [(m_here, .inl (T.2 0, 7, .inl f_here))], [(m_was, .inl (T.2 0, 7, .inl f_was))], [(m_came, .inl (T.2 0, 7, .inl f_came))], [(m_seenAt, .inl (T.2 0, 16384, .inl f_seenAt))], [(m_rowWorth, .inl (T.2 0, 512, .inl f_rowWorth))], [(m_farBy, .inl (T.2 0, 49, .inl f_farBy))], [(m_used, .inl (T.2 0, 7, .inl f_used))], [(m_fitPost, .inl (T.2 0, 28, .inl f_fitPost))], [(m_fitEnd, .inl (T.2 0, 49, .inl f_fitEnd))], [(m_keptPosts, .inl (T.2 0, 7, .inl f_keptPosts))], [(xo, .inr (10, [.ref t, .ref im, .ref mk, .ref rd, .ref po, .ref co, .ref tr, .ref wa, .ref wb_, .ref fi, .ref cd]))], wt, z0_, z1_, wwA_70, wwB_82] _ _ := G
      have hFI2 : (¬ e0f = 0 → e1f.toInt = 0 ∧ ¬ mdA_60 = 0 ∨ e1f.toInt = 1 ∧ ¬ mdB_72 = 0) := fun q => (hFI q).elim (fun z => Or.inl ⟨z.1, h_88 z.2⟩) (fun z => Or.inr ⟨z.1, h_94 z.2⟩)
      refine lv_pop hx hb dL_law_1380 rfl ?_
      refine lv_aload_n hx hb dL_law_1381 rfl (lv_at hl 2 rfl) ?_
      refine lv_aload_n hx hb dL_law_1382 rfl (lv_at hl 0 rfl) ?_
      refine lv_iload_n hx hb dL_law_1383 rfl (lv_at hl 3 rfl) ?_
      refine lv_iconst (v := 1) hx hb dL_law_1384 (by decide) ?_
      refine lv_iadd hx hb dL_law_1385 ?_
      refine lv_topi (fun y_96 ey_96 => ?_)
      obtain rfl : y_96 = nI (i + 1) := ey_96.trans (z_iaddn i 1 rfl rfl)
      refine va_sld hx hb hX hbl hbA G.2.2.2.1 (vp_in_nI (by omega) (by omega)) dL_law_1386 ?_
      refine lv_topi (fun v_97 ev_97 => ?_)
      rw [nI_clamp (by omega)] at ev_97
      have ev_97 : v_97 = xs (i + 1) := ev_97
      subst ev_97
      refine lv_aload_n hx hb dL_law_1387 rfl (lv_at hl 0 rfl) ?_
      refine lv_iload_n hx hb dL_law_1388 rfl (lv_at hl 3 rfl) ?_
      refine lv_iconst (v := 2) hx hb dL_law_1389 (by decide) ?_
      refine lv_iadd hx hb dL_law_1390 ?_
      refine lv_topi (fun y_98 ey_98 => ?_)
      obtain rfl : y_98 = nI (i + 2) := ey_98.trans (z_iaddn i 2 rfl rfl)
      refine va_sld hx hb hX hbl hbA G.2.2.2.1 (vp_in_nI (by omega) (by omega)) dL_law_1391 ?_
      refine lv_topi (fun v_99 ev_99 => ?_)
      rw [nI_clamp (by omega)] at ev_99
      have ev_99 : v_99 = xs (i + 2) := ev_99
      subst ev_99
      refine lv_aload_n hx hb dL_law_1392 rfl (lv_at hl 0 rfl) ?_
      refine lv_iload_n hx hb dL_law_1393 rfl (lv_at hl 3 rfl) ?_
      refine lv_iconst (v := 3) hx hb dL_law_1394 (by decide) ?_
      refine lv_iadd hx hb dL_law_1395 ?_
      refine lv_topi (fun y_100 ey_100 => ?_)
      obtain rfl : y_100 = nI (i + 3) := ey_100.trans (z_iaddn i 3 rfl rfl)
      refine va_sld hx hb hX hbl hbA G.2.2.2.1 (vp_in_nI (by omega) (by omega)) dL_law_1396 ?_
      refine lv_topi (fun v_101 ev_101 => ?_)
      rw [nI_clamp (by omega)] at ev_101
      have ev_101 : v_101 = xs (i + 3) := ev_101
      subst ev_101
      refine lv_if_eq (tgt := 1404) hx hb dL_law_1397 (by decide) (fun _ => ?_) (fun q => absurd c_7 q)
      refine lv_iconst (v := 0) hx hb dL_law_1404 (by decide) ?_
      refine lv_aload_n hx hb dL_law_1405 rfl (lv_at hl 0 rfl) ?_
      refine lv_iload_n hx hb dL_law_1406 rfl (lv_at hl 3 rfl) ?_
      refine lv_iconst (v := 4) hx hb dL_law_1407 (by decide) ?_
      refine lv_iadd hx hb dL_law_1408 ?_
      refine lv_topi (fun y_102 ey_102 => ?_)
      obtain rfl : y_102 = nI (i + 4) := ey_102.trans (z_iaddn i 4 rfl rfl)
      refine va_sld hx hb hX hbl hbA G.2.2.2.1 (vp_in_nI (by omega) (by omega)) dL_law_1409 ?_
      refine lv_topi (fun v_103 ev_103 => ?_)
      rw [nI_clamp (by omega)] at ev_103
      have ev_103 : v_103 = xs (i + 4) := ev_103
      subst ev_103
      refine lv_if_eq (tgt := 1417) hx hb dL_law_1410 (by decide) (fun _ => ?_) (fun q => absurd c_10 q)
      refine lv_iconst (v := 0) hx hb dL_law_1417 (by decide) ?_
      refine z_Vi (bc := [[(mo, .inr (11, [.ref m_all, .ref m_has, .int i_size, .int i_next, .int i_where, .int i_token, .int i_number, .int i_word, .int i_wrong, .int i_farCrossing, .ref m_read, .int i_z0, .int i_crossings, .int i_inns, .ref m_posts, .ref m_shut, .ref m_here, .int i_steps, .int i_done, .int i_at, .int i_gone, .ref m_was, .ref m_came, .ref m_seenAt, .ref m_rowWorth, .ref m_farBy, .ref m_used, .int i_everywhere, .int i_again0, .int i_d0, .int i_never, .int i_firstCame, .int i_longRun, .int i_moved, .int i_crowd, .int i_l0, .int i_fitMany, .int i_fitLeast, .int i_fitMost, .ref m_fitPost, .ref m_fitEnd, .ref m_keptPosts, .int i_x0]))], [(m_all, .inl (T.2 0, 3952, .inl f_all))], [(m_posts, .inl (T.2 0, 7, .inl f_posts))], [(m_shut, .inl (T.2 0, 7, .inl f_shut))], [(m_here, .inl (T.2 0, 7, .inl f_here))], [(m_was, .inl (T.2 0, 7, .inl f_was))]]) (br := [wd0_, wd1_, wg0_, wg1_, [(rd, .inr (7, [.ref rl, .ref rdd, .ref rg, .int r0, .int r1, .ref tq, .int r2, .int r3, .int r4, .int r5, .int r6, .int r7, .int r8]))], z, wd, wg, wff, wc, wcp, wr, wrp, wp, [(cd, .inl (T.2 0, 1000, .inl fcd))], wta, z0_a, z1_a, wd0_a, wd1_a, wg0_a, wg1_a, wtb, z0_b, z1_b, wd0_b, wd1_b, wg0_b, wg1_b, wtc, z0_c, z1_c, wd0_c, wd1_c, wg0_c, wg1_c, [(im, .inl (T.2 6, 3, .inr (.inr (.inr (.inr qi)))))], [(mk, .inl (T.2 2, 3, .inl fmk))], [(m_has, .inl (T.2 2, 3, .inl f_has))], [(m_read, .inl (T.2 0, 121, .inl f_read))], [(m_came, .inl (T.2 0, 7, .inl f_came))], [(m_seenAt, .inl (T.2 0, 16384, .inl f_seenAt))], [(m_rowWorth, .inl (T.2 0, 512, .inl f_rowWorth))], [(m_farBy, .inl (T.2 0, 49, .inl f_farBy))], [(m_used, .inl (T.2 0, 7, .inl f_used))], [(m_fitPost, .inl (T.2 0, 28, .inl f_fitPost))], [(m_fitEnd, .inl (T.2 0, 49, .inl f_fitEnd))], [(m_keptPosts, .inl (T.2 0, 7, .inl f_keptPosts))], [(xo, .inr (10, [.ref t, .ref im, .ref mk, .ref rd, .ref po, .ref co, .ref tr, .ref wa, .ref wb_, .ref fi, .ref cd]))], wt, z0_, z1_, wwA_70, wwB_82]) (As := [.int (xs (i + 1)), .int (xs (i + 2)), .int 0, .int 0]) (rest := []) C G (c_m_longest l T mo m_all m_has i_size i_next i_where i_token i_number i_word i_wrong i_farCrossing m_read i_z0 i_crossings i_inns m_posts m_shut m_here i_steps i_done i_at i_gone m_was m_came m_seenAt m_rowWorth m_farBy m_used i_everywhere i_again0 i_d0 i_never i_firstCame i_longRun i_moved i_crowd i_l0 i_fitMany i_fitLeast i_fitMost m_fitPost m_fitEnd m_keptPosts i_x0 f_all f_posts f_shut f_here f_was (xs (i + 1)) (xs (i + 2)) 0 0 (by first | assumption | omega | rfl)) (kV_RL_128 C.2.2.2.2 (Nat.le_of_ble_eq_true rfl) (Nat.le_of_ble_eq_true rfl)) [38, 39, 42, 43, 44, 45] [0, 1, 2, 3, 4, 5, 6, 7, 8, 9, 10, 11, 12, 13, 14, 15, 16, 17, 18, 19, 20, 21, 22, 23, 24, 25, 26, 27, 28, 29, 30, 31, 32, 33, 34, 35, 36, 37, 40, 41, 46, 47, 48, 49, 50, 51, 52, 53, 54, 55, 56, 57, 58, 59] rfl rfl (ci := 11) (qc := (RX12, TX12, 43)) rfl rfl (List.mem_flatten.mpr ⟨_, List.mem_of_getElem? (i := 0) rfl, List.mem_cons_self⟩) rfl rfl hl.1 dL_law_1418 (by show _ + 0 ≤ 600000; omega) (by show _ + 0 ≤ 7302250; omega) (fun r_115 b1 H locs hw G => ?_)
      obtain ⟨j_z0_104, j_crossings_105, j_inns_106, j_steps_107, j_done_108, j_at_109, j_gone_110, g_posts_111, g_shut_112, g_here_113, g_was_114, rfl⟩ := hw
      have G : zS T A s.heap s [wd0_, wd1_, wg0_, wg1_, [(rd, .inr (7, [.ref rl, .ref rdd, .ref rg, .int r0, .int r1, .ref tq, .int r2, .int r3, .int r4, .int r5, .int r6, .int r7, .int r8]))], z, wd, wg, wff, wc, wcp, wr, wrp, wp, [(cd, .inl (T.2 0, 1000, .inl fcd))], wta, z0_a, z1_a, wd0_a, wd1_a, wg0_a, wg1_a, wtb, z0_b, z1_b, wd0_b, wd1_b, wg0_b, wg1_b, wtc, z0_c, z1_c, wd0_c, wd1_c, wg0_c, wg1_c, [(im, .inl (T.2 6, 3, .inr (.inr (.inr (.inr qi)))))], [(mk, .inl (T.2 2, 3, .inl fmk))], [(m_has, .inl (T.2 2, 3, .inl f_has))], [(m_read, .inl (T.2 0, 121, .inl f_read))], [(m_came, .inl (T.2 0, 7, .inl f_came))], [(m_seenAt, .inl (T.2 0, 16384, .inl f_seenAt))], [(m_rowWorth, .inl (T.2 0, 512, .inl f_rowWorth))], [(m_farBy, .inl (T.2 0, 49, .inl f_farBy))], [(m_used, .inl (T.2 0, 7, .inl f_used))], [(m_fitPost, .inl (T.2 0, 28, .inl f_fitPost))], [(m_fitEnd, .inl (T.2 0, 49, .inl f_fitEnd))], [(m_keptPosts, .inl (T.2 0, 7, .inl f_keptPosts))], [(xo, .inr (10, [.ref t, .ref im, .ref mk, .ref rd, .ref po, .ref co, .ref tr, .ref wa, .ref wb_, .ref fi, .ref cd]))], wt, z0_, z1_, wwA_70, wwB_82, [(mo, .inr (11, [.ref m_all, .ref m_has, .int i_size, .int i_next, .int i_where, .int i_token, .int i_number, .int i_word, .int i_wrong, .int i_farCrossing, .ref m_read, .int j_z0_104, .int j_crossings_105, .int j_inns_106, .ref m_posts, .ref m_shut, .ref m_here, .int j_steps_107, .int j_done_108, .int j_at_109, .int j_gone_110, .ref m_was, .ref m_came, .ref m_seenAt, .ref m_rowWorth, .ref m_farBy, .ref m_used, .int i_everywhere, .int i_again0, .int i_d0, .int i_never, .int i_firstCame, .int i_longRun, .int i_moved, .int i_crowd, .int i_l0, .int i_fitMany, .int i_fitLeast, .int i_fitMost, .ref m_fitPost, .ref m_fitEnd, .ref m_keptPosts, .int i_x0]))], [(m_all, .inl (T.2 0, 3952, .inl f_all))], [(m_posts, .inl (T.2 0, 7, .inl g_posts_111))], [(m_shut, .inl (T.2 0, 7, .inl g_shut_112))], [(m_here, .inl (T.2 0, 7, .inl g_here_113))], [(m_was, .inl (T.2 0, 7, .inl g_was_114))]] _ _ := G
      refine lv_pop hx hb dL_law_1421 rfl ?_
      refine lv_goto (tgt := 1767) hx hb dL_law_1422 (by decide) ?_
      have G := G.sub (bs' := [[(xo, .inr (10, [.ref t, .ref im, .ref mk, .ref rd, .ref po, .ref co, .ref tr, .ref wa, .ref wb_, .ref fi, .ref cd]))], wt, z0_, z1_, wd0_, wd1_, wg0_, wg1_, [(rd, .inr (7, [.ref rl, .ref rdd, .ref rg, .int r0, .int r1, .ref tq, .int r2, .int r3, .int r4, .int r5, .int r6, .int r7, .int r8]))], z, wd, wg, wwA_70, wwB_82, wff, wc, wcp, wr, wrp, wp, [(cd, .inl (T.2 0, 1000, .inl fcd))], wta, z0_a, z1_a, wd0_a, wd1_a, wg0_a, wg1_a, wtb, z0_b, z1_b, wd0_b, wd1_b, wg0_b, wg1_b, wtc, z0_c, z1_c, wd0_c, wd1_c, wg0_c, wg1_c, [(im, .inl (T.2 6, 3, .inr (.inr (.inr (.inr qi)))))], [(mk, .inl (T.2 2, 3, .inl fmk))], [(mo, .inr (11, [.ref m_all, .ref m_has, .int i_size, .int i_next, .int i_where, .int i_token, .int i_number, .int i_word, .int i_wrong, .int i_farCrossing, .ref m_read, .int j_z0_104, .int j_crossings_105, .int j_inns_106, .ref m_posts, .ref m_shut, .ref m_here, .int j_steps_107, .int j_done_108, .int j_at_109, .int j_gone_110, .ref m_was, .ref m_came, .ref m_seenAt, .ref m_rowWorth, .ref m_farBy, .ref m_used, .int i_everywhere, .int i_again0, .int i_d0, .int i_never, .int i_firstCame, .int i_longRun, .int i_moved, .int i_crowd, .int i_l0, .int i_fitMany, .int i_fitLeast, .int i_fitMost, .ref m_fitPost, .ref m_fitEnd, .ref m_keptPosts, .int i_x0]))], [(m_all, .inl (T.2 0, 3952, .inl f_all))], [(m_has, .inl (T.2 2, 3, .inl f_has))], [(m_read, .inl (T.2 0, 121, .inl f_read))], [(m_posts, .inl (T.2 0, 7, .inl g_posts_111))], [(m_shut, .inl (T.2 0, 7, .inl g_shut_112))], [(m_here, .inl (T.2 0, 7, .inl g_here_113))], [(m_was, .inl (T.2 0, 7, .inl g_was_114))], [(m_came, .inl (T.2 0, 7, .inl f_came))], [(m_seenAt, .inl (T.2 0, 16384, .inl f_seenAt))], [(m_rowWorth, .inl (T.2 0, 512, .inl f_rowWorth))], [(m_farBy, .inl (T.2 0, 49, .inl f_farBy))], [(m_used, .inl (T.2 0, 7, .inl f_used))], [(m_fitPost, .inl (T.2 0, 28, .inl f_fitPost))], [(m_fitEnd, .inl (T.2 0, 49, .inl f_fitEnd))], [(m_keptPosts, .inl (T.2 0, 7, .inl f_keptPosts))]]) [48, 49, 50, 51, 0, 1, 2, 3, 4, 5, 6, 7, 52, 53, 8, 9, 10, 11, 12, 13, 14, 15, 16, 17, 18, 19, 20, 21, 22, 23, 24, 25, 26, 27, 28, 29, 30, 31, 32, 33, 34, 35, 36, 37, 54, 55, 38, 39, 56, 57, 58, 59, 40, 41, 42, 43, 44, 45, 46, 47] rfl
      refine W.widen (k := 216 + 2 * i + 12) (n := 27000 + 6 * (n4A_69 + n4B_81) + 2 * m1f) (by omega) (by omega) ?_
      exact kk n4A_69 n4B_81 m1f _ ⟨⟨t, im, mk, rd, po, co, tr, wa, wb_, fi, cd, wt, l0, l1, d0, d1, g0, g1, ln, z0_, z1_, wd0_, wd1_, wg0_, wg1_, rl, rdd, rg, r0, r1, tq, r2, r3, r4, r5, r6, r7, r8, z, wd, wg, wwA_70, mdA_60, wwB_82, mdB_72, wff, e0f, e1f, wc, cpo, wcp, wr, tpo, wrp, wp, fcd, m0, wta, l0a, l1a, d0a, d1a, g0a, g1a, lna, z0_a, z1_a, wd0_a, wd1_a, wg0_a, wg1_a, m1, wtb, l0b, l1b, d0b, d1b, g0b, g1b, lnb, z0_b, z1_b, wd0_b, wd1_b, wg0_b, wg1_b, m2, wtc, l0c, l1c, d0c, d1c, g0c, g1c, lnc, z0_c, z1_c, wd0_c, wd1_c, wg0_c, wg1_c, qi, fmk, m_all, m_has, i_size, i_next, i_where, i_token, i_number, i_word, i_wrong, i_farCrossing, m_read, j_z0_104, j_crossings_105, j_inns_106, m_posts, m_shut, m_here, j_steps_107, j_done_108, j_at_109, j_gone_110, m_was, m_came, m_seenAt, m_rowWorth, m_farBy, m_used, i_everywhere, i_again0, i_d0, i_never, i_firstCame, i_longRun, i_moved, i_crowd, i_l0, i_fitMany, i_fitLeast, i_fitMost, m_fitPost, m_fitEnd, m_keptPosts, i_x0, f_all, f_has, f_read, g_posts_111, g_shut_112, g_here_113, g_was_114, f_came, f_seenAt, f_rowWorth, f_farBy, f_used, f_fitPost, f_fitEnd, f_keptPosts⟩, rfl, ⟨v_11, v_12, v_13, v_14, h_15, (by first | assumption | omega)⟩, ⟨v_17, v_18, v_19, v_20, v_21, v_22, h_23, (by first | assumption | omega)⟩, ⟨v_25, v_26, v_27, v_28, v_29, v_30, h_31, (by first | assumption | omega)⟩, H_wd0_, H_wd1_, H_wg0_, H_wg1_, H_z, H_wd, H_wg, ⟨laA_59, wyA_61, pc_A_62, f1A_63, f2A_64, f3A_65, f4A_66, f5A_67, f6A_68, h_83, (by first | assumption | omega), (by first | assumption | omega), (by first | assumption | omega)⟩, ⟨laB_71, wyB_73, pc_B_74, f1B_75, f2B_76, f3B_77, f4B_78, f5B_79, f6B_80, h_89, (by first | assumption | omega), (by first | assumption | omega), (by first | assumption | omega)⟩, H_wff, H_wc, H_wcp, H_wr, H_wrp, H_wp, H_wta, H_z0_a, H_z1_a, H_wd0_a, H_wd1_a, H_wg0_a, H_wg1_a, H_wtb, H_z0_b, H_z1_b, H_wd0_b, H_wd1_b, H_wg0_b, H_wg1_b, H_wtc, H_z0_c, H_z1_c, H_wd0_c, H_wd1_c, H_wg0_c, H_wg1_c, (by first | assumption | omega), (by first | assumption | omega), (by first | assumption | omega), (by first | assumption | omega), (by first | assumption | omega), (by first | assumption | omega), (by first | assumption | omega), (by first | assumption | omega)⟩ _ _ ls G (lv_sub hl [0, 1, 2, 3] rfl)
    · have c_10n : ¬ (xs (i + 4)).toInt = (0 : Int) := fun q => c_10 ((fa_eq _ _).mpr q)
      refine lv_iconst (v := 1) hx hb dL_law_1372 (by decide) ?_
      refine lv_goto (tgt := 1377) hx hb dL_law_1373 (by decide) ?_
      obtain ⟨v_116, v_117, v_118, v_119, h_120, h_121⟩ := H_wt
      have h_121 : zKT v_119 := h_121
      obtain ⟨v_122, v_123, v_124, v_125, v_126, v_127, h_128, h_129⟩ := H_z0_
      have h_129 : zLI v_122 v_124 v_126 := h_129
      obtain ⟨v_130, v_131, v_132, v_133, v_134, v_135, h_136, h_137⟩ := H_z1_
      have h_137 : zLI v_130 v_132 v_134 := h_137
      obtain ⟨v_138, v_139, v_140, v_141, v_142, v_143, v_144, v_145, v_146, h_147, h_148, h_149, h_150⟩ := H_wwA
      have h_148 : zPw n4A := h_148
      have h_149 : (mdA = 0 ∨ v_138 = l0) := h_149
      have h_150 : (0 ≤ v_139.toInt ∧ v_139.toInt ≤ 16384) := h_150
      obtain ⟨v_151, v_152, v_153, v_154, v_155, v_156, v_157, v_158, v_159, h_160, h_161, h_162, h_163⟩ := H_wwB
      have h_161 : zPw n4B := h_161
      have h_162 : (mdB = 0 ∨ v_151 = l1) := h_162
      have h_163 : (0 ≤ v_152.toInt ∧ v_152.toInt ≤ 16384) := h_163
      have hq0m := zNA_mono (c := ((xs (i + 1)).toInt = 0 ∧ 0 < (v_119 0).toInt ∧ 0 ≤ (xs (i + 2)).toInt ∧ (xs (i + 2)).toInt < v_122.toInt ∧ (xs (i + 2)).toInt < 7)) (md := mdA) (cr := v_122) (inn := v_123) (k1 := v_124) h_148
      have hq0l := zPw_le (zNA_ge (c := ((xs (i + 1)).toInt = 0 ∧ 0 < (v_119 0).toInt ∧ 0 ≤ (xs (i + 2)).toInt ∧ (xs (i + 2)).toInt < v_122.toInt ∧ (xs (i + 2)).toInt < 7)) (md := mdA) (pl := (zPl v_122 v_123 v_124)) h_148)
      have hq2m := zNA_mono (c := ((xs (i + 1)).toInt = 1 ∧ 1 < (v_119 0).toInt ∧ 0 ≤ (xs (i + 2)).toInt ∧ (xs (i + 2)).toInt < v_130.toInt ∧ (xs (i + 2)).toInt < 7)) (md := mdB) (cr := v_130) (inn := v_131) (k1 := v_132) h_161
      have hq2l := zPw_le (zNA_ge (c := ((xs (i + 1)).toInt = 1 ∧ 1 < (v_119 0).toInt ∧ 0 ≤ (xs (i + 2)).toInt ∧ (xs (i + 2)).toInt < v_130.toInt ∧ (xs (i + 2)).toInt < 7)) (md := mdB) (pl := (zPl v_130 v_131 v_132)) h_161)
      refine z_Vi (bc := [[(xo, .inr (10, [.ref t, .ref im, .ref mk, .ref rd, .ref po, .ref co, .ref tr, .ref wa, .ref wb_, .ref fi, .ref cd]))], wt, z0_, z1_, wwA, wwB]) (br := [wd0_, wd1_, wg0_, wg1_, [(rd, .inr (7, [.ref rl, .ref rdd, .ref rg, .int r0, .int r1, .ref tq, .int r2, .int r3, .int r4, .int r5, .int r6, .int r7, .int r8]))], z, wd, wg, wff, wc, wcp, wr, wrp, wp, [(cd, .inl (T.2 0, 1000, .inl fcd))], wta, z0_a, z1_a, wd0_a, wd1_a, wg0_a, wg1_a, wtb, z0_b, z1_b, wd0_b, wd1_b, wg0_b, wg1_b, wtc, z0_c, z1_c, wd0_c, wd1_c, wg0_c, wg1_c, [(im, .inl (T.2 6, 3, .inr (.inr (.inr (.inr qi)))))], [(mk, .inl (T.2 2, 3, .inl fmk))], [(mo, .inr (11, [.ref m_all, .ref m_has, .int i_size, .int i_next, .int i_where, .int i_token, .int i_number, .int i_word, .int i_wrong, .int i_farCrossing, .ref m_read, .int i_z0, .int i_crossings, .int i_inns, .ref m_posts, .ref m_shut, .ref m_here, .int i_steps, .int i_done, .int i_at, .int i_gone, .ref m_was, .ref m_came, .ref m_seenAt, .ref m_rowWorth, .ref m_farBy, .ref m_used, .int i_everywhere, .int i_again0, .int i_d0, .int i_never, .int i_firstCame, .int i_longRun, .int i_moved, .int i_crowd, .int i_l0, .int i_fitMany, .int i_fitLeast, .int i_fitMost, .ref m_fitPost, .ref m_fitEnd, .ref m_keptPosts, .int i_x0]))], [(m_all, .inl (T.2 0, 3952, .inl f_all))], [(m_has, .inl (T.2 2, 3, .inl f_has))], [(m_read, .inl (T.2 0, 121, .inl f_read))], [(m_posts, .inl (T.2 0, 7, .inl f_posts))], [(m_shut, .inl (T.2 0, 7, .inl f_shut))], [(m_here, .inl (T.2 0, 7, .inl f_here))], [(m_was, .inl (T.2 0, 7, .inl f_was))], [(m_came, .inl (T.2 0, 7, .inl f_came))], [(m_seenAt, .inl (T.2 0, 16384, .inl f_seenAt))], [(m_rowWorth, .inl (T.2 0, 512, .inl f_rowWorth))], [(m_farBy, .inl (T.2 0, 49, .inl f_farBy))], [(m_used, .inl (T.2 0, 7, .inl f_used))], [(m_fitPost, .inl (T.2 0, 28, .inl f_fitPost))], [(m_fitEnd, .inl (T.2 0, 49, .inl f_fitEnd))], [(m_keptPosts, .inl (T.2 0, 7, .inl f_keptPosts))]]) (As := [.int (xs (i + 1)), .int (xs (i + 2)), .int 0, .int 1]) (rest := []) C G (c_longest l T xo t im mk rd po co tr wa wb_ fi cd l0 l1 d0 d1 g0 g1 ln v_116 v_117 v_118 v_119 wt v_122 v_123 v_124 v_125 v_126 v_127 z0_ v_130 v_131 v_132 v_133 v_134 v_135 z1_ v_138 mdA v_139 v_140 v_141 v_142 v_143 v_144 v_145 v_146 n4A wwA v_151 mdB v_152 v_153 v_154 v_155 v_156 v_157 v_158 v_159 n4B wwB (xs (i + 1)) (xs (i + 2)) 0 1 h_120 (by first | assumption | omega | rfl) h_128 (by first | assumption | omega | rfl) h_136 (by first | assumption | omega | rfl) h_147 (by first | assumption | omega | rfl) (by first | assumption | omega | rfl) (by first | assumption | omega | rfl) h_160 (by first | assumption | omega | rfl) (by first | assumption | omega | rfl) (by first | assumption | omega | rfl)) (kV_RL_124 C.2.2.2.2 (Nat.le_of_ble_eq_true rfl) (Nat.le_of_ble_eq_true rfl)) [0, 1, 2, 3, 12, 13] [4, 5, 6, 7, 8, 9, 10, 11, 14, 15, 16, 17, 18, 19, 20, 21, 22, 23, 24, 25, 26, 27, 28, 29, 30, 31, 32, 33, 34, 35, 36, 37, 38, 39, 40, 41, 42, 43, 44, 45, 46, 47, 48, 49, 50, 51, 52, 53, 54, 55, 56, 57, 58, 59] rfl rfl (ci := 10) (qc := (RX11, TX11, 11)) rfl rfl (List.mem_flatten.mpr ⟨_, List.mem_of_getElem? (i := 0) rfl, List.mem_cons_self⟩) rfl rfl hl.1 dL_law_1377 (by show _ + 3 ≤ 600000; omega) (by show _ + (6 * (zNA ((xs (i + 1)).toInt = 0 ∧ 0 < (v_119 0).toInt ∧ 0 ≤ (xs (i + 2)).toInt ∧ (xs (i + 2)).toInt < v_122.toInt ∧ (xs (i + 2)).toInt < 7) mdA n4A (zPl v_122 v_123 v_124) - n4A) + 6 * (zNA ((xs (i + 1)).toInt = 1 ∧ 1 < (v_119 0).toInt ∧ 0 ≤ (xs (i + 2)).toInt ∧ (xs (i + 2)).toInt < v_130.toInt ∧ (xs (i + 2)).toInt < 7) mdB n4B (zPl v_130 v_131 v_132) - n4B)) ≤ 7302250; omega) (fun r_200 b1 H locs hw G => ?_)
      obtain ⟨laA_164, mdA_165, wyA_166, pc_A_167, f1A_168, f2A_169, f3A_170, f4A_171, f5A_172, f6A_173, n4A_174, wwA_175, laB_176, mdB_177, wyB_178, pc_B_179, f1B_180, f2B_181, f3B_182, f4B_183, f5B_184, f6B_185, n4B_186, wwB_187, rfl, h_188, h_189, h_190, h_191, h_192, h_193, h_194, h_195, h_196, h_197, h_198, h_199⟩ := hw
      have G : zS T A s.heap s [wd0_, wd1_, wg0_, wg1_, [(rd, .inr (7, [.ref rl, .ref rdd, .ref rg, .int r0, .int r1, .ref tq, .int r2, .int r3, .int r4, .int r5, .int r6, .int r7, .int r8]))], z, wd, wg, wff, wc, wcp, wr, wrp, wp, [(cd, .inl (T.2 0, 1000, .inl fcd))], wta, z0_a, z1_a, wd0_a, wd1_a, wg0_a, wg1_a, wtb, z0_b, z1_b, wd0_b, wd1_b, wg0_b, wg1_b, wtc, z0_c, z1_c, wd0_c, wd1_c, wg0_c, wg1_c, [(im, .inl (T.2 6, 3, .inr (.inr (.inr (.inr qi)))))], [(mk, .inl (T.2 2, 3, .inl fmk))], [(mo, .inr (11, [.ref m_all, .ref m_has, .int i_size, .int i_next, .int i_where, .int i_token, .int i_number, .int i_word, .int i_wrong, .int i_farCrossing, .ref m_read, .int i_z0, .int i_crossings, .int i_inns, .ref m_posts, .ref m_shut, .ref m_here, .int i_steps, .int i_done, .int i_at, .int i_gone, .ref m_was, .ref m_came, .ref m_seenAt, .ref m_rowWorth, .ref m_farBy, .ref m_used, .int i_everywhere, .int i_again0, .int i_d0, .int i_never, .int i_firstCame, .int i_longRun, .int i_moved, .int i_crowd, .int i_l0, .int i_fitMany, .int i_fitLeast, .int i_fitMost, .ref m_fitPost, .ref m_fitEnd, .ref m_keptPosts, .int i_x0]))], [(m_all, .inl (T.2 0, 3952, .inl f_all))], [(m_has, .inl (T.2 2, 3, .inl f_has))], [(m_read, .inl (T.2 0, 121, .inl f_read))], [(m_posts, .inl (T.2 0, 7, .inl f_posts))], [(m_shut, .inl (T.2 0, 7, .inl f_shut))], [(m_here, .inl (T.2 0, 7, .inl f_here))], [(m_was, .inl (T.2 0, 7, .inl f_was))], [(m_came, .inl (T.2 0, 7, .inl f_came))], [(m_seenAt, .inl (T.2 0, 16384, .inl f_seenAt))], [(m_rowWorth, .inl (T.2 0, 512, .inl f_rowWorth))], [(m_farBy, .inl (T.2 0, 49, .inl f_farBy))], [(m_used, .inl (T.2 0, 7, .inl f_used))], [(m_fitPost, .inl (T.2 0, 28, .inl f_fitPost))], [(m_fitEnd, .inl (T.2 0, 49, .inl f_fitEnd))], [(m_keptPosts, .inl (T.2 0, 7, .inl f_keptPosts))], [(xo, .inr (10, [.ref t, .ref im, .ref mk, .ref rd, .ref po, .ref co, .ref tr, .ref wa, .ref wb_, .ref fi, .ref cd]))], wt, z0_, z1_, wwA_175, wwB_187] _ _ := G
      have hFI2 : (¬ e0f = 0 → e1f.toInt = 0 ∧ ¬ mdA_165 = 0 ∨ e1f.toInt = 1 ∧ ¬ mdB_177 = 0) := fun q => (hFI q).elim (fun z => Or.inl ⟨z.1, h_193 z.2⟩) (fun z => Or.inr ⟨z.1, h_199 z.2⟩)
      refine lv_pop hx hb dL_law_1380 rfl ?_
      refine lv_aload_n hx hb dL_law_1381 rfl (lv_at hl 2 rfl) ?_
      refine lv_aload_n hx hb dL_law_1382 rfl (lv_at hl 0 rfl) ?_
      refine lv_iload_n hx hb dL_law_1383 rfl (lv_at hl 3 rfl) ?_
      refine lv_iconst (v := 1) hx hb dL_law_1384 (by decide) ?_
      refine lv_iadd hx hb dL_law_1385 ?_
      refine lv_topi (fun y_201 ey_201 => ?_)
      obtain rfl : y_201 = nI (i + 1) := ey_201.trans (z_iaddn i 1 rfl rfl)
      refine va_sld hx hb hX hbl hbA G.2.2.2.1 (vp_in_nI (by omega) (by omega)) dL_law_1386 ?_
      refine lv_topi (fun v_202 ev_202 => ?_)
      rw [nI_clamp (by omega)] at ev_202
      have ev_202 : v_202 = xs (i + 1) := ev_202
      subst ev_202
      refine lv_aload_n hx hb dL_law_1387 rfl (lv_at hl 0 rfl) ?_
      refine lv_iload_n hx hb dL_law_1388 rfl (lv_at hl 3 rfl) ?_
      refine lv_iconst (v := 2) hx hb dL_law_1389 (by decide) ?_
      refine lv_iadd hx hb dL_law_1390 ?_
      refine lv_topi (fun y_203 ey_203 => ?_)
      obtain rfl : y_203 = nI (i + 2) := ey_203.trans (z_iaddn i 2 rfl rfl)
      refine va_sld hx hb hX hbl hbA G.2.2.2.1 (vp_in_nI (by omega) (by omega)) dL_law_1391 ?_
      refine lv_topi (fun v_204 ev_204 => ?_)
      rw [nI_clamp (by omega)] at ev_204
      have ev_204 : v_204 = xs (i + 2) := ev_204
      subst ev_204
      refine lv_aload_n hx hb dL_law_1392 rfl (lv_at hl 0 rfl) ?_
      refine lv_iload_n hx hb dL_law_1393 rfl (lv_at hl 3 rfl) ?_
      refine lv_iconst (v := 3) hx hb dL_law_1394 (by decide) ?_
      refine lv_iadd hx hb dL_law_1395 ?_
      refine lv_topi (fun y_205 ey_205 => ?_)
      obtain rfl : y_205 = nI (i + 3) := ey_205.trans (z_iaddn i 3 rfl rfl)
      refine va_sld hx hb hX hbl hbA G.2.2.2.1 (vp_in_nI (by omega) (by omega)) dL_law_1396 ?_
      refine lv_topi (fun v_206 ev_206 => ?_)
      rw [nI_clamp (by omega)] at ev_206
      have ev_206 : v_206 = xs (i + 3) := ev_206
      subst ev_206
      refine lv_if_eq (tgt := 1404) hx hb dL_law_1397 (by decide) (fun _ => ?_) (fun q => absurd c_7 q)
      refine lv_iconst (v := 0) hx hb dL_law_1404 (by decide) ?_
      refine lv_aload_n hx hb dL_law_1405 rfl (lv_at hl 0 rfl) ?_
      refine lv_iload_n hx hb dL_law_1406 rfl (lv_at hl 3 rfl) ?_
      refine lv_iconst (v := 4) hx hb dL_law_1407 (by decide) ?_
      refine lv_iadd hx hb dL_law_1408 ?_
      refine lv_topi (fun y_207 ey_207 => ?_)
      obtain rfl : y_207 = nI (i + 4) := ey_207.trans (z_iaddn i 4 rfl rfl)
      refine va_sld hx hb hX hbl hbA G.2.2.2.1 (vp_in_nI (by omega) (by omega)) dL_law_1409 ?_
      refine lv_topi (fun v_208 ev_208 => ?_)
      rw [nI_clamp (by omega)] at ev_208
      have ev_208 : v_208 = xs (i + 4) := ev_208
      subst ev_208
      refine lv_if_eq (tgt := 1417) hx hb dL_law_1410 (by decide) (fun q => absurd q c_10) (fun _ => ?_)
      refine lv_iconst (v := 1) hx hb dL_law_1413 (by decide) ?_
      refine lv_goto (tgt := 1418) hx hb dL_law_1414 (by decide) ?_
      refine z_Vi (bc := [[(mo, .inr (11, [.ref m_all, .ref m_has, .int i_size, .int i_next, .int i_where, .int i_token, .int i_number, .int i_word, .int i_wrong, .int i_farCrossing, .ref m_read, .int i_z0, .int i_crossings, .int i_inns, .ref m_posts, .ref m_shut, .ref m_here, .int i_steps, .int i_done, .int i_at, .int i_gone, .ref m_was, .ref m_came, .ref m_seenAt, .ref m_rowWorth, .ref m_farBy, .ref m_used, .int i_everywhere, .int i_again0, .int i_d0, .int i_never, .int i_firstCame, .int i_longRun, .int i_moved, .int i_crowd, .int i_l0, .int i_fitMany, .int i_fitLeast, .int i_fitMost, .ref m_fitPost, .ref m_fitEnd, .ref m_keptPosts, .int i_x0]))], [(m_all, .inl (T.2 0, 3952, .inl f_all))], [(m_posts, .inl (T.2 0, 7, .inl f_posts))], [(m_shut, .inl (T.2 0, 7, .inl f_shut))], [(m_here, .inl (T.2 0, 7, .inl f_here))], [(m_was, .inl (T.2 0, 7, .inl f_was))]]) (br := [wd0_, wd1_, wg0_, wg1_, [(rd, .inr (7, [.ref rl, .ref rdd, .ref rg, .int r0, .int r1, .ref tq, .int r2, .int r3, .int r4, .int r5, .int r6, .int r7, .int r8]))], z, wd, wg, wff, wc, wcp, wr, wrp, wp, [(cd, .inl (T.2 0, 1000, .inl fcd))], wta, z0_a, z1_a, wd0_a, wd1_a, wg0_a, wg1_a, wtb, z0_b, z1_b, wd0_b, wd1_b, wg0_b, wg1_b, wtc, z0_c, z1_c, wd0_c, wd1_c, wg0_c, wg1_c, [(im, .inl (T.2 6, 3, .inr (.inr (.inr (.inr qi)))))], [(mk, .inl (T.2 2, 3, .inl fmk))], [(m_has, .inl (T.2 2, 3, .inl f_has))], [(m_read, .inl (T.2 0, 121, .inl f_read))], [(m_came, .inl (T.2 0, 7, .inl f_came))], [(m_seenAt, .inl (T.2 0, 16384, .inl f_seenAt))], [(m_rowWorth, .inl (T.2 0, 512, .inl f_rowWorth))], [(m_farBy, .inl (T.2 0, 49, .inl f_farBy))], [(m_used, .inl (T.2 0, 7, .inl f_used))], [(m_fitPost, .inl (T.2 0, 28, .inl f_fitPost))], [(m_fitEnd, .inl (T.2 0, 49, .inl f_fitEnd))], [(m_keptPosts, .inl (T.2 0, 7, .inl f_keptPosts))], [(xo, .inr (10, [.ref t, .ref im, .ref mk, .ref rd, .ref po, .ref co, .ref tr, .ref wa, .ref wb_, .ref fi, .ref cd]))], wt, z0_, z1_, wwA_175, wwB_187]) (As := [.int (xs (i + 1)), .int (xs (i + 2)), .int 0, .int 1]) (rest := []) C G (c_m_longest l T mo m_all m_has i_size i_next i_where i_token i_number i_word i_wrong i_farCrossing m_read i_z0 i_crossings i_inns m_posts m_shut m_here i_steps i_done i_at i_gone m_was m_came m_seenAt m_rowWorth m_farBy m_used i_everywhere i_again0 i_d0 i_never i_firstCame i_longRun i_moved i_crowd i_l0 i_fitMany i_fitLeast i_fitMost m_fitPost m_fitEnd m_keptPosts i_x0 f_all f_posts f_shut f_here f_was (xs (i + 1)) (xs (i + 2)) 0 1 (by first | assumption | omega | rfl)) (kV_RL_128 C.2.2.2.2 (Nat.le_of_ble_eq_true rfl) (Nat.le_of_ble_eq_true rfl)) [38, 39, 42, 43, 44, 45] [0, 1, 2, 3, 4, 5, 6, 7, 8, 9, 10, 11, 12, 13, 14, 15, 16, 17, 18, 19, 20, 21, 22, 23, 24, 25, 26, 27, 28, 29, 30, 31, 32, 33, 34, 35, 36, 37, 40, 41, 46, 47, 48, 49, 50, 51, 52, 53, 54, 55, 56, 57, 58, 59] rfl rfl (ci := 11) (qc := (RX12, TX12, 43)) rfl rfl (List.mem_flatten.mpr ⟨_, List.mem_of_getElem? (i := 0) rfl, List.mem_cons_self⟩) rfl rfl hl.1 dL_law_1418 (by show _ + 0 ≤ 600000; omega) (by show _ + 0 ≤ 7302250; omega) (fun r_220 b1 H locs hw G => ?_)
      obtain ⟨j_z0_209, j_crossings_210, j_inns_211, j_steps_212, j_done_213, j_at_214, j_gone_215, g_posts_216, g_shut_217, g_here_218, g_was_219, rfl⟩ := hw
      have G : zS T A s.heap s [wd0_, wd1_, wg0_, wg1_, [(rd, .inr (7, [.ref rl, .ref rdd, .ref rg, .int r0, .int r1, .ref tq, .int r2, .int r3, .int r4, .int r5, .int r6, .int r7, .int r8]))], z, wd, wg, wff, wc, wcp, wr, wrp, wp, [(cd, .inl (T.2 0, 1000, .inl fcd))], wta, z0_a, z1_a, wd0_a, wd1_a, wg0_a, wg1_a, wtb, z0_b, z1_b, wd0_b, wd1_b, wg0_b, wg1_b, wtc, z0_c, z1_c, wd0_c, wd1_c, wg0_c, wg1_c, [(im, .inl (T.2 6, 3, .inr (.inr (.inr (.inr qi)))))], [(mk, .inl (T.2 2, 3, .inl fmk))], [(m_has, .inl (T.2 2, 3, .inl f_has))], [(m_read, .inl (T.2 0, 121, .inl f_read))], [(m_came, .inl (T.2 0, 7, .inl f_came))], [(m_seenAt, .inl (T.2 0, 16384, .inl f_seenAt))], [(m_rowWorth, .inl (T.2 0, 512, .inl f_rowWorth))], [(m_farBy, .inl (T.2 0, 49, .inl f_farBy))], [(m_used, .inl (T.2 0, 7, .inl f_used))], [(m_fitPost, .inl (T.2 0, 28, .inl f_fitPost))], [(m_fitEnd, .inl (T.2 0, 49, .inl f_fitEnd))], [(m_keptPosts, .inl (T.2 0, 7, .inl f_keptPosts))], [(xo, .inr (10, [.ref t, .ref im, .ref mk, .ref rd, .ref po, .ref co, .ref tr, .ref wa, .ref wb_, .ref fi, .ref cd]))], wt, z0_, z1_, wwA_175, wwB_187, [(mo, .inr (11, [.ref m_all, .ref m_has, .int i_size, .int i_next, .int i_where, .int i_token, .int i_number, .int i_word, .int i_wrong, .int i_farCrossing, .ref m_read, .int j_z0_209, .int j_crossings_210, .int j_inns_211, .ref m_posts, .ref m_shut, .ref m_here, .int j_steps_212, .int j_done_213, .int j_at_214, .int j_gone_215, .ref m_was, .ref m_came, .ref m_seenAt, .ref m_rowWorth, .ref m_farBy, .ref m_used, .int i_everywhere, .int i_again0, .int i_d0, .int i_never, .int i_firstCame, .int i_longRun, .int i_moved, .int i_crowd, .int i_l0, .int i_fitMany, .int i_fitLeast, .int i_fitMost, .ref m_fitPost, .ref m_fitEnd, .ref m_keptPosts, .int i_x0]))], [(m_all, .inl (T.2 0, 3952, .inl f_all))], [(m_posts, .inl (T.2 0, 7, .inl g_posts_216))], [(m_shut, .inl (T.2 0, 7, .inl g_shut_217))], [(m_here, .inl (T.2 0, 7, .inl g_here_218))], [(m_was, .inl (T.2 0, 7, .inl g_was_219))]] _ _ := G
      refine lv_pop hx hb dL_law_1421 rfl ?_
      refine lv_goto (tgt := 1767) hx hb dL_law_1422 (by decide) ?_
      have G := G.sub (bs' := [[(xo, .inr (10, [.ref t, .ref im, .ref mk, .ref rd, .ref po, .ref co, .ref tr, .ref wa, .ref wb_, .ref fi, .ref cd]))], wt, z0_, z1_, wd0_, wd1_, wg0_, wg1_, [(rd, .inr (7, [.ref rl, .ref rdd, .ref rg, .int r0, .int r1, .ref tq, .int r2, .int r3, .int r4, .int r5, .int r6, .int r7, .int r8]))], z, wd, wg, wwA_175, wwB_187, wff, wc, wcp, wr, wrp, wp, [(cd, .inl (T.2 0, 1000, .inl fcd))], wta, z0_a, z1_a, wd0_a, wd1_a, wg0_a, wg1_a, wtb, z0_b, z1_b, wd0_b, wd1_b, wg0_b, wg1_b, wtc, z0_c, z1_c, wd0_c, wd1_c, wg0_c, wg1_c, [(im, .inl (T.2 6, 3, .inr (.inr (.inr (.inr qi)))))], [(mk, .inl (T.2 2, 3, .inl fmk))], [(mo, .inr (11, [.ref m_all, .ref m_has, .int i_size, .int i_next, .int i_where, .int i_token, .int i_number, .int i_word, .int i_wrong, .int i_farCrossing, .ref m_read, .int j_z0_209, .int j_crossings_210, .int j_inns_211, .ref m_posts, .ref m_shut, .ref m_here, .int j_steps_212, .int j_done_213, .int j_at_214, .int j_gone_215, .ref m_was, .ref m_came, .ref m_seenAt, .ref m_rowWorth, .ref m_farBy, .ref m_used, .int i_everywhere, .int i_again0, .int i_d0, .int i_never, .int i_firstCame, .int i_longRun, .int i_moved, .int i_crowd, .int i_l0, .int i_fitMany, .int i_fitLeast, .int i_fitMost, .ref m_fitPost, .ref m_fitEnd, .ref m_keptPosts, .int i_x0]))], [(m_all, .inl (T.2 0, 3952, .inl f_all))], [(m_has, .inl (T.2 2, 3, .inl f_has))], [(m_read, .inl (T.2 0, 121, .inl f_read))], [(m_posts, .inl (T.2 0, 7, .inl g_posts_216))], [(m_shut, .inl (T.2 0, 7, .inl g_shut_217))], [(m_here, .inl (T.2 0, 7, .inl g_here_218))], [(m_was, .inl (T.2 0, 7, .inl g_was_219))], [(m_came, .inl (T.2 0, 7, .inl f_came))], [(m_seenAt, .inl (T.2 0, 16384, .inl f_seenAt))], [(m_rowWorth, .inl (T.2 0, 512, .inl f_rowWorth))], [(m_farBy, .inl (T.2 0, 49, .inl f_farBy))], [(m_used, .inl (T.2 0, 7, .inl f_used))], [(m_fitPost, .inl (T.2 0, 28, .inl f_fitPost))], [(m_fitEnd, .inl (T.2 0, 49, .inl f_fitEnd))], [(m_keptPosts, .inl (T.2 0, 7, .inl f_keptPosts))]]) [48, 49, 50, 51, 0, 1, 2, 3, 4, 5, 6, 7, 52, 53, 8, 9, 10, 11, 12, 13, 14, 15, 16, 17, 18, 19, 20, 21, 22, 23, 24, 25, 26, 27, 28, 29, 30, 31, 32, 33, 34, 35, 36, 37, 54, 55, 38, 39, 56, 57, 58, 59, 40, 41, 42, 43, 44, 45, 46, 47] rfl
      refine W.widen (k := 216 + 2 * i + 12) (n := 27000 + 6 * (n4A_174 + n4B_186) + 2 * m1f) (by omega) (by omega) ?_
      exact kk n4A_174 n4B_186 m1f _ ⟨⟨t, im, mk, rd, po, co, tr, wa, wb_, fi, cd, wt, l0, l1, d0, d1, g0, g1, ln, z0_, z1_, wd0_, wd1_, wg0_, wg1_, rl, rdd, rg, r0, r1, tq, r2, r3, r4, r5, r6, r7, r8, z, wd, wg, wwA_175, mdA_165, wwB_187, mdB_177, wff, e0f, e1f, wc, cpo, wcp, wr, tpo, wrp, wp, fcd, m0, wta, l0a, l1a, d0a, d1a, g0a, g1a, lna, z0_a, z1_a, wd0_a, wd1_a, wg0_a, wg1_a, m1, wtb, l0b, l1b, d0b, d1b, g0b, g1b, lnb, z0_b, z1_b, wd0_b, wd1_b, wg0_b, wg1_b, m2, wtc, l0c, l1c, d0c, d1c, g0c, g1c, lnc, z0_c, z1_c, wd0_c, wd1_c, wg0_c, wg1_c, qi, fmk, m_all, m_has, i_size, i_next, i_where, i_token, i_number, i_word, i_wrong, i_farCrossing, m_read, j_z0_209, j_crossings_210, j_inns_211, m_posts, m_shut, m_here, j_steps_212, j_done_213, j_at_214, j_gone_215, m_was, m_came, m_seenAt, m_rowWorth, m_farBy, m_used, i_everywhere, i_again0, i_d0, i_never, i_firstCame, i_longRun, i_moved, i_crowd, i_l0, i_fitMany, i_fitLeast, i_fitMost, m_fitPost, m_fitEnd, m_keptPosts, i_x0, f_all, f_has, f_read, g_posts_216, g_shut_217, g_here_218, g_was_219, f_came, f_seenAt, f_rowWorth, f_farBy, f_used, f_fitPost, f_fitEnd, f_keptPosts⟩, rfl, ⟨v_116, v_117, v_118, v_119, h_120, (by first | assumption | omega)⟩, ⟨v_122, v_123, v_124, v_125, v_126, v_127, h_128, (by first | assumption | omega)⟩, ⟨v_130, v_131, v_132, v_133, v_134, v_135, h_136, (by first | assumption | omega)⟩, H_wd0_, H_wd1_, H_wg0_, H_wg1_, H_z, H_wd, H_wg, ⟨laA_164, wyA_166, pc_A_167, f1A_168, f2A_169, f3A_170, f4A_171, f5A_172, f6A_173, h_188, (by first | assumption | omega), (by first | assumption | omega), (by first | assumption | omega)⟩, ⟨laB_176, wyB_178, pc_B_179, f1B_180, f2B_181, f3B_182, f4B_183, f5B_184, f6B_185, h_194, (by first | assumption | omega), (by first | assumption | omega), (by first | assumption | omega)⟩, H_wff, H_wc, H_wcp, H_wr, H_wrp, H_wp, H_wta, H_z0_a, H_z1_a, H_wd0_a, H_wd1_a, H_wg0_a, H_wg1_a, H_wtb, H_z0_b, H_z1_b, H_wd0_b, H_wd1_b, H_wg0_b, H_wg1_b, H_wtc, H_z0_c, H_z1_c, H_wd0_c, H_wd1_c, H_wg0_c, H_wg1_c, (by first | assumption | omega), (by first | assumption | omega), (by first | assumption | omega), (by first | assumption | omega), (by first | assumption | omega), (by first | assumption | omega), (by first | assumption | omega), (by first | assumption | omega)⟩ _ _ ls G (lv_sub hl [0, 1, 2, 3] rfl)
  · have c_7n : ¬ (xs (i + 3)).toInt = (0 : Int) := fun q => c_7 ((fa_eq _ _).mpr q)
    refine lv_iconst (v := 1) hx hb dL_law_1359 (by decide) ?_
    refine lv_goto (tgt := 1364) hx hb dL_law_1360 (by decide) ?_
    refine lv_aload_n hx hb dL_law_1364 rfl (lv_at hl 0 rfl) ?_
    refine lv_iload_n hx hb dL_law_1365 rfl (lv_at hl 3 rfl) ?_
    refine lv_iconst (v := 4) hx hb dL_law_1366 (by decide) ?_
    refine lv_iadd hx hb dL_law_1367 ?_
    refine lv_topi (fun y_221 ey_221 => ?_)
    obtain rfl : y_221 = nI (i + 4) := ey_221.trans (z_iaddn i 4 rfl rfl)
    refine va_sld hx hb hX hbl hbA G.2.2.2.1 (vp_in_nI (by omega) (by omega)) dL_law_1368 ?_
    refine lv_topi (fun v_222 ev_222 => ?_)
    rw [nI_clamp (by omega)] at ev_222
    have ev_222 : v_222 = xs (i + 4) := ev_222
    subst ev_222
    refine lv_if_eq (tgt := 1376) hx hb dL_law_1369 (by decide) (fun c_223 => ?_) (fun c_223 => ?_)
    · have c_223n : (xs (i + 4)).toInt = (0 : Int) := (fa_eq _ _).mp c_223
      refine lv_iconst (v := 0) hx hb dL_law_1376 (by decide) ?_
      obtain ⟨v_224, v_225, v_226, v_227, h_228, h_229⟩ := H_wt
      have h_229 : zKT v_227 := h_229
      obtain ⟨v_230, v_231, v_232, v_233, v_234, v_235, h_236, h_237⟩ := H_z0_
      have h_237 : zLI v_230 v_232 v_234 := h_237
      obtain ⟨v_238, v_239, v_240, v_241, v_242, v_243, h_244, h_245⟩ := H_z1_
      have h_245 : zLI v_238 v_240 v_242 := h_245
      obtain ⟨v_246, v_247, v_248, v_249, v_250, v_251, v_252, v_253, v_254, h_255, h_256, h_257, h_258⟩ := H_wwA
      have h_256 : zPw n4A := h_256
      have h_257 : (mdA = 0 ∨ v_246 = l0) := h_257
      have h_258 : (0 ≤ v_247.toInt ∧ v_247.toInt ≤ 16384) := h_258
      obtain ⟨v_259, v_260, v_261, v_262, v_263, v_264, v_265, v_266, v_267, h_268, h_269, h_270, h_271⟩ := H_wwB
      have h_269 : zPw n4B := h_269
      have h_270 : (mdB = 0 ∨ v_259 = l1) := h_270
      have h_271 : (0 ≤ v_260.toInt ∧ v_260.toInt ≤ 16384) := h_271
      have hq0m := zNA_mono (c := ((xs (i + 1)).toInt = 0 ∧ 0 < (v_227 0).toInt ∧ 0 ≤ (xs (i + 2)).toInt ∧ (xs (i + 2)).toInt < v_230.toInt ∧ (xs (i + 2)).toInt < 7)) (md := mdA) (cr := v_230) (inn := v_231) (k1 := v_232) h_256
      have hq0l := zPw_le (zNA_ge (c := ((xs (i + 1)).toInt = 0 ∧ 0 < (v_227 0).toInt ∧ 0 ≤ (xs (i + 2)).toInt ∧ (xs (i + 2)).toInt < v_230.toInt ∧ (xs (i + 2)).toInt < 7)) (md := mdA) (pl := (zPl v_230 v_231 v_232)) h_256)
      have hq2m := zNA_mono (c := ((xs (i + 1)).toInt = 1 ∧ 1 < (v_227 0).toInt ∧ 0 ≤ (xs (i + 2)).toInt ∧ (xs (i + 2)).toInt < v_238.toInt ∧ (xs (i + 2)).toInt < 7)) (md := mdB) (cr := v_238) (inn := v_239) (k1 := v_240) h_269
      have hq2l := zPw_le (zNA_ge (c := ((xs (i + 1)).toInt = 1 ∧ 1 < (v_227 0).toInt ∧ 0 ≤ (xs (i + 2)).toInt ∧ (xs (i + 2)).toInt < v_238.toInt ∧ (xs (i + 2)).toInt < 7)) (md := mdB) (pl := (zPl v_238 v_239 v_240)) h_269)
      refine z_Vi (bc := [[(xo, .inr (10, [.ref t, .ref im, .ref mk, .ref rd, .ref po, .ref co, .ref tr, .ref wa, .ref wb_, .ref fi, .ref cd]))], wt, z0_, z1_, wwA, wwB]) (br := [wd0_, wd1_, wg0_, wg1_, [(rd, .inr (7, [.ref rl, .ref rdd, .ref rg, .int r0, .int r1, .ref tq, .int r2, .int r3, .int r4, .int r5, .int r6, .int r7, .int r8]))], z, wd, wg, wff, wc, wcp, wr, wrp, wp, [(cd, .inl (T.2 0, 1000, .inl fcd))], wta, z0_a, z1_a, wd0_a, wd1_a, wg0_a, wg1_a, wtb, z0_b, z1_b, wd0_b, wd1_b, wg0_b, wg1_b, wtc, z0_c, z1_c, wd0_c, wd1_c, wg0_c, wg1_c, [(im, .inl (T.2 6, 3, .inr (.inr (.inr (.inr qi)))))], [(mk, .inl (T.2 2, 3, .inl fmk))], [(mo, .inr (11, [.ref m_all, .ref m_has, .int i_size, .int i_next, .int i_where, .int i_token, .int i_number, .int i_word, .int i_wrong, .int i_farCrossing, .ref m_read, .int i_z0, .int i_crossings, .int i_inns, .ref m_posts, .ref m_shut, .ref m_here, .int i_steps, .int i_done, .int i_at, .int i_gone, .ref m_was, .ref m_came, .ref m_seenAt, .ref m_rowWorth, .ref m_farBy, .ref m_used, .int i_everywhere, .int i_again0, .int i_d0, .int i_never, .int i_firstCame, .int i_longRun, .int i_moved, .int i_crowd, .int i_l0, .int i_fitMany, .int i_fitLeast, .int i_fitMost, .ref m_fitPost, .ref m_fitEnd, .ref m_keptPosts, .int i_x0]))], [(m_all, .inl (T.2 0, 3952, .inl f_all))], [(m_has, .inl (T.2 2, 3, .inl f_has))], [(m_read, .inl (T.2 0, 121, .inl f_read))], [(m_posts, .inl (T.2 0, 7, .inl f_posts))], [(m_shut, .inl (T.2 0, 7, .inl f_shut))], [(m_here, .inl (T.2 0, 7, .inl f_here))], [(m_was, .inl (T.2 0, 7, .inl f_was))], [(m_came, .inl (T.2 0, 7, .inl f_came))], [(m_seenAt, .inl (T.2 0, 16384, .inl f_seenAt))], [(m_rowWorth, .inl (T.2 0, 512, .inl f_rowWorth))], [(m_farBy, .inl (T.2 0, 49, .inl f_farBy))], [(m_used, .inl (T.2 0, 7, .inl f_used))], [(m_fitPost, .inl (T.2 0, 28, .inl f_fitPost))], [(m_fitEnd, .inl (T.2 0, 49, .inl f_fitEnd))], [(m_keptPosts, .inl (T.2 0, 7, .inl f_keptPosts))]]) (As := [.int (xs (i + 1)), .int (xs (i + 2)), .int 1, .int 0]) (rest := []) C G (c_longest l T xo t im mk rd po co tr wa wb_ fi cd l0 l1 d0 d1 g0 g1 ln v_224 v_225 v_226 v_227 wt v_230 v_231 v_232 v_233 v_234 v_235 z0_ v_238 v_239 v_240 v_241 v_242 v_243 z1_ v_246 mdA v_247 v_248 v_249 v_250 v_251 v_252 v_253 v_254 n4A wwA v_259 mdB v_260 v_261 v_262 v_263 v_264 v_265 v_266 v_267 n4B wwB (xs (i + 1)) (xs (i + 2)) 1 0 h_228 (by first | assumption | omega | rfl) h_236 (by first | assumption | omega | rfl) h_244 (by first | assumption | omega | rfl) h_255 (by first | assumption | omega | rfl) (by first | assumption | omega | rfl) (by first | assumption | omega | rfl) h_268 (by first | assumption | omega | rfl) (by first | assumption | omega | rfl) (by first | assumption | omega | rfl)) (kV_RL_124 C.2.2.2.2 (Nat.le_of_ble_eq_true rfl) (Nat.le_of_ble_eq_true rfl)) [0, 1, 2, 3, 12, 13] [4, 5, 6, 7, 8, 9, 10, 11, 14, 15, 16, 17, 18, 19, 20, 21, 22, 23, 24, 25, 26, 27, 28, 29, 30, 31, 32, 33, 34, 35, 36, 37, 38, 39, 40, 41, 42, 43, 44, 45, 46, 47, 48, 49, 50, 51, 52, 53, 54, 55, 56, 57, 58, 59] rfl rfl (ci := 10) (qc := (RX11, TX11, 11)) rfl rfl (List.mem_flatten.mpr ⟨_, List.mem_of_getElem? (i := 0) rfl, List.mem_cons_self⟩) rfl rfl hl.1 dL_law_1377 (by show _ + 3 ≤ 600000; omega) (by show _ + (6 * (zNA ((xs (i + 1)).toInt = 0 ∧ 0 < (v_227 0).toInt ∧ 0 ≤ (xs (i + 2)).toInt ∧ (xs (i + 2)).toInt < v_230.toInt ∧ (xs (i + 2)).toInt < 7) mdA n4A (zPl v_230 v_231 v_232) - n4A) + 6 * (zNA ((xs (i + 1)).toInt = 1 ∧ 1 < (v_227 0).toInt ∧ 0 ≤ (xs (i + 2)).toInt ∧ (xs (i + 2)).toInt < v_238.toInt ∧ (xs (i + 2)).toInt < 7) mdB n4B (zPl v_238 v_239 v_240) - n4B)) ≤ 7302250; omega) (fun r_308 b1 H locs hw G => ?_)
      obtain ⟨laA_272, mdA_273, wyA_274, pc_A_275, f1A_276, f2A_277, f3A_278, f4A_279, f5A_280, f6A_281, n4A_282, wwA_283, laB_284, mdB_285, wyB_286, pc_B_287, f1B_288, f2B_289, f3B_290, f4B_291, f5B_292, f6B_293, n4B_294, wwB_295, rfl, h_296, h_297, h_298, h_299, h_300, h_301, h_302, h_303, h_304, h_305, h_306, h_307⟩ := hw
      have G : zS T A s.heap s [wd0_, wd1_, wg0_, wg1_, [(rd, .inr (7, [.ref rl, .ref rdd, .ref rg, .int r0, .int r1, .ref tq, .int r2, .int r3, .int r4, .int r5, .int r6, .int r7, .int r8]))], z, wd, wg, wff, wc, wcp, wr, wrp, wp, [(cd, .inl (T.2 0, 1000, .inl fcd))], wta, z0_a, z1_a, wd0_a, wd1_a, wg0_a, wg1_a, wtb, z0_b, z1_b, wd0_b, wd1_b, wg0_b, wg1_b, wtc, z0_c, z1_c, wd0_c, wd1_c, wg0_c, wg1_c, [(im, .inl (T.2 6, 3, .inr (.inr (.inr (.inr qi)))))], [(mk, .inl (T.2 2, 3, .inl fmk))], [(mo, .inr (11, [.ref m_all, .ref m_has, .int i_size, .int i_next, .int i_where, .int i_token, .int i_number, .int i_word, .int i_wrong, .int i_farCrossing, .ref m_read, .int i_z0, .int i_crossings, .int i_inns, .ref m_posts, .ref m_shut, .ref m_here, .int i_steps, .int i_done, .int i_at, .int i_gone, .ref m_was, .ref m_came, .ref m_seenAt, .ref m_rowWorth, .ref m_farBy, .ref m_used, .int i_everywhere, .int i_again0, .int i_d0, .int i_never, .int i_firstCame, .int i_longRun, .int i_moved, .int i_crowd, .int i_l0, .int i_fitMany, .int i_fitLeast, .int i_fitMost, .ref m_fitPost, .ref m_fitEnd, .ref m_keptPosts, .int i_x0]))], [(m_all, .inl (T.2 0, 3952, .inl f_all))], [(m_has, .inl (T.2 2, 3, .inl f_has))], [(m_read, .inl (T.2 0, 121, .inl f_read))], [(m_posts, .inl (T.2 0, 7, .inl f_posts))], [(m_shut, .inl (T.2 0, 7, .inl f_shut))], [(m_here, .inl (T.2 0, 7, .inl f_here))], [(m_was, .inl (T.2 0, 7, .inl f_was))], [(m_came, .inl (T.2 0, 7, .inl f_came))], [(m_seenAt, .inl (T.2 0, 16384, .inl f_seenAt))], [(m_rowWorth, .inl (T.2 0, 512, .inl f_rowWorth))], [(m_farBy, .inl (T.2 0, 49, .inl f_farBy))], [(m_used, .inl (T.2 0, 7, .inl f_used))], [(m_fitPost, .inl (T.2 0, 28, .inl f_fitPost))], [(m_fitEnd, .inl (T.2 0, 49, .inl f_fitEnd))], [(m_keptPosts, .inl (T.2 0, 7, .inl f_keptPosts))], [(xo, .inr (10, [.ref t, .ref im, .ref mk, .ref rd, .ref po, .ref co, .ref tr, .ref wa, .ref wb_, .ref fi, .ref cd]))], wt, z0_, z1_, wwA_283, wwB_295] _ _ := G
      have hFI2 : (¬ e0f = 0 → e1f.toInt = 0 ∧ ¬ mdA_273 = 0 ∨ e1f.toInt = 1 ∧ ¬ mdB_285 = 0) := fun q => (hFI q).elim (fun z => Or.inl ⟨z.1, h_301 z.2⟩) (fun z => Or.inr ⟨z.1, h_307 z.2⟩)
      refine lv_pop hx hb dL_law_1380 rfl ?_
      refine lv_aload_n hx hb dL_law_1381 rfl (lv_at hl 2 rfl) ?_
      refine lv_aload_n hx hb dL_law_1382 rfl (lv_at hl 0 rfl) ?_
      refine lv_iload_n hx hb dL_law_1383 rfl (lv_at hl 3 rfl) ?_
      refine lv_iconst (v := 1) hx hb dL_law_1384 (by decide) ?_
      refine lv_iadd hx hb dL_law_1385 ?_
      refine lv_topi (fun y_309 ey_309 => ?_)
      obtain rfl : y_309 = nI (i + 1) := ey_309.trans (z_iaddn i 1 rfl rfl)
      refine va_sld hx hb hX hbl hbA G.2.2.2.1 (vp_in_nI (by omega) (by omega)) dL_law_1386 ?_
      refine lv_topi (fun v_310 ev_310 => ?_)
      rw [nI_clamp (by omega)] at ev_310
      have ev_310 : v_310 = xs (i + 1) := ev_310
      subst ev_310
      refine lv_aload_n hx hb dL_law_1387 rfl (lv_at hl 0 rfl) ?_
      refine lv_iload_n hx hb dL_law_1388 rfl (lv_at hl 3 rfl) ?_
      refine lv_iconst (v := 2) hx hb dL_law_1389 (by decide) ?_
      refine lv_iadd hx hb dL_law_1390 ?_
      refine lv_topi (fun y_311 ey_311 => ?_)
      obtain rfl : y_311 = nI (i + 2) := ey_311.trans (z_iaddn i 2 rfl rfl)
      refine va_sld hx hb hX hbl hbA G.2.2.2.1 (vp_in_nI (by omega) (by omega)) dL_law_1391 ?_
      refine lv_topi (fun v_312 ev_312 => ?_)
      rw [nI_clamp (by omega)] at ev_312
      have ev_312 : v_312 = xs (i + 2) := ev_312
      subst ev_312
      refine lv_aload_n hx hb dL_law_1392 rfl (lv_at hl 0 rfl) ?_
      refine lv_iload_n hx hb dL_law_1393 rfl (lv_at hl 3 rfl) ?_
      refine lv_iconst (v := 3) hx hb dL_law_1394 (by decide) ?_
      refine lv_iadd hx hb dL_law_1395 ?_
      refine lv_topi (fun y_313 ey_313 => ?_)
      obtain rfl : y_313 = nI (i + 3) := ey_313.trans (z_iaddn i 3 rfl rfl)
      refine va_sld hx hb hX hbl hbA G.2.2.2.1 (vp_in_nI (by omega) (by omega)) dL_law_1396 ?_
      refine lv_topi (fun v_314 ev_314 => ?_)
      rw [nI_clamp (by omega)] at ev_314
      have ev_314 : v_314 = xs (i + 3) := ev_314
      subst ev_314
      refine lv_if_eq (tgt := 1404) hx hb dL_law_1397 (by decide) (fun q => absurd q c_7) (fun _ => ?_)
      refine lv_iconst (v := 1) hx hb dL_law_1400 (by decide) ?_
      refine lv_goto (tgt := 1405) hx hb dL_law_1401 (by decide) ?_
      refine lv_aload_n hx hb dL_law_1405 rfl (lv_at hl 0 rfl) ?_
      refine lv_iload_n hx hb dL_law_1406 rfl (lv_at hl 3 rfl) ?_
      refine lv_iconst (v := 4) hx hb dL_law_1407 (by decide) ?_
      refine lv_iadd hx hb dL_law_1408 ?_
      refine lv_topi (fun y_315 ey_315 => ?_)
      obtain rfl : y_315 = nI (i + 4) := ey_315.trans (z_iaddn i 4 rfl rfl)
      refine va_sld hx hb hX hbl hbA G.2.2.2.1 (vp_in_nI (by omega) (by omega)) dL_law_1409 ?_
      refine lv_topi (fun v_316 ev_316 => ?_)
      rw [nI_clamp (by omega)] at ev_316
      have ev_316 : v_316 = xs (i + 4) := ev_316
      subst ev_316
      refine lv_if_eq (tgt := 1417) hx hb dL_law_1410 (by decide) (fun _ => ?_) (fun q => absurd c_223 q)
      refine lv_iconst (v := 0) hx hb dL_law_1417 (by decide) ?_
      refine z_Vi (bc := [[(mo, .inr (11, [.ref m_all, .ref m_has, .int i_size, .int i_next, .int i_where, .int i_token, .int i_number, .int i_word, .int i_wrong, .int i_farCrossing, .ref m_read, .int i_z0, .int i_crossings, .int i_inns, .ref m_posts, .ref m_shut, .ref m_here, .int i_steps, .int i_done, .int i_at, .int i_gone, .ref m_was, .ref m_came, .ref m_seenAt, .ref m_rowWorth, .ref m_farBy, .ref m_used, .int i_everywhere, .int i_again0, .int i_d0, .int i_never, .int i_firstCame, .int i_longRun, .int i_moved, .int i_crowd, .int i_l0, .int i_fitMany, .int i_fitLeast, .int i_fitMost, .ref m_fitPost, .ref m_fitEnd, .ref m_keptPosts, .int i_x0]))], [(m_all, .inl (T.2 0, 3952, .inl f_all))], [(m_posts, .inl (T.2 0, 7, .inl f_posts))], [(m_shut, .inl (T.2 0, 7, .inl f_shut))], [(m_here, .inl (T.2 0, 7, .inl f_here))], [(m_was, .inl (T.2 0, 7, .inl f_was))]]) (br := [wd0_, wd1_, wg0_, wg1_, [(rd, .inr (7, [.ref rl, .ref rdd, .ref rg, .int r0, .int r1, .ref tq, .int r2, .int r3, .int r4, .int r5, .int r6, .int r7, .int r8]))], z, wd, wg, wff, wc, wcp, wr, wrp, wp, [(cd, .inl (T.2 0, 1000, .inl fcd))], wta, z0_a, z1_a, wd0_a, wd1_a, wg0_a, wg1_a, wtb, z0_b, z1_b, wd0_b, wd1_b, wg0_b, wg1_b, wtc, z0_c, z1_c, wd0_c, wd1_c, wg0_c, wg1_c, [(im, .inl (T.2 6, 3, .inr (.inr (.inr (.inr qi)))))], [(mk, .inl (T.2 2, 3, .inl fmk))], [(m_has, .inl (T.2 2, 3, .inl f_has))], [(m_read, .inl (T.2 0, 121, .inl f_read))], [(m_came, .inl (T.2 0, 7, .inl f_came))], [(m_seenAt, .inl (T.2 0, 16384, .inl f_seenAt))], [(m_rowWorth, .inl (T.2 0, 512, .inl f_rowWorth))], [(m_farBy, .inl (T.2 0, 49, .inl f_farBy))], [(m_used, .inl (T.2 0, 7, .inl f_used))], [(m_fitPost, .inl (T.2 0, 28, .inl f_fitPost))], [(m_fitEnd, .inl (T.2 0, 49, .inl f_fitEnd))], [(m_keptPosts, .inl (T.2 0, 7, .inl f_keptPosts))], [(xo, .inr (10, [.ref t, .ref im, .ref mk, .ref rd, .ref po, .ref co, .ref tr, .ref wa, .ref wb_, .ref fi, .ref cd]))], wt, z0_, z1_, wwA_283, wwB_295]) (As := [.int (xs (i + 1)), .int (xs (i + 2)), .int 1, .int 0]) (rest := []) C G (c_m_longest l T mo m_all m_has i_size i_next i_where i_token i_number i_word i_wrong i_farCrossing m_read i_z0 i_crossings i_inns m_posts m_shut m_here i_steps i_done i_at i_gone m_was m_came m_seenAt m_rowWorth m_farBy m_used i_everywhere i_again0 i_d0 i_never i_firstCame i_longRun i_moved i_crowd i_l0 i_fitMany i_fitLeast i_fitMost m_fitPost m_fitEnd m_keptPosts i_x0 f_all f_posts f_shut f_here f_was (xs (i + 1)) (xs (i + 2)) 1 0 (by first | assumption | omega | rfl)) (kV_RL_128 C.2.2.2.2 (Nat.le_of_ble_eq_true rfl) (Nat.le_of_ble_eq_true rfl)) [38, 39, 42, 43, 44, 45] [0, 1, 2, 3, 4, 5, 6, 7, 8, 9, 10, 11, 12, 13, 14, 15, 16, 17, 18, 19, 20, 21, 22, 23, 24, 25, 26, 27, 28, 29, 30, 31, 32, 33, 34, 35, 36, 37, 40, 41, 46, 47, 48, 49, 50, 51, 52, 53, 54, 55, 56, 57, 58, 59] rfl rfl (ci := 11) (qc := (RX12, TX12, 43)) rfl rfl (List.mem_flatten.mpr ⟨_, List.mem_of_getElem? (i := 0) rfl, List.mem_cons_self⟩) rfl rfl hl.1 dL_law_1418 (by show _ + 0 ≤ 600000; omega) (by show _ + 0 ≤ 7302250; omega) (fun r_328 b1 H locs hw G => ?_)
      obtain ⟨j_z0_317, j_crossings_318, j_inns_319, j_steps_320, j_done_321, j_at_322, j_gone_323, g_posts_324, g_shut_325, g_here_326, g_was_327, rfl⟩ := hw
      have G : zS T A s.heap s [wd0_, wd1_, wg0_, wg1_, [(rd, .inr (7, [.ref rl, .ref rdd, .ref rg, .int r0, .int r1, .ref tq, .int r2, .int r3, .int r4, .int r5, .int r6, .int r7, .int r8]))], z, wd, wg, wff, wc, wcp, wr, wrp, wp, [(cd, .inl (T.2 0, 1000, .inl fcd))], wta, z0_a, z1_a, wd0_a, wd1_a, wg0_a, wg1_a, wtb, z0_b, z1_b, wd0_b, wd1_b, wg0_b, wg1_b, wtc, z0_c, z1_c, wd0_c, wd1_c, wg0_c, wg1_c, [(im, .inl (T.2 6, 3, .inr (.inr (.inr (.inr qi)))))], [(mk, .inl (T.2 2, 3, .inl fmk))], [(m_has, .inl (T.2 2, 3, .inl f_has))], [(m_read, .inl (T.2 0, 121, .inl f_read))], [(m_came, .inl (T.2 0, 7, .inl f_came))], [(m_seenAt, .inl (T.2 0, 16384, .inl f_seenAt))], [(m_rowWorth, .inl (T.2 0, 512, .inl f_rowWorth))], [(m_farBy, .inl (T.2 0, 49, .inl f_farBy))], [(m_used, .inl (T.2 0, 7, .inl f_used))], [(m_fitPost, .inl (T.2 0, 28, .inl f_fitPost))], [(m_fitEnd, .inl (T.2 0, 49, .inl f_fitEnd))], [(m_keptPosts, .inl (T.2 0, 7, .inl f_keptPosts))], [(xo, .inr (10, [.ref t, .ref im, .ref mk, .ref rd, .ref po, .ref co, .ref tr, .ref wa, .ref wb_, .ref fi, .ref cd]))], wt, z0_, z1_, wwA_283, wwB_295, [(mo, .inr (11, [.ref m_all, .ref m_has, .int i_size, .int i_next, .int i_where, .int i_token, .int i_number, .int i_word, .int i_wrong, .int i_farCrossing, .ref m_read, .int j_z0_317, .int j_crossings_318, .int j_inns_319, .ref m_posts, .ref m_shut, .ref m_here, .int j_steps_320, .int j_done_321, .int j_at_322, .int j_gone_323, .ref m_was, .ref m_came, .ref m_seenAt, .ref m_rowWorth, .ref m_farBy, .ref m_used, .int i_everywhere, .int i_again0, .int i_d0, .int i_never, .int i_firstCame, .int i_longRun, .int i_moved, .int i_crowd, .int i_l0, .int i_fitMany, .int i_fitLeast, .int i_fitMost, .ref m_fitPost, .ref m_fitEnd, .ref m_keptPosts, .int i_x0]))], [(m_all, .inl (T.2 0, 3952, .inl f_all))], [(m_posts, .inl (T.2 0, 7, .inl g_posts_324))], [(m_shut, .inl (T.2 0, 7, .inl g_shut_325))], [(m_here, .inl (T.2 0, 7, .inl g_here_326))], [(m_was, .inl (T.2 0, 7, .inl g_was_327))]] _ _ := G
      refine lv_pop hx hb dL_law_1421 rfl ?_
      refine lv_goto (tgt := 1767) hx hb dL_law_1422 (by decide) ?_
      have G := G.sub (bs' := [[(xo, .inr (10, [.ref t, .ref im, .ref mk, .ref rd, .ref po, .ref co, .ref tr, .ref wa, .ref wb_, .ref fi, .ref cd]))], wt, z0_, z1_, wd0_, wd1_, wg0_, wg1_, [(rd, .inr (7, [.ref rl, .ref rdd, .ref rg, .int r0, .int r1, .ref tq, .int r2, .int r3, .int r4, .int r5, .int r6, .int r7, .int r8]))], z, wd, wg, wwA_283, wwB_295, wff, wc, wcp, wr, wrp, wp, [(cd, .inl (T.2 0, 1000, .inl fcd))], wta, z0_a, z1_a, wd0_a, wd1_a, wg0_a, wg1_a, wtb, z0_b, z1_b, wd0_b, wd1_b, wg0_b, wg1_b, wtc, z0_c, z1_c, wd0_c, wd1_c, wg0_c, wg1_c, [(im, .inl (T.2 6, 3, .inr (.inr (.inr (.inr qi)))))], [(mk, .inl (T.2 2, 3, .inl fmk))], [(mo, .inr (11, [.ref m_all, .ref m_has, .int i_size, .int i_next, .int i_where, .int i_token, .int i_number, .int i_word, .int i_wrong, .int i_farCrossing, .ref m_read, .int j_z0_317, .int j_crossings_318, .int j_inns_319, .ref m_posts, .ref m_shut, .ref m_here, .int j_steps_320, .int j_done_321, .int j_at_322, .int j_gone_323, .ref m_was, .ref m_came, .ref m_seenAt, .ref m_rowWorth, .ref m_farBy, .ref m_used, .int i_everywhere, .int i_again0, .int i_d0, .int i_never, .int i_firstCame, .int i_longRun, .int i_moved, .int i_crowd, .int i_l0, .int i_fitMany, .int i_fitLeast, .int i_fitMost, .ref m_fitPost, .ref m_fitEnd, .ref m_keptPosts, .int i_x0]))], [(m_all, .inl (T.2 0, 3952, .inl f_all))], [(m_has, .inl (T.2 2, 3, .inl f_has))], [(m_read, .inl (T.2 0, 121, .inl f_read))], [(m_posts, .inl (T.2 0, 7, .inl g_posts_324))], [(m_shut, .inl (T.2 0, 7, .inl g_shut_325))], [(m_here, .inl (T.2 0, 7, .inl g_here_326))], [(m_was, .inl (T.2 0, 7, .inl g_was_327))], [(m_came, .inl (T.2 0, 7, .inl f_came))], [(m_seenAt, .inl (T.2 0, 16384, .inl f_seenAt))], [(m_rowWorth, .inl (T.2 0, 512, .inl f_rowWorth))], [(m_farBy, .inl (T.2 0, 49, .inl f_farBy))], [(m_used, .inl (T.2 0, 7, .inl f_used))], [(m_fitPost, .inl (T.2 0, 28, .inl f_fitPost))], [(m_fitEnd, .inl (T.2 0, 49, .inl f_fitEnd))], [(m_keptPosts, .inl (T.2 0, 7, .inl f_keptPosts))]]) [48, 49, 50, 51, 0, 1, 2, 3, 4, 5, 6, 7, 52, 53, 8, 9, 10, 11, 12, 13, 14, 15, 16, 17, 18, 19, 20, 21, 22, 23, 24, 25, 26, 27, 28, 29, 30, 31, 32, 33, 34, 35, 36, 37, 54, 55, 38, 39, 56, 57, 58, 59, 40, 41, 42, 43, 44, 45, 46, 47] rfl
      refine W.widen (k := 216 + 2 * i + 12) (n := 27000 + 6 * (n4A_282 + n4B_294) + 2 * m1f) (by omega) (by omega) ?_
      exact kk n4A_282 n4B_294 m1f _ ⟨⟨t, im, mk, rd, po, co, tr, wa, wb_, fi, cd, wt, l0, l1, d0, d1, g0, g1, ln, z0_, z1_, wd0_, wd1_, wg0_, wg1_, rl, rdd, rg, r0, r1, tq, r2, r3, r4, r5, r6, r7, r8, z, wd, wg, wwA_283, mdA_273, wwB_295, mdB_285, wff, e0f, e1f, wc, cpo, wcp, wr, tpo, wrp, wp, fcd, m0, wta, l0a, l1a, d0a, d1a, g0a, g1a, lna, z0_a, z1_a, wd0_a, wd1_a, wg0_a, wg1_a, m1, wtb, l0b, l1b, d0b, d1b, g0b, g1b, lnb, z0_b, z1_b, wd0_b, wd1_b, wg0_b, wg1_b, m2, wtc, l0c, l1c, d0c, d1c, g0c, g1c, lnc, z0_c, z1_c, wd0_c, wd1_c, wg0_c, wg1_c, qi, fmk, m_all, m_has, i_size, i_next, i_where, i_token, i_number, i_word, i_wrong, i_farCrossing, m_read, j_z0_317, j_crossings_318, j_inns_319, m_posts, m_shut, m_here, j_steps_320, j_done_321, j_at_322, j_gone_323, m_was, m_came, m_seenAt, m_rowWorth, m_farBy, m_used, i_everywhere, i_again0, i_d0, i_never, i_firstCame, i_longRun, i_moved, i_crowd, i_l0, i_fitMany, i_fitLeast, i_fitMost, m_fitPost, m_fitEnd, m_keptPosts, i_x0, f_all, f_has, f_read, g_posts_324, g_shut_325, g_here_326, g_was_327, f_came, f_seenAt, f_rowWorth, f_farBy, f_used, f_fitPost, f_fitEnd, f_keptPosts⟩, rfl, ⟨v_224, v_225, v_226, v_227, h_228, (by first | assumption | omega)⟩, ⟨v_230, v_231, v_232, v_233, v_234, v_235, h_236, (by first | assumption | omega)⟩, ⟨v_238, v_239, v_240, v_241, v_242, v_243, h_244, (by first | assumption | omega)⟩, H_wd0_, H_wd1_, H_wg0_, H_wg1_, H_z, H_wd, H_wg, ⟨laA_272, wyA_274, pc_A_275, f1A_276, f2A_277, f3A_278, f4A_279, f5A_280, f6A_281, h_296, (by first | assumption | omega), (by first | assumption | omega), (by first | assumption | omega)⟩, ⟨laB_284, wyB_286, pc_B_287, f1B_288, f2B_289, f3B_290, f4B_291, f5B_292, f6B_293, h_302, (by first | assumption | omega), (by first | assumption | omega), (by first | assumption | omega)⟩, H_wff, H_wc, H_wcp, H_wr, H_wrp, H_wp, H_wta, H_z0_a, H_z1_a, H_wd0_a, H_wd1_a, H_wg0_a, H_wg1_a, H_wtb, H_z0_b, H_z1_b, H_wd0_b, H_wd1_b, H_wg0_b, H_wg1_b, H_wtc, H_z0_c, H_z1_c, H_wd0_c, H_wd1_c, H_wg0_c, H_wg1_c, (by first | assumption | omega), (by first | assumption | omega), (by first | assumption | omega), (by first | assumption | omega), (by first | assumption | omega), (by first | assumption | omega), (by first | assumption | omega), (by first | assumption | omega)⟩ _ _ ls G (lv_sub hl [0, 1, 2, 3] rfl)
    · have c_223n : ¬ (xs (i + 4)).toInt = (0 : Int) := fun q => c_223 ((fa_eq _ _).mpr q)
      refine lv_iconst (v := 1) hx hb dL_law_1372 (by decide) ?_
      refine lv_goto (tgt := 1377) hx hb dL_law_1373 (by decide) ?_
      obtain ⟨v_329, v_330, v_331, v_332, h_333, h_334⟩ := H_wt
      have h_334 : zKT v_332 := h_334
      obtain ⟨v_335, v_336, v_337, v_338, v_339, v_340, h_341, h_342⟩ := H_z0_
      have h_342 : zLI v_335 v_337 v_339 := h_342
      obtain ⟨v_343, v_344, v_345, v_346, v_347, v_348, h_349, h_350⟩ := H_z1_
      have h_350 : zLI v_343 v_345 v_347 := h_350
      obtain ⟨v_351, v_352, v_353, v_354, v_355, v_356, v_357, v_358, v_359, h_360, h_361, h_362, h_363⟩ := H_wwA
      have h_361 : zPw n4A := h_361
      have h_362 : (mdA = 0 ∨ v_351 = l0) := h_362
      have h_363 : (0 ≤ v_352.toInt ∧ v_352.toInt ≤ 16384) := h_363
      obtain ⟨v_364, v_365, v_366, v_367, v_368, v_369, v_370, v_371, v_372, h_373, h_374, h_375, h_376⟩ := H_wwB
      have h_374 : zPw n4B := h_374
      have h_375 : (mdB = 0 ∨ v_364 = l1) := h_375
      have h_376 : (0 ≤ v_365.toInt ∧ v_365.toInt ≤ 16384) := h_376
      have hq0m := zNA_mono (c := ((xs (i + 1)).toInt = 0 ∧ 0 < (v_332 0).toInt ∧ 0 ≤ (xs (i + 2)).toInt ∧ (xs (i + 2)).toInt < v_335.toInt ∧ (xs (i + 2)).toInt < 7)) (md := mdA) (cr := v_335) (inn := v_336) (k1 := v_337) h_361
      have hq0l := zPw_le (zNA_ge (c := ((xs (i + 1)).toInt = 0 ∧ 0 < (v_332 0).toInt ∧ 0 ≤ (xs (i + 2)).toInt ∧ (xs (i + 2)).toInt < v_335.toInt ∧ (xs (i + 2)).toInt < 7)) (md := mdA) (pl := (zPl v_335 v_336 v_337)) h_361)
      have hq2m := zNA_mono (c := ((xs (i + 1)).toInt = 1 ∧ 1 < (v_332 0).toInt ∧ 0 ≤ (xs (i + 2)).toInt ∧ (xs (i + 2)).toInt < v_343.toInt ∧ (xs (i + 2)).toInt < 7)) (md := mdB) (cr := v_343) (inn := v_344) (k1 := v_345) h_374
      have hq2l := zPw_le (zNA_ge (c := ((xs (i + 1)).toInt = 1 ∧ 1 < (v_332 0).toInt ∧ 0 ≤ (xs (i + 2)).toInt ∧ (xs (i + 2)).toInt < v_343.toInt ∧ (xs (i + 2)).toInt < 7)) (md := mdB) (pl := (zPl v_343 v_344 v_345)) h_374)
      refine z_Vi (bc := [[(xo, .inr (10, [.ref t, .ref im, .ref mk, .ref rd, .ref po, .ref co, .ref tr, .ref wa, .ref wb_, .ref fi, .ref cd]))], wt, z0_, z1_, wwA, wwB]) (br := [wd0_, wd1_, wg0_, wg1_, [(rd, .inr (7, [.ref rl, .ref rdd, .ref rg, .int r0, .int r1, .ref tq, .int r2, .int r3, .int r4, .int r5, .int r6, .int r7, .int r8]))], z, wd, wg, wff, wc, wcp, wr, wrp, wp, [(cd, .inl (T.2 0, 1000, .inl fcd))], wta, z0_a, z1_a, wd0_a, wd1_a, wg0_a, wg1_a, wtb, z0_b, z1_b, wd0_b, wd1_b, wg0_b, wg1_b, wtc, z0_c, z1_c, wd0_c, wd1_c, wg0_c, wg1_c, [(im, .inl (T.2 6, 3, .inr (.inr (.inr (.inr qi)))))], [(mk, .inl (T.2 2, 3, .inl fmk))], [(mo, .inr (11, [.ref m_all, .ref m_has, .int i_size, .int i_next, .int i_where, .int i_token, .int i_number, .int i_word, .int i_wrong, .int i_farCrossing, .ref m_read, .int i_z0, .int i_crossings, .int i_inns, .ref m_posts, .ref m_shut, .ref m_here, .int i_steps, .int i_done, .int i_at, .int i_gone, .ref m_was, .ref m_came, .ref m_seenAt, .ref m_rowWorth, .ref m_farBy, .ref m_used, .int i_everywhere, .int i_again0, .int i_d0, .int i_never, .int i_firstCame, .int i_longRun, .int i_moved, .int i_crowd, .int i_l0, .int i_fitMany, .int i_fitLeast, .int i_fitMost, .ref m_fitPost, .ref m_fitEnd, .ref m_keptPosts, .int i_x0]))], [(m_all, .inl (T.2 0, 3952, .inl f_all))], [(m_has, .inl (T.2 2, 3, .inl f_has))], [(m_read, .inl (T.2 0, 121, .inl f_read))], [(m_posts, .inl (T.2 0, 7, .inl f_posts))], [(m_shut, .inl (T.2 0, 7, .inl f_shut))], [(m_here, .inl (T.2 0, 7, .inl f_here))], [(m_was, .inl (T.2 0, 7, .inl f_was))], [(m_came, .inl (T.2 0, 7, .inl f_came))], [(m_seenAt, .inl (T.2 0, 16384, .inl f_seenAt))], [(m_rowWorth, .inl (T.2 0, 512, .inl f_rowWorth))], [(m_farBy, .inl (T.2 0, 49, .inl f_farBy))], [(m_used, .inl (T.2 0, 7, .inl f_used))], [(m_fitPost, .inl (T.2 0, 28, .inl f_fitPost))], [(m_fitEnd, .inl (T.2 0, 49, .inl f_fitEnd))], [(m_keptPosts, .inl (T.2 0, 7, .inl f_keptPosts))]]) (As := [.int (xs (i + 1)), .int (xs (i + 2)), .int 1, .int 1]) (rest := []) C G (c_longest l T xo t im mk rd po co tr wa wb_ fi cd l0 l1 d0 d1 g0 g1 ln v_329 v_330 v_331 v_332 wt v_335 v_336 v_337 v_338 v_339 v_340 z0_ v_343 v_344 v_345 v_346 v_347 v_348 z1_ v_351 mdA v_352 v_353 v_354 v_355 v_356 v_357 v_358 v_359 n4A wwA v_364 mdB v_365 v_366 v_367 v_368 v_369 v_370 v_371 v_372 n4B wwB (xs (i + 1)) (xs (i + 2)) 1 1 h_333 (by first | assumption | omega | rfl) h_341 (by first | assumption | omega | rfl) h_349 (by first | assumption | omega | rfl) h_360 (by first | assumption | omega | rfl) (by first | assumption | omega | rfl) (by first | assumption | omega | rfl) h_373 (by first | assumption | omega | rfl) (by first | assumption | omega | rfl) (by first | assumption | omega | rfl)) (kV_RL_124 C.2.2.2.2 (Nat.le_of_ble_eq_true rfl) (Nat.le_of_ble_eq_true rfl)) [0, 1, 2, 3, 12, 13] [4, 5, 6, 7, 8, 9, 10, 11, 14, 15, 16, 17, 18, 19, 20, 21, 22, 23, 24, 25, 26, 27, 28, 29, 30, 31, 32, 33, 34, 35, 36, 37, 38, 39, 40, 41, 42, 43, 44, 45, 46, 47, 48, 49, 50, 51, 52, 53, 54, 55, 56, 57, 58, 59] rfl rfl (ci := 10) (qc := (RX11, TX11, 11)) rfl rfl (List.mem_flatten.mpr ⟨_, List.mem_of_getElem? (i := 0) rfl, List.mem_cons_self⟩) rfl rfl hl.1 dL_law_1377 (by show _ + 3 ≤ 600000; omega) (by show _ + (6 * (zNA ((xs (i + 1)).toInt = 0 ∧ 0 < (v_332 0).toInt ∧ 0 ≤ (xs (i + 2)).toInt ∧ (xs (i + 2)).toInt < v_335.toInt ∧ (xs (i + 2)).toInt < 7) mdA n4A (zPl v_335 v_336 v_337) - n4A) + 6 * (zNA ((xs (i + 1)).toInt = 1 ∧ 1 < (v_332 0).toInt ∧ 0 ≤ (xs (i + 2)).toInt ∧ (xs (i + 2)).toInt < v_343.toInt ∧ (xs (i + 2)).toInt < 7) mdB n4B (zPl v_343 v_344 v_345) - n4B)) ≤ 7302250; omega) (fun r_413 b1 H locs hw G => ?_)
      obtain ⟨laA_377, mdA_378, wyA_379, pc_A_380, f1A_381, f2A_382, f3A_383, f4A_384, f5A_385, f6A_386, n4A_387, wwA_388, laB_389, mdB_390, wyB_391, pc_B_392, f1B_393, f2B_394, f3B_395, f4B_396, f5B_397, f6B_398, n4B_399, wwB_400, rfl, h_401, h_402, h_403, h_404, h_405, h_406, h_407, h_408, h_409, h_410, h_411, h_412⟩ := hw
      have G : zS T A s.heap s [wd0_, wd1_, wg0_, wg1_, [(rd, .inr (7, [.ref rl, .ref rdd, .ref rg, .int r0, .int r1, .ref tq, .int r2, .int r3, .int r4, .int r5, .int r6, .int r7, .int r8]))], z, wd, wg, wff, wc, wcp, wr, wrp, wp, [(cd, .inl (T.2 0, 1000, .inl fcd))], wta, z0_a, z1_a, wd0_a, wd1_a, wg0_a, wg1_a, wtb, z0_b, z1_b, wd0_b, wd1_b, wg0_b, wg1_b, wtc, z0_c, z1_c, wd0_c, wd1_c, wg0_c, wg1_c, [(im, .inl (T.2 6, 3, .inr (.inr (.inr (.inr qi)))))], [(mk, .inl (T.2 2, 3, .inl fmk))], [(mo, .inr (11, [.ref m_all, .ref m_has, .int i_size, .int i_next, .int i_where, .int i_token, .int i_number, .int i_word, .int i_wrong, .int i_farCrossing, .ref m_read, .int i_z0, .int i_crossings, .int i_inns, .ref m_posts, .ref m_shut, .ref m_here, .int i_steps, .int i_done, .int i_at, .int i_gone, .ref m_was, .ref m_came, .ref m_seenAt, .ref m_rowWorth, .ref m_farBy, .ref m_used, .int i_everywhere, .int i_again0, .int i_d0, .int i_never, .int i_firstCame, .int i_longRun, .int i_moved, .int i_crowd, .int i_l0, .int i_fitMany, .int i_fitLeast, .int i_fitMost, .ref m_fitPost, .ref m_fitEnd, .ref m_keptPosts, .int i_x0]))], [(m_all, .inl (T.2 0, 3952, .inl f_all))], [(m_has, .inl (T.2 2, 3, .inl f_has))], [(m_read, .inl (T.2 0, 121, .inl f_read))], [(m_posts, .inl (T.2 0, 7, .inl f_posts))], [(m_shut, .inl (T.2 0, 7, .inl f_shut))], [(m_here, .inl (T.2 0, 7, .inl f_here))], [(m_was, .inl (T.2 0, 7, .inl f_was))], [(m_came, .inl (T.2 0, 7, .inl f_came))], [(m_seenAt, .inl (T.2 0, 16384, .inl f_seenAt))], [(m_rowWorth, .inl (T.2 0, 512, .inl f_rowWorth))], [(m_farBy, .inl (T.2 0, 49, .inl f_farBy))], [(m_used, .inl (T.2 0, 7, .inl f_used))], [(m_fitPost, .inl (T.2 0, 28, .inl f_fitPost))], [(m_fitEnd, .inl (T.2 0, 49, .inl f_fitEnd))], [(m_keptPosts, .inl (T.2 0, 7, .inl f_keptPosts))], [(xo, .inr (10, [.ref t, .ref im, .ref mk, .ref rd, .ref po, .ref co, .ref tr, .ref wa, .ref wb_, .ref fi, .ref cd]))], wt, z0_, z1_, wwA_388, wwB_400] _ _ := G
      have hFI2 : (¬ e0f = 0 → e1f.toInt = 0 ∧ ¬ mdA_378 = 0 ∨ e1f.toInt = 1 ∧ ¬ mdB_390 = 0) := fun q => (hFI q).elim (fun z => Or.inl ⟨z.1, h_406 z.2⟩) (fun z => Or.inr ⟨z.1, h_412 z.2⟩)
      refine lv_pop hx hb dL_law_1380 rfl ?_
      refine lv_aload_n hx hb dL_law_1381 rfl (lv_at hl 2 rfl) ?_
      refine lv_aload_n hx hb dL_law_1382 rfl (lv_at hl 0 rfl) ?_
      refine lv_iload_n hx hb dL_law_1383 rfl (lv_at hl 3 rfl) ?_
      refine lv_iconst (v := 1) hx hb dL_law_1384 (by decide) ?_
      refine lv_iadd hx hb dL_law_1385 ?_
      refine lv_topi (fun y_414 ey_414 => ?_)
      obtain rfl : y_414 = nI (i + 1) := ey_414.trans (z_iaddn i 1 rfl rfl)
      refine va_sld hx hb hX hbl hbA G.2.2.2.1 (vp_in_nI (by omega) (by omega)) dL_law_1386 ?_
      refine lv_topi (fun v_415 ev_415 => ?_)
      rw [nI_clamp (by omega)] at ev_415
      have ev_415 : v_415 = xs (i + 1) := ev_415
      subst ev_415
      refine lv_aload_n hx hb dL_law_1387 rfl (lv_at hl 0 rfl) ?_
      refine lv_iload_n hx hb dL_law_1388 rfl (lv_at hl 3 rfl) ?_
      refine lv_iconst (v := 2) hx hb dL_law_1389 (by decide) ?_
      refine lv_iadd hx hb dL_law_1390 ?_
      refine lv_topi (fun y_416 ey_416 => ?_)
      obtain rfl : y_416 = nI (i + 2) := ey_416.trans (z_iaddn i 2 rfl rfl)
      refine va_sld hx hb hX hbl hbA G.2.2.2.1 (vp_in_nI (by omega) (by omega)) dL_law_1391 ?_
      refine lv_topi (fun v_417 ev_417 => ?_)
      rw [nI_clamp (by omega)] at ev_417
      have ev_417 : v_417 = xs (i + 2) := ev_417
      subst ev_417
      refine lv_aload_n hx hb dL_law_1392 rfl (lv_at hl 0 rfl) ?_
      refine lv_iload_n hx hb dL_law_1393 rfl (lv_at hl 3 rfl) ?_
      refine lv_iconst (v := 3) hx hb dL_law_1394 (by decide) ?_
      refine lv_iadd hx hb dL_law_1395 ?_
      refine lv_topi (fun y_418 ey_418 => ?_)
      obtain rfl : y_418 = nI (i + 3) := ey_418.trans (z_iaddn i 3 rfl rfl)
      refine va_sld hx hb hX hbl hbA G.2.2.2.1 (vp_in_nI (by omega) (by omega)) dL_law_1396 ?_
      refine lv_topi (fun v_419 ev_419 => ?_)
      rw [nI_clamp (by omega)] at ev_419
      have ev_419 : v_419 = xs (i + 3) := ev_419
      subst ev_419
      refine lv_if_eq (tgt := 1404) hx hb dL_law_1397 (by decide) (fun q => absurd q c_7) (fun _ => ?_)
      refine lv_iconst (v := 1) hx hb dL_law_1400 (by decide) ?_
      refine lv_goto (tgt := 1405) hx hb dL_law_1401 (by decide) ?_
      refine lv_aload_n hx hb dL_law_1405 rfl (lv_at hl 0 rfl) ?_
      refine lv_iload_n hx hb dL_law_1406 rfl (lv_at hl 3 rfl) ?_
      refine lv_iconst (v := 4) hx hb dL_law_1407 (by decide) ?_
      refine lv_iadd hx hb dL_law_1408 ?_
      refine lv_topi (fun y_420 ey_420 => ?_)
      obtain rfl : y_420 = nI (i + 4) := ey_420.trans (z_iaddn i 4 rfl rfl)
      refine va_sld hx hb hX hbl hbA G.2.2.2.1 (vp_in_nI (by omega) (by omega)) dL_law_1409 ?_
      refine lv_topi (fun v_421 ev_421 => ?_)
      rw [nI_clamp (by omega)] at ev_421
      have ev_421 : v_421 = xs (i + 4) := ev_421
      subst ev_421
      refine lv_if_eq (tgt := 1417) hx hb dL_law_1410 (by decide) (fun q => absurd q c_223) (fun _ => ?_)
      refine lv_iconst (v := 1) hx hb dL_law_1413 (by decide) ?_
      refine lv_goto (tgt := 1418) hx hb dL_law_1414 (by decide) ?_
      refine z_Vi (bc := [[(mo, .inr (11, [.ref m_all, .ref m_has, .int i_size, .int i_next, .int i_where, .int i_token, .int i_number, .int i_word, .int i_wrong, .int i_farCrossing, .ref m_read, .int i_z0, .int i_crossings, .int i_inns, .ref m_posts, .ref m_shut, .ref m_here, .int i_steps, .int i_done, .int i_at, .int i_gone, .ref m_was, .ref m_came, .ref m_seenAt, .ref m_rowWorth, .ref m_farBy, .ref m_used, .int i_everywhere, .int i_again0, .int i_d0, .int i_never, .int i_firstCame, .int i_longRun, .int i_moved, .int i_crowd, .int i_l0, .int i_fitMany, .int i_fitLeast, .int i_fitMost, .ref m_fitPost, .ref m_fitEnd, .ref m_keptPosts, .int i_x0]))], [(m_all, .inl (T.2 0, 3952, .inl f_all))], [(m_posts, .inl (T.2 0, 7, .inl f_posts))], [(m_shut, .inl (T.2 0, 7, .inl f_shut))], [(m_here, .inl (T.2 0, 7, .inl f_here))], [(m_was, .inl (T.2 0, 7, .inl f_was))]]) (br := [wd0_, wd1_, wg0_, wg1_, [(rd, .inr (7, [.ref rl, .ref rdd, .ref rg, .int r0, .int r1, .ref tq, .int r2, .int r3, .int r4, .int r5, .int r6, .int r7, .int r8]))], z, wd, wg, wff, wc, wcp, wr, wrp, wp, [(cd, .inl (T.2 0, 1000, .inl fcd))], wta, z0_a, z1_a, wd0_a, wd1_a, wg0_a, wg1_a, wtb, z0_b, z1_b, wd0_b, wd1_b, wg0_b, wg1_b, wtc, z0_c, z1_c, wd0_c, wd1_c, wg0_c, wg1_c, [(im, .inl (T.2 6, 3, .inr (.inr (.inr (.inr qi)))))], [(mk, .inl (T.2 2, 3, .inl fmk))], [(m_has, .inl (T.2 2, 3, .inl f_has))], [(m_read, .inl (T.2 0, 121, .inl f_read))], [(m_came, .inl (T.2 0, 7, .inl f_came))], [(m_seenAt, .inl (T.2 0, 16384, .inl f_seenAt))], [(m_rowWorth, .inl (T.2 0, 512, .inl f_rowWorth))], [(m_farBy, .inl (T.2 0, 49, .inl f_farBy))], [(m_used, .inl (T.2 0, 7, .inl f_used))], [(m_fitPost, .inl (T.2 0, 28, .inl f_fitPost))], [(m_fitEnd, .inl (T.2 0, 49, .inl f_fitEnd))], [(m_keptPosts, .inl (T.2 0, 7, .inl f_keptPosts))], [(xo, .inr (10, [.ref t, .ref im, .ref mk, .ref rd, .ref po, .ref co, .ref tr, .ref wa, .ref wb_, .ref fi, .ref cd]))], wt, z0_, z1_, wwA_388, wwB_400]) (As := [.int (xs (i + 1)), .int (xs (i + 2)), .int 1, .int 1]) (rest := []) C G (c_m_longest l T mo m_all m_has i_size i_next i_where i_token i_number i_word i_wrong i_farCrossing m_read i_z0 i_crossings i_inns m_posts m_shut m_here i_steps i_done i_at i_gone m_was m_came m_seenAt m_rowWorth m_farBy m_used i_everywhere i_again0 i_d0 i_never i_firstCame i_longRun i_moved i_crowd i_l0 i_fitMany i_fitLeast i_fitMost m_fitPost m_fitEnd m_keptPosts i_x0 f_all f_posts f_shut f_here f_was (xs (i + 1)) (xs (i + 2)) 1 1 (by first | assumption | omega | rfl)) (kV_RL_128 C.2.2.2.2 (Nat.le_of_ble_eq_true rfl) (Nat.le_of_ble_eq_true rfl)) [38, 39, 42, 43, 44, 45] [0, 1, 2, 3, 4, 5, 6, 7, 8, 9, 10, 11, 12, 13, 14, 15, 16, 17, 18, 19, 20, 21, 22, 23, 24, 25, 26, 27, 28, 29, 30, 31, 32, 33, 34, 35, 36, 37, 40, 41, 46, 47, 48, 49, 50, 51, 52, 53, 54, 55, 56, 57, 58, 59] rfl rfl (ci := 11) (qc := (RX12, TX12, 43)) rfl rfl (List.mem_flatten.mpr ⟨_, List.mem_of_getElem? (i := 0) rfl, List.mem_cons_self⟩) rfl rfl hl.1 dL_law_1418 (by show _ + 0 ≤ 600000; omega) (by show _ + 0 ≤ 7302250; omega) (fun r_433 b1 H locs hw G => ?_)
      obtain ⟨j_z0_422, j_crossings_423, j_inns_424, j_steps_425, j_done_426, j_at_427, j_gone_428, g_posts_429, g_shut_430, g_here_431, g_was_432, rfl⟩ := hw
      have G : zS T A s.heap s [wd0_, wd1_, wg0_, wg1_, [(rd, .inr (7, [.ref rl, .ref rdd, .ref rg, .int r0, .int r1, .ref tq, .int r2, .int r3, .int r4, .int r5, .int r6, .int r7, .int r8]))], z, wd, wg, wff, wc, wcp, wr, wrp, wp, [(cd, .inl (T.2 0, 1000, .inl fcd))], wta, z0_a, z1_a, wd0_a, wd1_a, wg0_a, wg1_a, wtb, z0_b, z1_b, wd0_b, wd1_b, wg0_b, wg1_b, wtc, z0_c, z1_c, wd0_c, wd1_c, wg0_c, wg1_c, [(im, .inl (T.2 6, 3, .inr (.inr (.inr (.inr qi)))))], [(mk, .inl (T.2 2, 3, .inl fmk))], [(m_has, .inl (T.2 2, 3, .inl f_has))], [(m_read, .inl (T.2 0, 121, .inl f_read))], [(m_came, .inl (T.2 0, 7, .inl f_came))], [(m_seenAt, .inl (T.2 0, 16384, .inl f_seenAt))], [(m_rowWorth, .inl (T.2 0, 512, .inl f_rowWorth))], [(m_farBy, .inl (T.2 0, 49, .inl f_farBy))], [(m_used, .inl (T.2 0, 7, .inl f_used))], [(m_fitPost, .inl (T.2 0, 28, .inl f_fitPost))], [(m_fitEnd, .inl (T.2 0, 49, .inl f_fitEnd))], [(m_keptPosts, .inl (T.2 0, 7, .inl f_keptPosts))], [(xo, .inr (10, [.ref t, .ref im, .ref mk, .ref rd, .ref po, .ref co, .ref tr, .ref wa, .ref wb_, .ref fi, .ref cd]))], wt, z0_, z1_, wwA_388, wwB_400, [(mo, .inr (11, [.ref m_all, .ref m_has, .int i_size, .int i_next, .int i_where, .int i_token, .int i_number, .int i_word, .int i_wrong, .int i_farCrossing, .ref m_read, .int j_z0_422, .int j_crossings_423, .int j_inns_424, .ref m_posts, .ref m_shut, .ref m_here, .int j_steps_425, .int j_done_426, .int j_at_427, .int j_gone_428, .ref m_was, .ref m_came, .ref m_seenAt, .ref m_rowWorth, .ref m_farBy, .ref m_used, .int i_everywhere, .int i_again0, .int i_d0, .int i_never, .int i_firstCame, .int i_longRun, .int i_moved, .int i_crowd, .int i_l0, .int i_fitMany, .int i_fitLeast, .int i_fitMost, .ref m_fitPost, .ref m_fitEnd, .ref m_keptPosts, .int i_x0]))], [(m_all, .inl (T.2 0, 3952, .inl f_all))], [(m_posts, .inl (T.2 0, 7, .inl g_posts_429))], [(m_shut, .inl (T.2 0, 7, .inl g_shut_430))], [(m_here, .inl (T.2 0, 7, .inl g_here_431))], [(m_was, .inl (T.2 0, 7, .inl g_was_432))]] _ _ := G
      refine lv_pop hx hb dL_law_1421 rfl ?_
      refine lv_goto (tgt := 1767) hx hb dL_law_1422 (by decide) ?_
      have G := G.sub (bs' := [[(xo, .inr (10, [.ref t, .ref im, .ref mk, .ref rd, .ref po, .ref co, .ref tr, .ref wa, .ref wb_, .ref fi, .ref cd]))], wt, z0_, z1_, wd0_, wd1_, wg0_, wg1_, [(rd, .inr (7, [.ref rl, .ref rdd, .ref rg, .int r0, .int r1, .ref tq, .int r2, .int r3, .int r4, .int r5, .int r6, .int r7, .int r8]))], z, wd, wg, wwA_388, wwB_400, wff, wc, wcp, wr, wrp, wp, [(cd, .inl (T.2 0, 1000, .inl fcd))], wta, z0_a, z1_a, wd0_a, wd1_a, wg0_a, wg1_a, wtb, z0_b, z1_b, wd0_b, wd1_b, wg0_b, wg1_b, wtc, z0_c, z1_c, wd0_c, wd1_c, wg0_c, wg1_c, [(im, .inl (T.2 6, 3, .inr (.inr (.inr (.inr qi)))))], [(mk, .inl (T.2 2, 3, .inl fmk))], [(mo, .inr (11, [.ref m_all, .ref m_has, .int i_size, .int i_next, .int i_where, .int i_token, .int i_number, .int i_word, .int i_wrong, .int i_farCrossing, .ref m_read, .int j_z0_422, .int j_crossings_423, .int j_inns_424, .ref m_posts, .ref m_shut, .ref m_here, .int j_steps_425, .int j_done_426, .int j_at_427, .int j_gone_428, .ref m_was, .ref m_came, .ref m_seenAt, .ref m_rowWorth, .ref m_farBy, .ref m_used, .int i_everywhere, .int i_again0, .int i_d0, .int i_never, .int i_firstCame, .int i_longRun, .int i_moved, .int i_crowd, .int i_l0, .int i_fitMany, .int i_fitLeast, .int i_fitMost, .ref m_fitPost, .ref m_fitEnd, .ref m_keptPosts, .int i_x0]))], [(m_all, .inl (T.2 0, 3952, .inl f_all))], [(m_has, .inl (T.2 2, 3, .inl f_has))], [(m_read, .inl (T.2 0, 121, .inl f_read))], [(m_posts, .inl (T.2 0, 7, .inl g_posts_429))], [(m_shut, .inl (T.2 0, 7, .inl g_shut_430))], [(m_here, .inl (T.2 0, 7, .inl g_here_431))], [(m_was, .inl (T.2 0, 7, .inl g_was_432))], [(m_came, .inl (T.2 0, 7, .inl f_came))], [(m_seenAt, .inl (T.2 0, 16384, .inl f_seenAt))], [(m_rowWorth, .inl (T.2 0, 512, .inl f_rowWorth))], [(m_farBy, .inl (T.2 0, 49, .inl f_farBy))], [(m_used, .inl (T.2 0, 7, .inl f_used))], [(m_fitPost, .inl (T.2 0, 28, .inl f_fitPost))], [(m_fitEnd, .inl (T.2 0, 49, .inl f_fitEnd))], [(m_keptPosts, .inl (T.2 0, 7, .inl f_keptPosts))]]) [48, 49, 50, 51, 0, 1, 2, 3, 4, 5, 6, 7, 52, 53, 8, 9, 10, 11, 12, 13, 14, 15, 16, 17, 18, 19, 20, 21, 22, 23, 24, 25, 26, 27, 28, 29, 30, 31, 32, 33, 34, 35, 36, 37, 54, 55, 38, 39, 56, 57, 58, 59, 40, 41, 42, 43, 44, 45, 46, 47] rfl
      refine W.widen (k := 216 + 2 * i + 12) (n := 27000 + 6 * (n4A_387 + n4B_399) + 2 * m1f) (by omega) (by omega) ?_
      exact kk n4A_387 n4B_399 m1f _ ⟨⟨t, im, mk, rd, po, co, tr, wa, wb_, fi, cd, wt, l0, l1, d0, d1, g0, g1, ln, z0_, z1_, wd0_, wd1_, wg0_, wg1_, rl, rdd, rg, r0, r1, tq, r2, r3, r4, r5, r6, r7, r8, z, wd, wg, wwA_388, mdA_378, wwB_400, mdB_390, wff, e0f, e1f, wc, cpo, wcp, wr, tpo, wrp, wp, fcd, m0, wta, l0a, l1a, d0a, d1a, g0a, g1a, lna, z0_a, z1_a, wd0_a, wd1_a, wg0_a, wg1_a, m1, wtb, l0b, l1b, d0b, d1b, g0b, g1b, lnb, z0_b, z1_b, wd0_b, wd1_b, wg0_b, wg1_b, m2, wtc, l0c, l1c, d0c, d1c, g0c, g1c, lnc, z0_c, z1_c, wd0_c, wd1_c, wg0_c, wg1_c, qi, fmk, m_all, m_has, i_size, i_next, i_where, i_token, i_number, i_word, i_wrong, i_farCrossing, m_read, j_z0_422, j_crossings_423, j_inns_424, m_posts, m_shut, m_here, j_steps_425, j_done_426, j_at_427, j_gone_428, m_was, m_came, m_seenAt, m_rowWorth, m_farBy, m_used, i_everywhere, i_again0, i_d0, i_never, i_firstCame, i_longRun, i_moved, i_crowd, i_l0, i_fitMany, i_fitLeast, i_fitMost, m_fitPost, m_fitEnd, m_keptPosts, i_x0, f_all, f_has, f_read, g_posts_429, g_shut_430, g_here_431, g_was_432, f_came, f_seenAt, f_rowWorth, f_farBy, f_used, f_fitPost, f_fitEnd, f_keptPosts⟩, rfl, ⟨v_329, v_330, v_331, v_332, h_333, (by first | assumption | omega)⟩, ⟨v_335, v_336, v_337, v_338, v_339, v_340, h_341, (by first | assumption | omega)⟩, ⟨v_343, v_344, v_345, v_346, v_347, v_348, h_349, (by first | assumption | omega)⟩, H_wd0_, H_wd1_, H_wg0_, H_wg1_, H_z, H_wd, H_wg, ⟨laA_377, wyA_379, pc_A_380, f1A_381, f2A_382, f3A_383, f4A_384, f5A_385, f6A_386, h_401, (by first | assumption | omega), (by first | assumption | omega), (by first | assumption | omega)⟩, ⟨laB_389, wyB_391, pc_B_392, f1B_393, f2B_394, f3B_395, f4B_396, f5B_397, f6B_398, h_407, (by first | assumption | omega), (by first | assumption | omega), (by first | assumption | omega)⟩, H_wff, H_wc, H_wcp, H_wr, H_wrp, H_wp, H_wta, H_z0_a, H_z1_a, H_wd0_a, H_wd1_a, H_wg0_a, H_wg1_a, H_wtb, H_z0_b, H_z1_b, H_wd0_b, H_wd1_b, H_wg0_b, H_wg1_b, H_wtc, H_z0_c, H_z1_c, H_wd0_c, H_wd1_c, H_wg0_c, H_wg1_c, (by first | assumption | omega), (by first | assumption | omega), (by first | assumption | omega), (by first | assumption | omega), (by first | assumption | omega), (by first | assumption | omega), (by first | assumption | omega), (by first | assumption | omega)⟩ _ _ ls G (lv_sub hl [0, 1, 2, 3] rfl)
set_option maxHeartbeats 40000000 in
set_option maxRecDepth 100000 in
theorem z_case_back (l : Launch) {p : Program} {e : Env} {s : State} {m : MethodId} {b : Nat} {below : List Frame} {meth : Method} {c : Code} {Q : State → Prop} {T : zTy} {A : Nat → Prop} {L i : Nat} {xs : Nat → Int32} (hx : p.tables.exec = Jvm.exec) (hb : c.code = cL_law) (C : CallFix p m c cL_law 4 s #[Value.ref b] zT RL) (hX : va_X b L xs s s.heap) (hbl : b < s.heap.size) (hbA : ¬ A b) (hL : L ≤ 3072) (hi6 : i + 6 ≤ L) {xo mo n4A n4B m1f : Nat} (hnA : n4A ≤ 131072) (hnB : n4B ≤ 131072) (hmf : m1f ≤ 16384) {bs : List va_W} (hI : zInv T xo mo n4A n4B m1f bs) {H : Heap} {locs : List Loc} {ls : Array Slot} (G : zS T A s.heap s bs H locs) (hl : lv_has ls 4 [(0, .ref b), (1, .ref xo), (2, .ref mo), (3, .int (nI i))]) (kk : ∀ (n1 n2 n3 : Nat) (bs1 : List va_W), zInv T xo mo n1 n2 n3 bs1 → ∀ (H1 : Heap) (locs1 : List Loc) (ls1 : Array Slot), zS T A s.heap s bs1 H1 locs1 → lv_has ls1 4 [(0, .ref b), (1, .ref xo), (2, .ref mo), (3, .int (nI i))] → W p l e room_1 s m #[Value.ref b] below meth c H1 locs1 (216 + 2 * i + 12) (27000 + 6 * (n1 + n2) + 2 * n3) Q (F0 m 1767 ls1 [])) : W p l e room_1 s m #[Value.ref b] below meth c H locs (216 + 2 * i) (27000 + 6 * (n4A + n4B) + 2 * m1f) Q (F0 m 1425 ls []) := by
  obtain ⟨⟨t, im, mk, rd, po, co, tr, wa, wb_, fi, cd, wt, l0, l1, d0, d1, g0, g1, ln, z0_, z1_, wd0_, wd1_, wg0_, wg1_, rl, rdd, rg, r0, r1, tq, r2, r3, r4, r5, r6, r7, r8, z, wd, wg, wwA, mdA, wwB, mdB, wff, e0f, e1f, wc, cpo, wcp, wr, tpo, wrp, wp, fcd, m0, wta, l0a, l1a, d0a, d1a, g0a, g1a, lna, z0_a, z1_a, wd0_a, wd1_a, wg0_a, wg1_a, m1, wtb, l0b, l1b, d0b, d1b, g0b, g1b, lnb, z0_b, z1_b, wd0_b, wd1_b, wg0_b, wg1_b, m2, wtc, l0c, l1c, d0c, d1c, g0c, g1c, lnc, z0_c, z1_c, wd0_c, wd1_c, wg0_c, wg1_c, qi, fmk, m_all, m_has, i_size, i_next, i_where, i_token, i_number, i_word, i_wrong, i_farCrossing, m_read, i_z0, i_crossings, i_inns, m_posts, m_shut, m_here, i_steps, i_done, i_at, i_gone, m_was, m_came, m_seenAt, m_rowWorth, m_farBy, m_used, i_everywhere, i_again0, i_d0, i_never, i_firstCame, i_longRun, i_moved, i_crowd, i_l0, i_fitMany, i_fitLeast, i_fitMost, m_fitPost, m_fitEnd, m_keptPosts, i_x0, f_all, f_has, f_read, f_posts, f_shut, f_here, f_was, f_came, f_seenAt, f_rowWorth, f_farBy, f_used, f_fitPost, f_fitEnd, f_keptPosts⟩, rfl, H_wt, H_z0_, H_z1_, H_wd0_, H_wd1_, H_wg0_, H_wg1_, H_z, H_wd, H_wg, H_wwA, H_wwB, H_wff, H_wc, H_wcp, H_wr, H_wrp, H_wp, H_wta, H_z0_a, H_z1_a, H_wd0_a, H_wd1_a, H_wg0_a, H_wg1_a, H_wtb, H_z0_b, H_z1_b, H_wd0_b, H_wd1_b, H_wg0_b, H_wg1_b, H_wtc, H_z0_c, H_z1_c, H_wd0_c, H_wd1_c, H_wg0_c, H_wg1_c, hm0, hm1, hm2, h56, hFI, hAI, hRl, hHs⟩ := hI
  replace H_wt : hTold T t l0 l1 d0 d1 g0 g1 ln wt := H_wt
  replace H_z0_ : hLand T l0 z0_ := H_z0_
  replace H_z1_ : hLand T l1 z1_ := H_z1_
  replace H_wd0_ : hDay T d0 wd0_ := H_wd0_
  replace H_wd1_ : hDay T d1 wd1_ := H_wd1_
  replace H_wg0_ : hLog T g0 wg0_ := H_wg0_
  replace H_wg1_ : hLog T g1 wg1_ := H_wg1_
  replace H_z : hLandR T rl z := H_z
  replace H_wd : hDay T rdd wd := H_wd
  replace H_wg : hLog T rg wg := H_wg
  replace H_wwA : hWays T wa mdA n4A l0 wwA := H_wwA
  replace H_wwB : hWays T wb_ mdB n4B l1 wwB := H_wwB
  replace H_wff : hFit T fi e0f e1f m1f wff := H_wff
  replace H_wc : hCourse T co cpo wc := H_wc
  replace H_wcp : hPosts T cpo wcp := H_wcp
  replace H_wr : hTrail T tr tpo wr := H_wr
  replace H_wrp : hPosts T tpo wrp := H_wrp
  replace H_wp : hPosts T po wp := H_wp
  replace H_wta : hTold T m0 l0a l1a d0a d1a g0a g1a lna wta := H_wta
  replace H_z0_a : hLand T l0a z0_a := H_z0_a
  replace H_z1_a : hLand T l1a z1_a := H_z1_a
  replace H_wd0_a : hDay T d0a wd0_a := H_wd0_a
  replace H_wd1_a : hDay T d1a wd1_a := H_wd1_a
  replace H_wg0_a : hLog T g0a wg0_a := H_wg0_a
  replace H_wg1_a : hLog T g1a wg1_a := H_wg1_a
  replace H_wtb : hTold T m1 l0b l1b d0b d1b g0b g1b lnb wtb := H_wtb
  replace H_z0_b : hLand T l0b z0_b := H_z0_b
  replace H_z1_b : hLand T l1b z1_b := H_z1_b
  replace H_wd0_b : hDay T d0b wd0_b := H_wd0_b
  replace H_wd1_b : hDay T d1b wd1_b := H_wd1_b
  replace H_wg0_b : hLog T g0b wg0_b := H_wg0_b
  replace H_wg1_b : hLog T g1b wg1_b := H_wg1_b
  replace H_wtc : hTold T m2 l0c l1c d0c d1c g0c g1c lnc wtc := H_wtc
  replace H_z0_c : hLand T l0c z0_c := H_z0_c
  replace H_z1_c : hLand T l1c z1_c := H_z1_c
  replace H_wd0_c : hDay T d0c wd0_c := H_wd0_c
  replace H_wd1_c : hDay T d1c wd1_c := H_wd1_c
  replace H_wg0_c : hLog T g0c wg0_c := H_wg0_c
  replace H_wg1_c : hLog T g1c wg1_c := H_wg1_c
  replace hm0 : qi 0 = some m0 := hm0
  replace hm1 : qi 1 = some m1 := hm1
  replace hm2 : qi 2 = some m2 := hm2
  replace h56 : ((0 ≤ r5.toInt ∧ r5.toInt ≤ 600) ∧ 0 ≤ r6.toInt ∧ r6.toInt ≤ 1000) := h56
  replace hFI : (¬ e0f = 0 → e1f.toInt = 0 ∧ ¬ mdA = 0 ∨ e1f.toInt = 1 ∧ ¬ mdB = 0) := hFI
  replace hAI : zAI f_all := hAI
  replace hRl : zRl ln lna lnb lnc f_all := hRl
  replace hHs : zHs fmk f_has := hHs
  replace G : zS T A s.heap s [[(xo, .inr (10, [.ref t, .ref im, .ref mk, .ref rd, .ref po, .ref co, .ref tr, .ref wa, .ref wb_, .ref fi, .ref cd]))], wt, z0_, z1_, wd0_, wd1_, wg0_, wg1_, [(rd, .inr (7, [.ref rl, .ref rdd, .ref rg, .int r0, .int r1, .ref tq, .int r2, .int r3, .int r4, .int r5, .int r6, .int r7, .int r8]))], z, wd, wg, wwA, wwB, wff, wc, wcp, wr, wrp, wp, [(cd, .inl (T.2 0, 1000, .inl fcd))], wta, z0_a, z1_a, wd0_a, wd1_a, wg0_a, wg1_a, wtb, z0_b, z1_b, wd0_b, wd1_b, wg0_b, wg1_b, wtc, z0_c, z1_c, wd0_c, wd1_c, wg0_c, wg1_c, [(im, .inl (T.2 6, 3, .inr (.inr (.inr (.inr qi)))))], [(mk, .inl (T.2 2, 3, .inl fmk))], [(mo, .inr (11, [.ref m_all, .ref m_has, .int i_size, .int i_next, .int i_where, .int i_token, .int i_number, .int i_word, .int i_wrong, .int i_farCrossing, .ref m_read, .int i_z0, .int i_crossings, .int i_inns, .ref m_posts, .ref m_shut, .ref m_here, .int i_steps, .int i_done, .int i_at, .int i_gone, .ref m_was, .ref m_came, .ref m_seenAt, .ref m_rowWorth, .ref m_farBy, .ref m_used, .int i_everywhere, .int i_again0, .int i_d0, .int i_never, .int i_firstCame, .int i_longRun, .int i_moved, .int i_crowd, .int i_l0, .int i_fitMany, .int i_fitLeast, .int i_fitMost, .ref m_fitPost, .ref m_fitEnd, .ref m_keptPosts, .int i_x0]))], [(m_all, .inl (T.2 0, 3952, .inl f_all))], [(m_has, .inl (T.2 2, 3, .inl f_has))], [(m_read, .inl (T.2 0, 121, .inl f_read))], [(m_posts, .inl (T.2 0, 7, .inl f_posts))], [(m_shut, .inl (T.2 0, 7, .inl f_shut))], [(m_here, .inl (T.2 0, 7, .inl f_here))], [(m_was, .inl (T.2 0, 7, .inl f_was))], [(m_came, .inl (T.2 0, 7, .inl f_came))], [(m_seenAt, .inl (T.2 0, 16384, .inl f_seenAt))], [(m_rowWorth, .inl (T.2 0, 512, .inl f_rowWorth))], [(m_farBy, .inl (T.2 0, 49, .inl f_farBy))], [(m_used, .inl (T.2 0, 7, .inl f_used))], [(m_fitPost, .inl (T.2 0, 28, .inl f_fitPost))], [(m_fitEnd, .inl (T.2 0, 49, .inl f_fitEnd))], [(m_keptPosts, .inl (T.2 0, 7, .inl f_keptPosts))]] H locs := G
  have hB := zAI_0 hAI
  have hB4 := hB.1
  obtain ⟨hln, hlna, hlnb, hlnc⟩ := zRl_in hAI hRl
  refine lv_aload_n hx hb dL_law_1425 rfl (lv_at hl 1 rfl) ?_
  refine lv_aload_n hx hb dL_law_1426 rfl (lv_at hl 0 rfl) ?_
  refine lv_iload_n hx hb dL_law_1427 rfl (lv_at hl 3 rfl) ?_
  refine lv_iconst (v := 1) hx hb dL_law_1428 (by decide) ?_
  refine lv_iadd hx hb dL_law_1429 ?_
  refine lv_topi (fun y_1 ey_1 => ?_)
  obtain rfl : y_1 = nI (i + 1) := ey_1.trans (z_iaddn i 1 rfl rfl)
  refine va_sld hx hb hX hbl hbA G.2.2.2.1 (vp_in_nI (by omega) (by omega)) dL_law_1430 ?_
  refine lv_topi (fun v_2 ev_2 => ?_)
  rw [nI_clamp (by omega)] at ev_2
  have ev_2 : v_2 = xs (i + 1) := ev_2
  subst ev_2
  refine lv_aload_n hx hb dL_law_1431 rfl (lv_at hl 0 rfl) ?_
  refine lv_iload_n hx hb dL_law_1432 rfl (lv_at hl 3 rfl) ?_
  refine lv_iconst (v := 2) hx hb dL_law_1433 (by decide) ?_
  refine lv_iadd hx hb dL_law_1434 ?_
  refine lv_topi (fun y_3 ey_3 => ?_)
  obtain rfl : y_3 = nI (i + 2) := ey_3.trans (z_iaddn i 2 rfl rfl)
  refine va_sld hx hb hX hbl hbA G.2.2.2.1 (vp_in_nI (by omega) (by omega)) dL_law_1435 ?_
  refine lv_topi (fun v_4 ev_4 => ?_)
  rw [nI_clamp (by omega)] at ev_4
  have ev_4 : v_4 = xs (i + 2) := ev_4
  subst ev_4
  obtain ⟨v_5, v_6, v_7, v_8, h_9, h_10⟩ := H_wt
  have h_10 : zKT v_8 := h_10
  obtain ⟨v_11, v_12, v_13, v_14, v_15, v_16, h_17, h_18⟩ := H_z0_
  have h_18 : zLI v_11 v_13 v_15 := h_18
  obtain ⟨v_19, v_20, v_21, v_22, v_23, v_24, h_25, h_26⟩ := H_z1_
  have h_26 : zLI v_19 v_21 v_23 := h_26
  obtain ⟨v_27, v_28, v_29, v_30, v_31, v_32, v_33, v_34, v_35, h_36, h_37, h_38, h_39⟩ := H_wwA
  have h_37 : zPw n4A := h_37
  have h_38 : (mdA = 0 ∨ v_27 = l0) := h_38
  have h_39 : (0 ≤ v_28.toInt ∧ v_28.toInt ≤ 16384) := h_39
  obtain ⟨v_40, v_41, v_42, v_43, v_44, v_45, v_46, v_47, v_48, h_49, h_50, h_51, h_52⟩ := H_wwB
  have h_50 : zPw n4B := h_50
  have h_51 : (mdB = 0 ∨ v_40 = l1) := h_51
  have h_52 : (0 ≤ v_41.toInt ∧ v_41.toInt ≤ 16384) := h_52
  have hq0m := zNA_mono (c := ((xs (i + 1)).toInt = 0 ∧ 0 < (v_8 0).toInt ∧ 0 ≤ (xs (i + 2)).toInt ∧ (xs (i + 2)).toInt < v_11.toInt ∧ (xs (i + 2)).toInt < 7)) (md := mdA) (cr := v_11) (inn := v_12) (k1 := v_13) h_37
  have hq0l := zPw_le (zNA_ge (c := ((xs (i + 1)).toInt = 0 ∧ 0 < (v_8 0).toInt ∧ 0 ≤ (xs (i + 2)).toInt ∧ (xs (i + 2)).toInt < v_11.toInt ∧ (xs (i + 2)).toInt < 7)) (md := mdA) (pl := (zPl v_11 v_12 v_13)) h_37)
  have hq2m := zNA_mono (c := ((xs (i + 1)).toInt = 1 ∧ 1 < (v_8 0).toInt ∧ 0 ≤ (xs (i + 2)).toInt ∧ (xs (i + 2)).toInt < v_19.toInt ∧ (xs (i + 2)).toInt < 7)) (md := mdB) (cr := v_19) (inn := v_20) (k1 := v_21) h_50
  have hq2l := zPw_le (zNA_ge (c := ((xs (i + 1)).toInt = 1 ∧ 1 < (v_8 0).toInt ∧ 0 ≤ (xs (i + 2)).toInt ∧ (xs (i + 2)).toInt < v_19.toInt ∧ (xs (i + 2)).toInt < 7)) (md := mdB) (pl := (zPl v_19 v_20 v_21)) h_50)
  refine z_Vi (bc := [[(xo, .inr (10, [.ref t, .ref im, .ref mk, .ref rd, .ref po, .ref co, .ref tr, .ref wa, .ref wb_, .ref fi, .ref cd]))], wt, z0_, z1_, wwA, wwB]) (br := [wd0_, wd1_, wg0_, wg1_, [(rd, .inr (7, [.ref rl, .ref rdd, .ref rg, .int r0, .int r1, .ref tq, .int r2, .int r3, .int r4, .int r5, .int r6, .int r7, .int r8]))], z, wd, wg, wff, wc, wcp, wr, wrp, wp, [(cd, .inl (T.2 0, 1000, .inl fcd))], wta, z0_a, z1_a, wd0_a, wd1_a, wg0_a, wg1_a, wtb, z0_b, z1_b, wd0_b, wd1_b, wg0_b, wg1_b, wtc, z0_c, z1_c, wd0_c, wd1_c, wg0_c, wg1_c, [(im, .inl (T.2 6, 3, .inr (.inr (.inr (.inr qi)))))], [(mk, .inl (T.2 2, 3, .inl fmk))], [(mo, .inr (11, [.ref m_all, .ref m_has, .int i_size, .int i_next, .int i_where, .int i_token, .int i_number, .int i_word, .int i_wrong, .int i_farCrossing, .ref m_read, .int i_z0, .int i_crossings, .int i_inns, .ref m_posts, .ref m_shut, .ref m_here, .int i_steps, .int i_done, .int i_at, .int i_gone, .ref m_was, .ref m_came, .ref m_seenAt, .ref m_rowWorth, .ref m_farBy, .ref m_used, .int i_everywhere, .int i_again0, .int i_d0, .int i_never, .int i_firstCame, .int i_longRun, .int i_moved, .int i_crowd, .int i_l0, .int i_fitMany, .int i_fitLeast, .int i_fitMost, .ref m_fitPost, .ref m_fitEnd, .ref m_keptPosts, .int i_x0]))], [(m_all, .inl (T.2 0, 3952, .inl f_all))], [(m_has, .inl (T.2 2, 3, .inl f_has))], [(m_read, .inl (T.2 0, 121, .inl f_read))], [(m_posts, .inl (T.2 0, 7, .inl f_posts))], [(m_shut, .inl (T.2 0, 7, .inl f_shut))], [(m_here, .inl (T.2 0, 7, .inl f_here))], [(m_was, .inl (T.2 0, 7, .inl f_was))], [(m_came, .inl (T.2 0, 7, .inl f_came))], [(m_seenAt, .inl (T.2 0, 16384, .inl f_seenAt))], [(m_rowWorth, .inl (T.2 0, 512, .inl f_rowWorth))], [(m_farBy, .inl (T.2 0, 49, .inl f_farBy))], [(m_used, .inl (T.2 0, 7, .inl f_used))], [(m_fitPost, .inl (T.2 0, 28, .inl f_fitPost))], [(m_fitEnd, .inl (T.2 0, 49, .inl f_fitEnd))], [(m_keptPosts, .inl (T.2 0, 7, .inl f_keptPosts))]]) (As := [.int (xs (i + 1)), .int (xs (i + 2))]) (rest := []) C G (c_back l T xo t im mk rd po co tr wa wb_ fi cd l0 l1 d0 d1 g0 g1 ln v_5 v_6 v_7 v_8 wt v_11 v_12 v_13 v_14 v_15 v_16 z0_ v_19 v_20 v_21 v_22 v_23 v_24 z1_ v_27 mdA v_28 v_29 v_30 v_31 v_32 v_33 v_34 v_35 n4A wwA v_40 mdB v_41 v_42 v_43 v_44 v_45 v_46 v_47 v_48 n4B wwB (xs (i + 1)) (xs (i + 2)) h_9 (by first | assumption | omega | rfl) h_17 (by first | assumption | omega | rfl) h_25 (by first | assumption | omega | rfl) h_36 (by first | assumption | omega | rfl) (by first | assumption | omega | rfl) (by first | assumption | omega | rfl) h_49 (by first | assumption | omega | rfl) (by first | assumption | omega | rfl) (by first | assumption | omega | rfl)) (kV_RL_129 C.2.2.2.2 (Nat.le_of_ble_eq_true rfl) (Nat.le_of_ble_eq_true rfl)) [0, 1, 2, 3, 12, 13] [4, 5, 6, 7, 8, 9, 10, 11, 14, 15, 16, 17, 18, 19, 20, 21, 22, 23, 24, 25, 26, 27, 28, 29, 30, 31, 32, 33, 34, 35, 36, 37, 38, 39, 40, 41, 42, 43, 44, 45, 46, 47, 48, 49, 50, 51, 52, 53, 54, 55, 56, 57, 58, 59] rfl rfl (ci := 10) (qc := (RX11, TX11, 11)) rfl rfl (List.mem_flatten.mpr ⟨_, List.mem_of_getElem? (i := 0) rfl, List.mem_cons_self⟩) rfl rfl hl.1 dL_law_1436 (by show _ + 3 ≤ 600000; omega) (by show _ + (6 * (zNA ((xs (i + 1)).toInt = 0 ∧ 0 < (v_8 0).toInt ∧ 0 ≤ (xs (i + 2)).toInt ∧ (xs (i + 2)).toInt < v_11.toInt ∧ (xs (i + 2)).toInt < 7) mdA n4A (zPl v_11 v_12 v_13) - n4A) + 6 * (zNA ((xs (i + 1)).toInt = 1 ∧ 1 < (v_8 0).toInt ∧ 0 ≤ (xs (i + 2)).toInt ∧ (xs (i + 2)).toInt < v_19.toInt ∧ (xs (i + 2)).toInt < 7) mdB n4B (zPl v_19 v_20 v_21) - n4B)) ≤ 7302250; omega) (fun r_89 b1 H locs hw G => ?_)
  obtain ⟨laA_53, mdA_54, wyA_55, pc_A_56, f1A_57, f2A_58, f3A_59, f4A_60, f5A_61, f6A_62, n4A_63, wwA_64, laB_65, mdB_66, wyB_67, pc_B_68, f1B_69, f2B_70, f3B_71, f4B_72, f5B_73, f6B_74, n4B_75, wwB_76, rfl, h_77, h_78, h_79, h_80, h_81, h_82, h_83, h_84, h_85, h_86, h_87, h_88⟩ := hw
  have G : zS T A s.heap s [wd0_, wd1_, wg0_, wg1_, [(rd, .inr (7, [.ref rl, .ref rdd, .ref rg, .int r0, .int r1, .ref tq, .int r2, .int r3, .int r4, .int r5, .int r6, .int r7, .int r8]))], z, wd, wg, wff, wc, wcp, wr, wrp, wp, [(cd, .inl (T.2 0, 1000, .inl fcd))], wta, z0_a, z1_a, wd0_a, wd1_a, wg0_a, wg1_a, wtb, z0_b, z1_b, wd0_b, wd1_b, wg0_b, wg1_b, wtc, z0_c, z1_c, wd0_c, wd1_c, wg0_c, wg1_c, [(im, .inl (T.2 6, 3, .inr (.inr (.inr (.inr qi)))))], [(mk, .inl (T.2 2, 3, .inl fmk))], [(mo, .inr (11, [.ref m_all, .ref m_has, .int i_size, .int i_next, .int i_where, .int i_token, .int i_number, .int i_word, .int i_wrong, .int i_farCrossing, .ref m_read, .int i_z0, .int i_crossings, .int i_inns, .ref m_posts, .ref m_shut, .ref m_here, .int i_steps, .int i_done, .int i_at, .int i_gone, .ref m_was, .ref m_came, .ref m_seenAt, .ref m_rowWorth, .ref m_farBy, .ref m_used, .int i_everywhere, .int i_again0, .int i_d0, .int i_never, .int i_firstCame, .int i_longRun, .int i_moved, .int i_crowd, .int i_l0, .int i_fitMany, .int i_fitLeast, .int i_fitMost, .ref m_fitPost, .ref m_fitEnd, .ref m_keptPosts, .int i_x0]))], [(m_all, .inl (T.2 0, 3952, .inl f_all))], [(m_has, .inl (T.2 2, 3, .inl f_has))], [(m_read, .inl (T.2 0, 121, .inl f_read))], [(m_posts, .inl (T.2 0, 7, .inl f_posts))], [(m_shut, .inl (T.2 0, 7, .inl f_shut))], [(m_here, .inl (T.2 0, 7, .inl f_here))], [(m_was, .inl (T.2 0, 7, .inl f_was))], [(m_came, .inl (T.2 0, 7, .inl f_came))], [(m_seenAt, .inl (T.2 0, 16384, .inl f_seenAt))], [(m_rowWorth, .inl (T.2 0, 512, .inl f_rowWorth))], [(m_farBy, .inl (T.2 0, 49, .inl f_farBy))], [(m_used, .inl (T.2 0, 7, .inl f_used))], [(m_fitPost, .inl (T.2 0, 28, .inl f_fitPost))], [(m_fitEnd, .inl (T.2 0, 49, .inl f_fitEnd))], [(m_keptPosts, .inl (T.2 0, 7, .inl f_keptPosts))], [(xo, .inr (10, [.ref t, .ref im, .ref mk, .ref rd, .ref po, .ref co, .ref tr, .ref wa, .ref wb_, .ref fi, .ref cd]))], wt, z0_, z1_, wwA_64, wwB_76] _ _ := G
  have hFI2 : (¬ e0f = 0 → e1f.toInt = 0 ∧ ¬ mdA_54 = 0 ∨ e1f.toInt = 1 ∧ ¬ mdB_66 = 0) := fun q => (hFI q).elim (fun z => Or.inl ⟨z.1, h_82 z.2⟩) (fun z => Or.inr ⟨z.1, h_88 z.2⟩)
  refine lv_pop hx hb dL_law_1439 rfl ?_
  refine lv_aload_n hx hb dL_law_1440 rfl (lv_at hl 2 rfl) ?_
  refine lv_aload_n hx hb dL_law_1441 rfl (lv_at hl 0 rfl) ?_
  refine lv_iload_n hx hb dL_law_1442 rfl (lv_at hl 3 rfl) ?_
  refine lv_iconst (v := 1) hx hb dL_law_1443 (by decide) ?_
  refine lv_iadd hx hb dL_law_1444 ?_
  refine lv_topi (fun y_90 ey_90 => ?_)
  obtain rfl : y_90 = nI (i + 1) := ey_90.trans (z_iaddn i 1 rfl rfl)
  refine va_sld hx hb hX hbl hbA G.2.2.2.1 (vp_in_nI (by omega) (by omega)) dL_law_1445 ?_
  refine lv_topi (fun v_91 ev_91 => ?_)
  rw [nI_clamp (by omega)] at ev_91
  have ev_91 : v_91 = xs (i + 1) := ev_91
  subst ev_91
  refine lv_aload_n hx hb dL_law_1446 rfl (lv_at hl 0 rfl) ?_
  refine lv_iload_n hx hb dL_law_1447 rfl (lv_at hl 3 rfl) ?_
  refine lv_iconst (v := 2) hx hb dL_law_1448 (by decide) ?_
  refine lv_iadd hx hb dL_law_1449 ?_
  refine lv_topi (fun y_92 ey_92 => ?_)
  obtain rfl : y_92 = nI (i + 2) := ey_92.trans (z_iaddn i 2 rfl rfl)
  refine va_sld hx hb hX hbl hbA G.2.2.2.1 (vp_in_nI (by omega) (by omega)) dL_law_1450 ?_
  refine lv_topi (fun v_93 ev_93 => ?_)
  rw [nI_clamp (by omega)] at ev_93
  have ev_93 : v_93 = xs (i + 2) := ev_93
  subst ev_93
  refine z_Vi (bc := [[(mo, .inr (11, [.ref m_all, .ref m_has, .int i_size, .int i_next, .int i_where, .int i_token, .int i_number, .int i_word, .int i_wrong, .int i_farCrossing, .ref m_read, .int i_z0, .int i_crossings, .int i_inns, .ref m_posts, .ref m_shut, .ref m_here, .int i_steps, .int i_done, .int i_at, .int i_gone, .ref m_was, .ref m_came, .ref m_seenAt, .ref m_rowWorth, .ref m_farBy, .ref m_used, .int i_everywhere, .int i_again0, .int i_d0, .int i_never, .int i_firstCame, .int i_longRun, .int i_moved, .int i_crowd, .int i_l0, .int i_fitMany, .int i_fitLeast, .int i_fitMost, .ref m_fitPost, .ref m_fitEnd, .ref m_keptPosts, .int i_x0]))], [(m_all, .inl (T.2 0, 3952, .inl f_all))], [(m_posts, .inl (T.2 0, 7, .inl f_posts))], [(m_shut, .inl (T.2 0, 7, .inl f_shut))], [(m_here, .inl (T.2 0, 7, .inl f_here))], [(m_was, .inl (T.2 0, 7, .inl f_was))]]) (br := [wd0_, wd1_, wg0_, wg1_, [(rd, .inr (7, [.ref rl, .ref rdd, .ref rg, .int r0, .int r1, .ref tq, .int r2, .int r3, .int r4, .int r5, .int r6, .int r7, .int r8]))], z, wd, wg, wff, wc, wcp, wr, wrp, wp, [(cd, .inl (T.2 0, 1000, .inl fcd))], wta, z0_a, z1_a, wd0_a, wd1_a, wg0_a, wg1_a, wtb, z0_b, z1_b, wd0_b, wd1_b, wg0_b, wg1_b, wtc, z0_c, z1_c, wd0_c, wd1_c, wg0_c, wg1_c, [(im, .inl (T.2 6, 3, .inr (.inr (.inr (.inr qi)))))], [(mk, .inl (T.2 2, 3, .inl fmk))], [(m_has, .inl (T.2 2, 3, .inl f_has))], [(m_read, .inl (T.2 0, 121, .inl f_read))], [(m_came, .inl (T.2 0, 7, .inl f_came))], [(m_seenAt, .inl (T.2 0, 16384, .inl f_seenAt))], [(m_rowWorth, .inl (T.2 0, 512, .inl f_rowWorth))], [(m_farBy, .inl (T.2 0, 49, .inl f_farBy))], [(m_used, .inl (T.2 0, 7, .inl f_used))], [(m_fitPost, .inl (T.2 0, 28, .inl f_fitPost))], [(m_fitEnd, .inl (T.2 0, 49, .inl f_fitEnd))], [(m_keptPosts, .inl (T.2 0, 7, .inl f_keptPosts))], [(xo, .inr (10, [.ref t, .ref im, .ref mk, .ref rd, .ref po, .ref co, .ref tr, .ref wa, .ref wb_, .ref fi, .ref cd]))], wt, z0_, z1_, wwA_64, wwB_76]) (As := [.int (xs (i + 1)), .int (xs (i + 2))]) (rest := []) C G (c_m_back l T mo m_all m_has i_size i_next i_where i_token i_number i_word i_wrong i_farCrossing m_read i_z0 i_crossings i_inns m_posts m_shut m_here i_steps i_done i_at i_gone m_was m_came m_seenAt m_rowWorth m_farBy m_used i_everywhere i_again0 i_d0 i_never i_firstCame i_longRun i_moved i_crowd i_l0 i_fitMany i_fitLeast i_fitMost m_fitPost m_fitEnd m_keptPosts i_x0 f_all f_posts f_shut f_here f_was (xs (i + 1)) (xs (i + 2)) (by first | assumption | omega | rfl)) (kV_RL_132 C.2.2.2.2 (Nat.le_of_ble_eq_true rfl) (Nat.le_of_ble_eq_true rfl)) [38, 39, 42, 43, 44, 45] [0, 1, 2, 3, 4, 5, 6, 7, 8, 9, 10, 11, 12, 13, 14, 15, 16, 17, 18, 19, 20, 21, 22, 23, 24, 25, 26, 27, 28, 29, 30, 31, 32, 33, 34, 35, 36, 37, 40, 41, 46, 47, 48, 49, 50, 51, 52, 53, 54, 55, 56, 57, 58, 59] rfl rfl (ci := 11) (qc := (RX12, TX12, 43)) rfl rfl (List.mem_flatten.mpr ⟨_, List.mem_of_getElem? (i := 0) rfl, List.mem_cons_self⟩) rfl rfl hl.1 dL_law_1451 (by show _ + 0 ≤ 600000; omega) (by show _ + 0 ≤ 7302250; omega) (fun r_105 b1 H locs hw G => ?_)
  obtain ⟨j_z0_94, j_crossings_95, j_inns_96, j_steps_97, j_done_98, j_at_99, j_gone_100, g_posts_101, g_shut_102, g_here_103, g_was_104, rfl⟩ := hw
  have G : zS T A s.heap s [wd0_, wd1_, wg0_, wg1_, [(rd, .inr (7, [.ref rl, .ref rdd, .ref rg, .int r0, .int r1, .ref tq, .int r2, .int r3, .int r4, .int r5, .int r6, .int r7, .int r8]))], z, wd, wg, wff, wc, wcp, wr, wrp, wp, [(cd, .inl (T.2 0, 1000, .inl fcd))], wta, z0_a, z1_a, wd0_a, wd1_a, wg0_a, wg1_a, wtb, z0_b, z1_b, wd0_b, wd1_b, wg0_b, wg1_b, wtc, z0_c, z1_c, wd0_c, wd1_c, wg0_c, wg1_c, [(im, .inl (T.2 6, 3, .inr (.inr (.inr (.inr qi)))))], [(mk, .inl (T.2 2, 3, .inl fmk))], [(m_has, .inl (T.2 2, 3, .inl f_has))], [(m_read, .inl (T.2 0, 121, .inl f_read))], [(m_came, .inl (T.2 0, 7, .inl f_came))], [(m_seenAt, .inl (T.2 0, 16384, .inl f_seenAt))], [(m_rowWorth, .inl (T.2 0, 512, .inl f_rowWorth))], [(m_farBy, .inl (T.2 0, 49, .inl f_farBy))], [(m_used, .inl (T.2 0, 7, .inl f_used))], [(m_fitPost, .inl (T.2 0, 28, .inl f_fitPost))], [(m_fitEnd, .inl (T.2 0, 49, .inl f_fitEnd))], [(m_keptPosts, .inl (T.2 0, 7, .inl f_keptPosts))], [(xo, .inr (10, [.ref t, .ref im, .ref mk, .ref rd, .ref po, .ref co, .ref tr, .ref wa, .ref wb_, .ref fi, .ref cd]))], wt, z0_, z1_, wwA_64, wwB_76, [(mo, .inr (11, [.ref m_all, .ref m_has, .int i_size, .int i_next, .int i_where, .int i_token, .int i_number, .int i_word, .int i_wrong, .int i_farCrossing, .ref m_read, .int j_z0_94, .int j_crossings_95, .int j_inns_96, .ref m_posts, .ref m_shut, .ref m_here, .int j_steps_97, .int j_done_98, .int j_at_99, .int j_gone_100, .ref m_was, .ref m_came, .ref m_seenAt, .ref m_rowWorth, .ref m_farBy, .ref m_used, .int i_everywhere, .int i_again0, .int i_d0, .int i_never, .int i_firstCame, .int i_longRun, .int i_moved, .int i_crowd, .int i_l0, .int i_fitMany, .int i_fitLeast, .int i_fitMost, .ref m_fitPost, .ref m_fitEnd, .ref m_keptPosts, .int i_x0]))], [(m_all, .inl (T.2 0, 3952, .inl f_all))], [(m_posts, .inl (T.2 0, 7, .inl g_posts_101))], [(m_shut, .inl (T.2 0, 7, .inl g_shut_102))], [(m_here, .inl (T.2 0, 7, .inl g_here_103))], [(m_was, .inl (T.2 0, 7, .inl g_was_104))]] _ _ := G
  refine lv_pop hx hb dL_law_1454 rfl ?_
  refine lv_goto (tgt := 1767) hx hb dL_law_1455 (by decide) ?_
  have G := G.sub (bs' := [[(xo, .inr (10, [.ref t, .ref im, .ref mk, .ref rd, .ref po, .ref co, .ref tr, .ref wa, .ref wb_, .ref fi, .ref cd]))], wt, z0_, z1_, wd0_, wd1_, wg0_, wg1_, [(rd, .inr (7, [.ref rl, .ref rdd, .ref rg, .int r0, .int r1, .ref tq, .int r2, .int r3, .int r4, .int r5, .int r6, .int r7, .int r8]))], z, wd, wg, wwA_64, wwB_76, wff, wc, wcp, wr, wrp, wp, [(cd, .inl (T.2 0, 1000, .inl fcd))], wta, z0_a, z1_a, wd0_a, wd1_a, wg0_a, wg1_a, wtb, z0_b, z1_b, wd0_b, wd1_b, wg0_b, wg1_b, wtc, z0_c, z1_c, wd0_c, wd1_c, wg0_c, wg1_c, [(im, .inl (T.2 6, 3, .inr (.inr (.inr (.inr qi)))))], [(mk, .inl (T.2 2, 3, .inl fmk))], [(mo, .inr (11, [.ref m_all, .ref m_has, .int i_size, .int i_next, .int i_where, .int i_token, .int i_number, .int i_word, .int i_wrong, .int i_farCrossing, .ref m_read, .int j_z0_94, .int j_crossings_95, .int j_inns_96, .ref m_posts, .ref m_shut, .ref m_here, .int j_steps_97, .int j_done_98, .int j_at_99, .int j_gone_100, .ref m_was, .ref m_came, .ref m_seenAt, .ref m_rowWorth, .ref m_farBy, .ref m_used, .int i_everywhere, .int i_again0, .int i_d0, .int i_never, .int i_firstCame, .int i_longRun, .int i_moved, .int i_crowd, .int i_l0, .int i_fitMany, .int i_fitLeast, .int i_fitMost, .ref m_fitPost, .ref m_fitEnd, .ref m_keptPosts, .int i_x0]))], [(m_all, .inl (T.2 0, 3952, .inl f_all))], [(m_has, .inl (T.2 2, 3, .inl f_has))], [(m_read, .inl (T.2 0, 121, .inl f_read))], [(m_posts, .inl (T.2 0, 7, .inl g_posts_101))], [(m_shut, .inl (T.2 0, 7, .inl g_shut_102))], [(m_here, .inl (T.2 0, 7, .inl g_here_103))], [(m_was, .inl (T.2 0, 7, .inl g_was_104))], [(m_came, .inl (T.2 0, 7, .inl f_came))], [(m_seenAt, .inl (T.2 0, 16384, .inl f_seenAt))], [(m_rowWorth, .inl (T.2 0, 512, .inl f_rowWorth))], [(m_farBy, .inl (T.2 0, 49, .inl f_farBy))], [(m_used, .inl (T.2 0, 7, .inl f_used))], [(m_fitPost, .inl (T.2 0, 28, .inl f_fitPost))], [(m_fitEnd, .inl (T.2 0, 49, .inl f_fitEnd))], [(m_keptPosts, .inl (T.2 0, 7, .inl f_keptPosts))]]) [48, 49, 50, 51, 0, 1, 2, 3, 4, 5, 6, 7, 52, 53, 8, 9, 10, 11, 12, 13, 14, 15, 16, 17, 18, 19, 20, 21, 22, 23, 24, 25, 26, 27, 28, 29, 30, 31, 32, 33, 34, 35, 36, 37, 54, 55, 38, 39, 56, 57, 58, 59, 40, 41, 42, 43, 44, 45, 46, 47] rfl
  refine W.widen (k := 216 + 2 * i + 12) (n := 27000 + 6 * (n4A_63 + n4B_75) + 2 * m1f) (by omega) (by omega) ?_
  exact kk n4A_63 n4B_75 m1f _ ⟨⟨t, im, mk, rd, po, co, tr, wa, wb_, fi, cd, wt, l0, l1, d0, d1, g0, g1, ln, z0_, z1_, wd0_, wd1_, wg0_, wg1_, rl, rdd, rg, r0, r1, tq, r2, r3, r4, r5, r6, r7, r8, z, wd, wg, wwA_64, mdA_54, wwB_76, mdB_66, wff, e0f, e1f, wc, cpo, wcp, wr, tpo, wrp, wp, fcd, m0, wta, l0a, l1a, d0a, d1a, g0a, g1a, lna, z0_a, z1_a, wd0_a, wd1_a, wg0_a, wg1_a, m1, wtb, l0b, l1b, d0b, d1b, g0b, g1b, lnb, z0_b, z1_b, wd0_b, wd1_b, wg0_b, wg1_b, m2, wtc, l0c, l1c, d0c, d1c, g0c, g1c, lnc, z0_c, z1_c, wd0_c, wd1_c, wg0_c, wg1_c, qi, fmk, m_all, m_has, i_size, i_next, i_where, i_token, i_number, i_word, i_wrong, i_farCrossing, m_read, j_z0_94, j_crossings_95, j_inns_96, m_posts, m_shut, m_here, j_steps_97, j_done_98, j_at_99, j_gone_100, m_was, m_came, m_seenAt, m_rowWorth, m_farBy, m_used, i_everywhere, i_again0, i_d0, i_never, i_firstCame, i_longRun, i_moved, i_crowd, i_l0, i_fitMany, i_fitLeast, i_fitMost, m_fitPost, m_fitEnd, m_keptPosts, i_x0, f_all, f_has, f_read, g_posts_101, g_shut_102, g_here_103, g_was_104, f_came, f_seenAt, f_rowWorth, f_farBy, f_used, f_fitPost, f_fitEnd, f_keptPosts⟩, rfl, ⟨v_5, v_6, v_7, v_8, h_9, (by first | assumption | omega)⟩, ⟨v_11, v_12, v_13, v_14, v_15, v_16, h_17, (by first | assumption | omega)⟩, ⟨v_19, v_20, v_21, v_22, v_23, v_24, h_25, (by first | assumption | omega)⟩, H_wd0_, H_wd1_, H_wg0_, H_wg1_, H_z, H_wd, H_wg, ⟨laA_53, wyA_55, pc_A_56, f1A_57, f2A_58, f3A_59, f4A_60, f5A_61, f6A_62, h_77, (by first | assumption | omega), (by first | assumption | omega), (by first | assumption | omega)⟩, ⟨laB_65, wyB_67, pc_B_68, f1B_69, f2B_70, f3B_71, f4B_72, f5B_73, f6B_74, h_83, (by first | assumption | omega), (by first | assumption | omega), (by first | assumption | omega)⟩, H_wff, H_wc, H_wcp, H_wr, H_wrp, H_wp, H_wta, H_z0_a, H_z1_a, H_wd0_a, H_wd1_a, H_wg0_a, H_wg1_a, H_wtb, H_z0_b, H_z1_b, H_wd0_b, H_wd1_b, H_wg0_b, H_wg1_b, H_wtc, H_z0_c, H_z1_c, H_wd0_c, H_wd1_c, H_wg0_c, H_wg1_c, (by first | assumption | omega), (by first | assumption | omega), (by first | assumption | omega), (by first | assumption | omega), (by first | assumption | omega), (by first | assumption | omega), (by first | assumption | omega), (by first | assumption | omega)⟩ _ _ ls G (lv_sub hl [0, 1, 2, 3] rfl)
set_option maxHeartbeats 40000000 in
set_option maxRecDepth 100000 in
theorem z_case_keys (l : Launch) {p : Program} {e : Env} {s : State} {m : MethodId} {b : Nat} {below : List Frame} {meth : Method} {c : Code} {Q : State → Prop} {T : zTy} {A : Nat → Prop} {L i : Nat} {xs : Nat → Int32} (hx : p.tables.exec = Jvm.exec) (hb : c.code = cL_law) (C : CallFix p m c cL_law 4 s #[Value.ref b] zT RL) (hX : va_X b L xs s s.heap) (hbl : b < s.heap.size) (hbA : ¬ A b) (hL : L ≤ 3072) (hi6 : i + 6 ≤ L) {xo mo n4A n4B m1f : Nat} (hnA : n4A ≤ 131072) (hnB : n4B ≤ 131072) (hmf : m1f ≤ 16384) {bs : List va_W} (hI : zInv T xo mo n4A n4B m1f bs) {H : Heap} {locs : List Loc} {ls : Array Slot} (G : zS T A s.heap s bs H locs) (hl : lv_has ls 4 [(0, .ref b), (1, .ref xo), (2, .ref mo), (3, .int (nI i))]) (kk : ∀ (n1 n2 n3 : Nat) (bs1 : List va_W), zInv T xo mo n1 n2 n3 bs1 → ∀ (H1 : Heap) (locs1 : List Loc) (ls1 : Array Slot), zS T A s.heap s bs1 H1 locs1 → lv_has ls1 4 [(0, .ref b), (1, .ref xo), (2, .ref mo), (3, .int (nI i))] → W p l e room_1 s m #[Value.ref b] below meth c H1 locs1 (216 + 2 * i + 12) (27000 + 6 * (n1 + n2) + 2 * n3) Q (F0 m 1767 ls1 [])) : W p l e room_1 s m #[Value.ref b] below meth c H locs (216 + 2 * i) (27000 + 6 * (n4A + n4B) + 2 * m1f) Q (F0 m 1458 ls []) := by
  obtain ⟨⟨t, im, mk, rd, po, co, tr, wa, wb_, fi, cd, wt, l0, l1, d0, d1, g0, g1, ln, z0_, z1_, wd0_, wd1_, wg0_, wg1_, rl, rdd, rg, r0, r1, tq, r2, r3, r4, r5, r6, r7, r8, z, wd, wg, wwA, mdA, wwB, mdB, wff, e0f, e1f, wc, cpo, wcp, wr, tpo, wrp, wp, fcd, m0, wta, l0a, l1a, d0a, d1a, g0a, g1a, lna, z0_a, z1_a, wd0_a, wd1_a, wg0_a, wg1_a, m1, wtb, l0b, l1b, d0b, d1b, g0b, g1b, lnb, z0_b, z1_b, wd0_b, wd1_b, wg0_b, wg1_b, m2, wtc, l0c, l1c, d0c, d1c, g0c, g1c, lnc, z0_c, z1_c, wd0_c, wd1_c, wg0_c, wg1_c, qi, fmk, m_all, m_has, i_size, i_next, i_where, i_token, i_number, i_word, i_wrong, i_farCrossing, m_read, i_z0, i_crossings, i_inns, m_posts, m_shut, m_here, i_steps, i_done, i_at, i_gone, m_was, m_came, m_seenAt, m_rowWorth, m_farBy, m_used, i_everywhere, i_again0, i_d0, i_never, i_firstCame, i_longRun, i_moved, i_crowd, i_l0, i_fitMany, i_fitLeast, i_fitMost, m_fitPost, m_fitEnd, m_keptPosts, i_x0, f_all, f_has, f_read, f_posts, f_shut, f_here, f_was, f_came, f_seenAt, f_rowWorth, f_farBy, f_used, f_fitPost, f_fitEnd, f_keptPosts⟩, rfl, H_wt, H_z0_, H_z1_, H_wd0_, H_wd1_, H_wg0_, H_wg1_, H_z, H_wd, H_wg, H_wwA, H_wwB, H_wff, H_wc, H_wcp, H_wr, H_wrp, H_wp, H_wta, H_z0_a, H_z1_a, H_wd0_a, H_wd1_a, H_wg0_a, H_wg1_a, H_wtb, H_z0_b, H_z1_b, H_wd0_b, H_wd1_b, H_wg0_b, H_wg1_b, H_wtc, H_z0_c, H_z1_c, H_wd0_c, H_wd1_c, H_wg0_c, H_wg1_c, hm0, hm1, hm2, h56, hFI, hAI, hRl, hHs⟩ := hI
  replace H_wt : hTold T t l0 l1 d0 d1 g0 g1 ln wt := H_wt
  replace H_z0_ : hLand T l0 z0_ := H_z0_
  replace H_z1_ : hLand T l1 z1_ := H_z1_
  replace H_wd0_ : hDay T d0 wd0_ := H_wd0_
  replace H_wd1_ : hDay T d1 wd1_ := H_wd1_
  replace H_wg0_ : hLog T g0 wg0_ := H_wg0_
  replace H_wg1_ : hLog T g1 wg1_ := H_wg1_
  replace H_z : hLandR T rl z := H_z
  replace H_wd : hDay T rdd wd := H_wd
  replace H_wg : hLog T rg wg := H_wg
  replace H_wwA : hWays T wa mdA n4A l0 wwA := H_wwA
  replace H_wwB : hWays T wb_ mdB n4B l1 wwB := H_wwB
  replace H_wff : hFit T fi e0f e1f m1f wff := H_wff
  replace H_wc : hCourse T co cpo wc := H_wc
  replace H_wcp : hPosts T cpo wcp := H_wcp
  replace H_wr : hTrail T tr tpo wr := H_wr
  replace H_wrp : hPosts T tpo wrp := H_wrp
  replace H_wp : hPosts T po wp := H_wp
  replace H_wta : hTold T m0 l0a l1a d0a d1a g0a g1a lna wta := H_wta
  replace H_z0_a : hLand T l0a z0_a := H_z0_a
  replace H_z1_a : hLand T l1a z1_a := H_z1_a
  replace H_wd0_a : hDay T d0a wd0_a := H_wd0_a
  replace H_wd1_a : hDay T d1a wd1_a := H_wd1_a
  replace H_wg0_a : hLog T g0a wg0_a := H_wg0_a
  replace H_wg1_a : hLog T g1a wg1_a := H_wg1_a
  replace H_wtb : hTold T m1 l0b l1b d0b d1b g0b g1b lnb wtb := H_wtb
  replace H_z0_b : hLand T l0b z0_b := H_z0_b
  replace H_z1_b : hLand T l1b z1_b := H_z1_b
  replace H_wd0_b : hDay T d0b wd0_b := H_wd0_b
  replace H_wd1_b : hDay T d1b wd1_b := H_wd1_b
  replace H_wg0_b : hLog T g0b wg0_b := H_wg0_b
  replace H_wg1_b : hLog T g1b wg1_b := H_wg1_b
  replace H_wtc : hTold T m2 l0c l1c d0c d1c g0c g1c lnc wtc := H_wtc
  replace H_z0_c : hLand T l0c z0_c := H_z0_c
  replace H_z1_c : hLand T l1c z1_c := H_z1_c
  replace H_wd0_c : hDay T d0c wd0_c := H_wd0_c
  replace H_wd1_c : hDay T d1c wd1_c := H_wd1_c
  replace H_wg0_c : hLog T g0c wg0_c := H_wg0_c
  replace H_wg1_c : hLog T g1c wg1_c := H_wg1_c
  replace hm0 : qi 0 = some m0 := hm0
  replace hm1 : qi 1 = some m1 := hm1
  replace hm2 : qi 2 = some m2 := hm2
  replace h56 : ((0 ≤ r5.toInt ∧ r5.toInt ≤ 600) ∧ 0 ≤ r6.toInt ∧ r6.toInt ≤ 1000) := h56
  replace hFI : (¬ e0f = 0 → e1f.toInt = 0 ∧ ¬ mdA = 0 ∨ e1f.toInt = 1 ∧ ¬ mdB = 0) := hFI
  replace hAI : zAI f_all := hAI
  replace hRl : zRl ln lna lnb lnc f_all := hRl
  replace hHs : zHs fmk f_has := hHs
  replace G : zS T A s.heap s [[(xo, .inr (10, [.ref t, .ref im, .ref mk, .ref rd, .ref po, .ref co, .ref tr, .ref wa, .ref wb_, .ref fi, .ref cd]))], wt, z0_, z1_, wd0_, wd1_, wg0_, wg1_, [(rd, .inr (7, [.ref rl, .ref rdd, .ref rg, .int r0, .int r1, .ref tq, .int r2, .int r3, .int r4, .int r5, .int r6, .int r7, .int r8]))], z, wd, wg, wwA, wwB, wff, wc, wcp, wr, wrp, wp, [(cd, .inl (T.2 0, 1000, .inl fcd))], wta, z0_a, z1_a, wd0_a, wd1_a, wg0_a, wg1_a, wtb, z0_b, z1_b, wd0_b, wd1_b, wg0_b, wg1_b, wtc, z0_c, z1_c, wd0_c, wd1_c, wg0_c, wg1_c, [(im, .inl (T.2 6, 3, .inr (.inr (.inr (.inr qi)))))], [(mk, .inl (T.2 2, 3, .inl fmk))], [(mo, .inr (11, [.ref m_all, .ref m_has, .int i_size, .int i_next, .int i_where, .int i_token, .int i_number, .int i_word, .int i_wrong, .int i_farCrossing, .ref m_read, .int i_z0, .int i_crossings, .int i_inns, .ref m_posts, .ref m_shut, .ref m_here, .int i_steps, .int i_done, .int i_at, .int i_gone, .ref m_was, .ref m_came, .ref m_seenAt, .ref m_rowWorth, .ref m_farBy, .ref m_used, .int i_everywhere, .int i_again0, .int i_d0, .int i_never, .int i_firstCame, .int i_longRun, .int i_moved, .int i_crowd, .int i_l0, .int i_fitMany, .int i_fitLeast, .int i_fitMost, .ref m_fitPost, .ref m_fitEnd, .ref m_keptPosts, .int i_x0]))], [(m_all, .inl (T.2 0, 3952, .inl f_all))], [(m_has, .inl (T.2 2, 3, .inl f_has))], [(m_read, .inl (T.2 0, 121, .inl f_read))], [(m_posts, .inl (T.2 0, 7, .inl f_posts))], [(m_shut, .inl (T.2 0, 7, .inl f_shut))], [(m_here, .inl (T.2 0, 7, .inl f_here))], [(m_was, .inl (T.2 0, 7, .inl f_was))], [(m_came, .inl (T.2 0, 7, .inl f_came))], [(m_seenAt, .inl (T.2 0, 16384, .inl f_seenAt))], [(m_rowWorth, .inl (T.2 0, 512, .inl f_rowWorth))], [(m_farBy, .inl (T.2 0, 49, .inl f_farBy))], [(m_used, .inl (T.2 0, 7, .inl f_used))], [(m_fitPost, .inl (T.2 0, 28, .inl f_fitPost))], [(m_fitEnd, .inl (T.2 0, 49, .inl f_fitEnd))], [(m_keptPosts, .inl (T.2 0, 7, .inl f_keptPosts))]] H locs := G
  have hB := zAI_0 hAI
  have hB4 := hB.1
  obtain ⟨hln, hlna, hlnb, hlnc⟩ := zRl_in hAI hRl
  refine lv_aload_n hx hb dL_law_1458 rfl (lv_at hl 1 rfl) ?_
  refine lv_aload_n hx hb dL_law_1459 rfl (lv_at hl 0 rfl) ?_
  refine lv_iload_n hx hb dL_law_1460 rfl (lv_at hl 3 rfl) ?_
  refine lv_iconst (v := 1) hx hb dL_law_1461 (by decide) ?_
  refine lv_iadd hx hb dL_law_1462 ?_
  refine lv_topi (fun y_1 ey_1 => ?_)
  obtain rfl : y_1 = nI (i + 1) := ey_1.trans (z_iaddn i 1 rfl rfl)
  refine va_sld hx hb hX hbl hbA G.2.2.2.1 (vp_in_nI (by omega) (by omega)) dL_law_1463 ?_
  refine lv_topi (fun v_2 ev_2 => ?_)
  rw [nI_clamp (by omega)] at ev_2
  have ev_2 : v_2 = xs (i + 1) := ev_2
  subst ev_2
  refine lv_aload_n hx hb dL_law_1464 rfl (lv_at hl 0 rfl) ?_
  refine lv_iload_n hx hb dL_law_1465 rfl (lv_at hl 3 rfl) ?_
  refine lv_iconst (v := 2) hx hb dL_law_1466 (by decide) ?_
  refine lv_iadd hx hb dL_law_1467 ?_
  refine lv_topi (fun y_3 ey_3 => ?_)
  obtain rfl : y_3 = nI (i + 2) := ey_3.trans (z_iaddn i 2 rfl rfl)
  refine va_sld hx hb hX hbl hbA G.2.2.2.1 (vp_in_nI (by omega) (by omega)) dL_law_1468 ?_
  refine lv_topi (fun v_4 ev_4 => ?_)
  rw [nI_clamp (by omega)] at ev_4
  have ev_4 : v_4 = xs (i + 2) := ev_4
  subst ev_4
  refine lv_aload_n hx hb dL_law_1469 rfl (lv_at hl 0 rfl) ?_
  refine lv_iload_n hx hb dL_law_1470 rfl (lv_at hl 3 rfl) ?_
  refine lv_iconst (v := 3) hx hb dL_law_1471 (by decide) ?_
  refine lv_iadd hx hb dL_law_1472 ?_
  refine lv_topi (fun y_5 ey_5 => ?_)
  obtain rfl : y_5 = nI (i + 3) := ey_5.trans (z_iaddn i 3 rfl rfl)
  refine va_sld hx hb hX hbl hbA G.2.2.2.1 (vp_in_nI (by omega) (by omega)) dL_law_1473 ?_
  refine lv_topi (fun v_6 ev_6 => ?_)
  rw [nI_clamp (by omega)] at ev_6
  have ev_6 : v_6 = xs (i + 3) := ev_6
  subst ev_6
  refine lv_if_eq (tgt := 1481) hx hb dL_law_1474 (by decide) (fun c_7 => ?_) (fun c_7 => ?_)
  · have c_7n : (xs (i + 3)).toInt = (0 : Int) := (fa_eq _ _).mp c_7
    refine lv_iconst (v := 0) hx hb dL_law_1481 (by decide) ?_
    obtain ⟨v_8, v_9, v_10, v_11, h_12, h_13⟩ := H_wt
    have h_13 : zKT v_11 := h_13
    obtain ⟨v_14, v_15, v_16, v_17, v_18, v_19, h_20, h_21⟩ := H_z0_
    have h_21 : zLI v_14 v_16 v_18 := h_21
    obtain ⟨v_22, v_23, v_24, v_25, v_26, v_27, h_28, h_29⟩ := H_z1_
    have h_29 : zLI v_22 v_24 v_26 := h_29
    obtain ⟨v_30, v_31, v_32, v_33, v_34, v_35, h_36⟩ := H_wp
    refine z_Vi (bc := [[(xo, .inr (10, [.ref t, .ref im, .ref mk, .ref rd, .ref po, .ref co, .ref tr, .ref wa, .ref wb_, .ref fi, .ref cd]))], wt, z0_, z1_, wp]) (br := [wd0_, wd1_, wg0_, wg1_, [(rd, .inr (7, [.ref rl, .ref rdd, .ref rg, .int r0, .int r1, .ref tq, .int r2, .int r3, .int r4, .int r5, .int r6, .int r7, .int r8]))], z, wd, wg, wwA, wwB, wff, wc, wcp, wr, wrp, [(cd, .inl (T.2 0, 1000, .inl fcd))], wta, z0_a, z1_a, wd0_a, wd1_a, wg0_a, wg1_a, wtb, z0_b, z1_b, wd0_b, wd1_b, wg0_b, wg1_b, wtc, z0_c, z1_c, wd0_c, wd1_c, wg0_c, wg1_c, [(im, .inl (T.2 6, 3, .inr (.inr (.inr (.inr qi)))))], [(mk, .inl (T.2 2, 3, .inl fmk))], [(mo, .inr (11, [.ref m_all, .ref m_has, .int i_size, .int i_next, .int i_where, .int i_token, .int i_number, .int i_word, .int i_wrong, .int i_farCrossing, .ref m_read, .int i_z0, .int i_crossings, .int i_inns, .ref m_posts, .ref m_shut, .ref m_here, .int i_steps, .int i_done, .int i_at, .int i_gone, .ref m_was, .ref m_came, .ref m_seenAt, .ref m_rowWorth, .ref m_farBy, .ref m_used, .int i_everywhere, .int i_again0, .int i_d0, .int i_never, .int i_firstCame, .int i_longRun, .int i_moved, .int i_crowd, .int i_l0, .int i_fitMany, .int i_fitLeast, .int i_fitMost, .ref m_fitPost, .ref m_fitEnd, .ref m_keptPosts, .int i_x0]))], [(m_all, .inl (T.2 0, 3952, .inl f_all))], [(m_has, .inl (T.2 2, 3, .inl f_has))], [(m_read, .inl (T.2 0, 121, .inl f_read))], [(m_posts, .inl (T.2 0, 7, .inl f_posts))], [(m_shut, .inl (T.2 0, 7, .inl f_shut))], [(m_here, .inl (T.2 0, 7, .inl f_here))], [(m_was, .inl (T.2 0, 7, .inl f_was))], [(m_came, .inl (T.2 0, 7, .inl f_came))], [(m_seenAt, .inl (T.2 0, 16384, .inl f_seenAt))], [(m_rowWorth, .inl (T.2 0, 512, .inl f_rowWorth))], [(m_farBy, .inl (T.2 0, 49, .inl f_farBy))], [(m_used, .inl (T.2 0, 7, .inl f_used))], [(m_fitPost, .inl (T.2 0, 28, .inl f_fitPost))], [(m_fitEnd, .inl (T.2 0, 49, .inl f_fitEnd))], [(m_keptPosts, .inl (T.2 0, 7, .inl f_keptPosts))]]) (As := [.int (xs (i + 1)), .int (xs (i + 2)), .int 0]) (rest := []) C G (c_keys l T xo t im mk rd po co tr wa wb_ fi cd l0 l1 d0 d1 g0 g1 ln v_8 v_9 v_10 v_11 wt v_14 v_15 v_16 v_17 v_18 v_19 z0_ v_22 v_23 v_24 v_25 v_26 v_27 z1_ v_30 v_31 v_32 v_33 v_34 v_35 wp (xs (i + 1)) (xs (i + 2)) 0 h_12 (by first | assumption | omega | rfl) h_20 (by first | assumption | omega | rfl) h_28 (by first | assumption | omega | rfl) h_36) (kV_RL_133 C.2.2.2.2 (Nat.le_of_ble_eq_true rfl) (Nat.le_of_ble_eq_true rfl)) [0, 1, 2, 3, 19] [4, 5, 6, 7, 8, 9, 10, 11, 12, 13, 14, 15, 16, 17, 18, 20, 21, 22, 23, 24, 25, 26, 27, 28, 29, 30, 31, 32, 33, 34, 35, 36, 37, 38, 39, 40, 41, 42, 43, 44, 45, 46, 47, 48, 49, 50, 51, 52, 53, 54, 55, 56, 57, 58, 59] rfl rfl (ci := 10) (qc := (RX11, TX11, 11)) rfl rfl (List.mem_flatten.mpr ⟨_, List.mem_of_getElem? (i := 0) rfl, List.mem_cons_self⟩) rfl rfl hl.1 dL_law_1482 (by show _ + 0 ≤ 600000; omega) (by show _ + 0 ≤ 7302250; omega) (fun r_45 b1 H locs hw G => ?_)
    obtain ⟨lp_37, f1_38, f2_39, f3_40, st_41, wh_42, wp_43, rfl, h_44⟩ := hw
    have G : zS T A s.heap s [wd0_, wd1_, wg0_, wg1_, [(rd, .inr (7, [.ref rl, .ref rdd, .ref rg, .int r0, .int r1, .ref tq, .int r2, .int r3, .int r4, .int r5, .int r6, .int r7, .int r8]))], z, wd, wg, wwA, wwB, wff, wc, wcp, wr, wrp, [(cd, .inl (T.2 0, 1000, .inl fcd))], wta, z0_a, z1_a, wd0_a, wd1_a, wg0_a, wg1_a, wtb, z0_b, z1_b, wd0_b, wd1_b, wg0_b, wg1_b, wtc, z0_c, z1_c, wd0_c, wd1_c, wg0_c, wg1_c, [(im, .inl (T.2 6, 3, .inr (.inr (.inr (.inr qi)))))], [(mk, .inl (T.2 2, 3, .inl fmk))], [(mo, .inr (11, [.ref m_all, .ref m_has, .int i_size, .int i_next, .int i_where, .int i_token, .int i_number, .int i_word, .int i_wrong, .int i_farCrossing, .ref m_read, .int i_z0, .int i_crossings, .int i_inns, .ref m_posts, .ref m_shut, .ref m_here, .int i_steps, .int i_done, .int i_at, .int i_gone, .ref m_was, .ref m_came, .ref m_seenAt, .ref m_rowWorth, .ref m_farBy, .ref m_used, .int i_everywhere, .int i_again0, .int i_d0, .int i_never, .int i_firstCame, .int i_longRun, .int i_moved, .int i_crowd, .int i_l0, .int i_fitMany, .int i_fitLeast, .int i_fitMost, .ref m_fitPost, .ref m_fitEnd, .ref m_keptPosts, .int i_x0]))], [(m_all, .inl (T.2 0, 3952, .inl f_all))], [(m_has, .inl (T.2 2, 3, .inl f_has))], [(m_read, .inl (T.2 0, 121, .inl f_read))], [(m_posts, .inl (T.2 0, 7, .inl f_posts))], [(m_shut, .inl (T.2 0, 7, .inl f_shut))], [(m_here, .inl (T.2 0, 7, .inl f_here))], [(m_was, .inl (T.2 0, 7, .inl f_was))], [(m_came, .inl (T.2 0, 7, .inl f_came))], [(m_seenAt, .inl (T.2 0, 16384, .inl f_seenAt))], [(m_rowWorth, .inl (T.2 0, 512, .inl f_rowWorth))], [(m_farBy, .inl (T.2 0, 49, .inl f_farBy))], [(m_used, .inl (T.2 0, 7, .inl f_used))], [(m_fitPost, .inl (T.2 0, 28, .inl f_fitPost))], [(m_fitEnd, .inl (T.2 0, 49, .inl f_fitEnd))], [(m_keptPosts, .inl (T.2 0, 7, .inl f_keptPosts))], [(xo, .inr (10, [.ref t, .ref im, .ref mk, .ref rd, .ref po, .ref co, .ref tr, .ref wa, .ref wb_, .ref fi, .ref cd]))], wt, z0_, z1_, wp_43] _ _ := G
    refine lv_pop hx hb dL_law_1485 rfl ?_
    refine lv_aload_n hx hb dL_law_1486 rfl (lv_at hl 2 rfl) ?_
    refine lv_aload_n hx hb dL_law_1487 rfl (lv_at hl 0 rfl) ?_
    refine lv_iload_n hx hb dL_law_1488 rfl (lv_at hl 3 rfl) ?_
    refine lv_iconst (v := 1) hx hb dL_law_1489 (by decide) ?_
    refine lv_iadd hx hb dL_law_1490 ?_
    refine lv_topi (fun y_46 ey_46 => ?_)
    obtain rfl : y_46 = nI (i + 1) := ey_46.trans (z_iaddn i 1 rfl rfl)
    refine va_sld hx hb hX hbl hbA G.2.2.2.1 (vp_in_nI (by omega) (by omega)) dL_law_1491 ?_
    refine lv_topi (fun v_47 ev_47 => ?_)
    rw [nI_clamp (by omega)] at ev_47
    have ev_47 : v_47 = xs (i + 1) := ev_47
    subst ev_47
    refine lv_aload_n hx hb dL_law_1492 rfl (lv_at hl 0 rfl) ?_
    refine lv_iload_n hx hb dL_law_1493 rfl (lv_at hl 3 rfl) ?_
    refine lv_iconst (v := 2) hx hb dL_law_1494 (by decide) ?_
    refine lv_iadd hx hb dL_law_1495 ?_
    refine lv_topi (fun y_48 ey_48 => ?_)
    obtain rfl : y_48 = nI (i + 2) := ey_48.trans (z_iaddn i 2 rfl rfl)
    refine va_sld hx hb hX hbl hbA G.2.2.2.1 (vp_in_nI (by omega) (by omega)) dL_law_1496 ?_
    refine lv_topi (fun v_49 ev_49 => ?_)
    rw [nI_clamp (by omega)] at ev_49
    have ev_49 : v_49 = xs (i + 2) := ev_49
    subst ev_49
    refine lv_aload_n hx hb dL_law_1497 rfl (lv_at hl 0 rfl) ?_
    refine lv_iload_n hx hb dL_law_1498 rfl (lv_at hl 3 rfl) ?_
    refine lv_iconst (v := 3) hx hb dL_law_1499 (by decide) ?_
    refine lv_iadd hx hb dL_law_1500 ?_
    refine lv_topi (fun y_50 ey_50 => ?_)
    obtain rfl : y_50 = nI (i + 3) := ey_50.trans (z_iaddn i 3 rfl rfl)
    refine va_sld hx hb hX hbl hbA G.2.2.2.1 (vp_in_nI (by omega) (by omega)) dL_law_1501 ?_
    refine lv_topi (fun v_51 ev_51 => ?_)
    rw [nI_clamp (by omega)] at ev_51
    have ev_51 : v_51 = xs (i + 3) := ev_51
    subst ev_51
    refine lv_if_eq (tgt := 1509) hx hb dL_law_1502 (by decide) (fun _ => ?_) (fun q => absurd c_7 q)
    refine lv_iconst (v := 0) hx hb dL_law_1509 (by decide) ?_
    refine z_Vi (bc := [[(mo, .inr (11, [.ref m_all, .ref m_has, .int i_size, .int i_next, .int i_where, .int i_token, .int i_number, .int i_word, .int i_wrong, .int i_farCrossing, .ref m_read, .int i_z0, .int i_crossings, .int i_inns, .ref m_posts, .ref m_shut, .ref m_here, .int i_steps, .int i_done, .int i_at, .int i_gone, .ref m_was, .ref m_came, .ref m_seenAt, .ref m_rowWorth, .ref m_farBy, .ref m_used, .int i_everywhere, .int i_again0, .int i_d0, .int i_never, .int i_firstCame, .int i_longRun, .int i_moved, .int i_crowd, .int i_l0, .int i_fitMany, .int i_fitLeast, .int i_fitMost, .ref m_fitPost, .ref m_fitEnd, .ref m_keptPosts, .int i_x0]))], [(m_all, .inl (T.2 0, 3952, .inl f_all))], [(m_posts, .inl (T.2 0, 7, .inl f_posts))], [(m_shut, .inl (T.2 0, 7, .inl f_shut))], [(m_here, .inl (T.2 0, 7, .inl f_here))], [(m_was, .inl (T.2 0, 7, .inl f_was))]]) (br := [wd0_, wd1_, wg0_, wg1_, [(rd, .inr (7, [.ref rl, .ref rdd, .ref rg, .int r0, .int r1, .ref tq, .int r2, .int r3, .int r4, .int r5, .int r6, .int r7, .int r8]))], z, wd, wg, wwA, wwB, wff, wc, wcp, wr, wrp, [(cd, .inl (T.2 0, 1000, .inl fcd))], wta, z0_a, z1_a, wd0_a, wd1_a, wg0_a, wg1_a, wtb, z0_b, z1_b, wd0_b, wd1_b, wg0_b, wg1_b, wtc, z0_c, z1_c, wd0_c, wd1_c, wg0_c, wg1_c, [(im, .inl (T.2 6, 3, .inr (.inr (.inr (.inr qi)))))], [(mk, .inl (T.2 2, 3, .inl fmk))], [(m_has, .inl (T.2 2, 3, .inl f_has))], [(m_read, .inl (T.2 0, 121, .inl f_read))], [(m_came, .inl (T.2 0, 7, .inl f_came))], [(m_seenAt, .inl (T.2 0, 16384, .inl f_seenAt))], [(m_rowWorth, .inl (T.2 0, 512, .inl f_rowWorth))], [(m_farBy, .inl (T.2 0, 49, .inl f_farBy))], [(m_used, .inl (T.2 0, 7, .inl f_used))], [(m_fitPost, .inl (T.2 0, 28, .inl f_fitPost))], [(m_fitEnd, .inl (T.2 0, 49, .inl f_fitEnd))], [(m_keptPosts, .inl (T.2 0, 7, .inl f_keptPosts))], [(xo, .inr (10, [.ref t, .ref im, .ref mk, .ref rd, .ref po, .ref co, .ref tr, .ref wa, .ref wb_, .ref fi, .ref cd]))], wt, z0_, z1_, wp_43]) (As := [.int (xs (i + 1)), .int (xs (i + 2)), .int 0]) (rest := []) C G (c_m_keys l T mo m_all m_has i_size i_next i_where i_token i_number i_word i_wrong i_farCrossing m_read i_z0 i_crossings i_inns m_posts m_shut m_here i_steps i_done i_at i_gone m_was m_came m_seenAt m_rowWorth m_farBy m_used i_everywhere i_again0 i_d0 i_never i_firstCame i_longRun i_moved i_crowd i_l0 i_fitMany i_fitLeast i_fitMost m_fitPost m_fitEnd m_keptPosts i_x0 f_all f_posts f_shut f_here f_was (xs (i + 1)) (xs (i + 2)) 0 (by first | assumption | omega | rfl)) (kV_RL_136 C.2.2.2.2 (Nat.le_of_ble_eq_true rfl) (Nat.le_of_ble_eq_true rfl)) [39, 40, 43, 44, 45, 46] [0, 1, 2, 3, 4, 5, 6, 7, 8, 9, 10, 11, 12, 13, 14, 15, 16, 17, 18, 19, 20, 21, 22, 23, 24, 25, 26, 27, 28, 29, 30, 31, 32, 33, 34, 35, 36, 37, 38, 41, 42, 47, 48, 49, 50, 51, 52, 53, 54, 55, 56, 57, 58, 59] rfl rfl (ci := 11) (qc := (RX12, TX12, 43)) rfl rfl (List.mem_flatten.mpr ⟨_, List.mem_of_getElem? (i := 0) rfl, List.mem_cons_self⟩) rfl rfl hl.1 dL_law_1510 (by show _ + 0 ≤ 600000; omega) (by show _ + 0 ≤ 7302250; omega) (fun r_63 b1 H locs hw G => ?_)
    obtain ⟨j_z0_52, j_crossings_53, j_inns_54, j_steps_55, j_done_56, j_at_57, j_gone_58, g_posts_59, g_shut_60, g_here_61, g_was_62, rfl⟩ := hw
    have G : zS T A s.heap s [wd0_, wd1_, wg0_, wg1_, [(rd, .inr (7, [.ref rl, .ref rdd, .ref rg, .int r0, .int r1, .ref tq, .int r2, .int r3, .int r4, .int r5, .int r6, .int r7, .int r8]))], z, wd, wg, wwA, wwB, wff, wc, wcp, wr, wrp, [(cd, .inl (T.2 0, 1000, .inl fcd))], wta, z0_a, z1_a, wd0_a, wd1_a, wg0_a, wg1_a, wtb, z0_b, z1_b, wd0_b, wd1_b, wg0_b, wg1_b, wtc, z0_c, z1_c, wd0_c, wd1_c, wg0_c, wg1_c, [(im, .inl (T.2 6, 3, .inr (.inr (.inr (.inr qi)))))], [(mk, .inl (T.2 2, 3, .inl fmk))], [(m_has, .inl (T.2 2, 3, .inl f_has))], [(m_read, .inl (T.2 0, 121, .inl f_read))], [(m_came, .inl (T.2 0, 7, .inl f_came))], [(m_seenAt, .inl (T.2 0, 16384, .inl f_seenAt))], [(m_rowWorth, .inl (T.2 0, 512, .inl f_rowWorth))], [(m_farBy, .inl (T.2 0, 49, .inl f_farBy))], [(m_used, .inl (T.2 0, 7, .inl f_used))], [(m_fitPost, .inl (T.2 0, 28, .inl f_fitPost))], [(m_fitEnd, .inl (T.2 0, 49, .inl f_fitEnd))], [(m_keptPosts, .inl (T.2 0, 7, .inl f_keptPosts))], [(xo, .inr (10, [.ref t, .ref im, .ref mk, .ref rd, .ref po, .ref co, .ref tr, .ref wa, .ref wb_, .ref fi, .ref cd]))], wt, z0_, z1_, wp_43, [(mo, .inr (11, [.ref m_all, .ref m_has, .int i_size, .int i_next, .int i_where, .int i_token, .int i_number, .int i_word, .int i_wrong, .int i_farCrossing, .ref m_read, .int j_z0_52, .int j_crossings_53, .int j_inns_54, .ref m_posts, .ref m_shut, .ref m_here, .int j_steps_55, .int j_done_56, .int j_at_57, .int j_gone_58, .ref m_was, .ref m_came, .ref m_seenAt, .ref m_rowWorth, .ref m_farBy, .ref m_used, .int i_everywhere, .int i_again0, .int i_d0, .int i_never, .int i_firstCame, .int i_longRun, .int i_moved, .int i_crowd, .int i_l0, .int i_fitMany, .int i_fitLeast, .int i_fitMost, .ref m_fitPost, .ref m_fitEnd, .ref m_keptPosts, .int i_x0]))], [(m_all, .inl (T.2 0, 3952, .inl f_all))], [(m_posts, .inl (T.2 0, 7, .inl g_posts_59))], [(m_shut, .inl (T.2 0, 7, .inl g_shut_60))], [(m_here, .inl (T.2 0, 7, .inl g_here_61))], [(m_was, .inl (T.2 0, 7, .inl g_was_62))]] _ _ := G
    refine lv_pop hx hb dL_law_1513 rfl ?_
    refine lv_goto (tgt := 1767) hx hb dL_law_1514 (by decide) ?_
    have G := G.sub (bs' := [[(xo, .inr (10, [.ref t, .ref im, .ref mk, .ref rd, .ref po, .ref co, .ref tr, .ref wa, .ref wb_, .ref fi, .ref cd]))], wt, z0_, z1_, wd0_, wd1_, wg0_, wg1_, [(rd, .inr (7, [.ref rl, .ref rdd, .ref rg, .int r0, .int r1, .ref tq, .int r2, .int r3, .int r4, .int r5, .int r6, .int r7, .int r8]))], z, wd, wg, wwA, wwB, wff, wc, wcp, wr, wrp, wp_43, [(cd, .inl (T.2 0, 1000, .inl fcd))], wta, z0_a, z1_a, wd0_a, wd1_a, wg0_a, wg1_a, wtb, z0_b, z1_b, wd0_b, wd1_b, wg0_b, wg1_b, wtc, z0_c, z1_c, wd0_c, wd1_c, wg0_c, wg1_c, [(im, .inl (T.2 6, 3, .inr (.inr (.inr (.inr qi)))))], [(mk, .inl (T.2 2, 3, .inl fmk))], [(mo, .inr (11, [.ref m_all, .ref m_has, .int i_size, .int i_next, .int i_where, .int i_token, .int i_number, .int i_word, .int i_wrong, .int i_farCrossing, .ref m_read, .int j_z0_52, .int j_crossings_53, .int j_inns_54, .ref m_posts, .ref m_shut, .ref m_here, .int j_steps_55, .int j_done_56, .int j_at_57, .int j_gone_58, .ref m_was, .ref m_came, .ref m_seenAt, .ref m_rowWorth, .ref m_farBy, .ref m_used, .int i_everywhere, .int i_again0, .int i_d0, .int i_never, .int i_firstCame, .int i_longRun, .int i_moved, .int i_crowd, .int i_l0, .int i_fitMany, .int i_fitLeast, .int i_fitMost, .ref m_fitPost, .ref m_fitEnd, .ref m_keptPosts, .int i_x0]))], [(m_all, .inl (T.2 0, 3952, .inl f_all))], [(m_has, .inl (T.2 2, 3, .inl f_has))], [(m_read, .inl (T.2 0, 121, .inl f_read))], [(m_posts, .inl (T.2 0, 7, .inl g_posts_59))], [(m_shut, .inl (T.2 0, 7, .inl g_shut_60))], [(m_here, .inl (T.2 0, 7, .inl g_here_61))], [(m_was, .inl (T.2 0, 7, .inl g_was_62))], [(m_came, .inl (T.2 0, 7, .inl f_came))], [(m_seenAt, .inl (T.2 0, 16384, .inl f_seenAt))], [(m_rowWorth, .inl (T.2 0, 512, .inl f_rowWorth))], [(m_farBy, .inl (T.2 0, 49, .inl f_farBy))], [(m_used, .inl (T.2 0, 7, .inl f_used))], [(m_fitPost, .inl (T.2 0, 28, .inl f_fitPost))], [(m_fitEnd, .inl (T.2 0, 49, .inl f_fitEnd))], [(m_keptPosts, .inl (T.2 0, 7, .inl f_keptPosts))]]) [49, 50, 51, 52, 0, 1, 2, 3, 4, 5, 6, 7, 8, 9, 10, 11, 12, 13, 14, 53, 15, 16, 17, 18, 19, 20, 21, 22, 23, 24, 25, 26, 27, 28, 29, 30, 31, 32, 33, 34, 35, 36, 37, 38, 54, 55, 39, 40, 56, 57, 58, 59, 41, 42, 43, 44, 45, 46, 47, 48] rfl
    refine W.widen (k := 216 + 2 * i + 12) (n := 27000 + 6 * (n4A + n4B) + 2 * m1f) (by omega) (by omega) ?_
    exact kk n4A n4B m1f _ ⟨⟨t, im, mk, rd, po, co, tr, wa, wb_, fi, cd, wt, l0, l1, d0, d1, g0, g1, ln, z0_, z1_, wd0_, wd1_, wg0_, wg1_, rl, rdd, rg, r0, r1, tq, r2, r3, r4, r5, r6, r7, r8, z, wd, wg, wwA, mdA, wwB, mdB, wff, e0f, e1f, wc, cpo, wcp, wr, tpo, wrp, wp_43, fcd, m0, wta, l0a, l1a, d0a, d1a, g0a, g1a, lna, z0_a, z1_a, wd0_a, wd1_a, wg0_a, wg1_a, m1, wtb, l0b, l1b, d0b, d1b, g0b, g1b, lnb, z0_b, z1_b, wd0_b, wd1_b, wg0_b, wg1_b, m2, wtc, l0c, l1c, d0c, d1c, g0c, g1c, lnc, z0_c, z1_c, wd0_c, wd1_c, wg0_c, wg1_c, qi, fmk, m_all, m_has, i_size, i_next, i_where, i_token, i_number, i_word, i_wrong, i_farCrossing, m_read, j_z0_52, j_crossings_53, j_inns_54, m_posts, m_shut, m_here, j_steps_55, j_done_56, j_at_57, j_gone_58, m_was, m_came, m_seenAt, m_rowWorth, m_farBy, m_used, i_everywhere, i_again0, i_d0, i_never, i_firstCame, i_longRun, i_moved, i_crowd, i_l0, i_fitMany, i_fitLeast, i_fitMost, m_fitPost, m_fitEnd, m_keptPosts, i_x0, f_all, f_has, f_read, g_posts_59, g_shut_60, g_here_61, g_was_62, f_came, f_seenAt, f_rowWorth, f_farBy, f_used, f_fitPost, f_fitEnd, f_keptPosts⟩, rfl, ⟨v_8, v_9, v_10, v_11, h_12, (by first | assumption | omega)⟩, ⟨v_14, v_15, v_16, v_17, v_18, v_19, h_20, (by first | assumption | omega)⟩, ⟨v_22, v_23, v_24, v_25, v_26, v_27, h_28, (by first | assumption | omega)⟩, H_wd0_, H_wd1_, H_wg0_, H_wg1_, H_z, H_wd, H_wg, H_wwA, H_wwB, H_wff, H_wc, H_wcp, H_wr, H_wrp, ⟨lp_37, f1_38, f2_39, f3_40, st_41, wh_42, h_44⟩, H_wta, H_z0_a, H_z1_a, H_wd0_a, H_wd1_a, H_wg0_a, H_wg1_a, H_wtb, H_z0_b, H_z1_b, H_wd0_b, H_wd1_b, H_wg0_b, H_wg1_b, H_wtc, H_z0_c, H_z1_c, H_wd0_c, H_wd1_c, H_wg0_c, H_wg1_c, (by first | assumption | omega), (by first | assumption | omega), (by first | assumption | omega), (by first | assumption | omega), (by first | assumption | omega), (by first | assumption | omega), (by first | assumption | omega), (by first | assumption | omega)⟩ _ _ ls G (lv_sub hl [0, 1, 2, 3] rfl)
  · have c_7n : ¬ (xs (i + 3)).toInt = (0 : Int) := fun q => c_7 ((fa_eq _ _).mpr q)
    refine lv_iconst (v := 1) hx hb dL_law_1477 (by decide) ?_
    refine lv_goto (tgt := 1482) hx hb dL_law_1478 (by decide) ?_
    obtain ⟨v_64, v_65, v_66, v_67, h_68, h_69⟩ := H_wt
    have h_69 : zKT v_67 := h_69
    obtain ⟨v_70, v_71, v_72, v_73, v_74, v_75, h_76, h_77⟩ := H_z0_
    have h_77 : zLI v_70 v_72 v_74 := h_77
    obtain ⟨v_78, v_79, v_80, v_81, v_82, v_83, h_84, h_85⟩ := H_z1_
    have h_85 : zLI v_78 v_80 v_82 := h_85
    obtain ⟨v_86, v_87, v_88, v_89, v_90, v_91, h_92⟩ := H_wp
    refine z_Vi (bc := [[(xo, .inr (10, [.ref t, .ref im, .ref mk, .ref rd, .ref po, .ref co, .ref tr, .ref wa, .ref wb_, .ref fi, .ref cd]))], wt, z0_, z1_, wp]) (br := [wd0_, wd1_, wg0_, wg1_, [(rd, .inr (7, [.ref rl, .ref rdd, .ref rg, .int r0, .int r1, .ref tq, .int r2, .int r3, .int r4, .int r5, .int r6, .int r7, .int r8]))], z, wd, wg, wwA, wwB, wff, wc, wcp, wr, wrp, [(cd, .inl (T.2 0, 1000, .inl fcd))], wta, z0_a, z1_a, wd0_a, wd1_a, wg0_a, wg1_a, wtb, z0_b, z1_b, wd0_b, wd1_b, wg0_b, wg1_b, wtc, z0_c, z1_c, wd0_c, wd1_c, wg0_c, wg1_c, [(im, .inl (T.2 6, 3, .inr (.inr (.inr (.inr qi)))))], [(mk, .inl (T.2 2, 3, .inl fmk))], [(mo, .inr (11, [.ref m_all, .ref m_has, .int i_size, .int i_next, .int i_where, .int i_token, .int i_number, .int i_word, .int i_wrong, .int i_farCrossing, .ref m_read, .int i_z0, .int i_crossings, .int i_inns, .ref m_posts, .ref m_shut, .ref m_here, .int i_steps, .int i_done, .int i_at, .int i_gone, .ref m_was, .ref m_came, .ref m_seenAt, .ref m_rowWorth, .ref m_farBy, .ref m_used, .int i_everywhere, .int i_again0, .int i_d0, .int i_never, .int i_firstCame, .int i_longRun, .int i_moved, .int i_crowd, .int i_l0, .int i_fitMany, .int i_fitLeast, .int i_fitMost, .ref m_fitPost, .ref m_fitEnd, .ref m_keptPosts, .int i_x0]))], [(m_all, .inl (T.2 0, 3952, .inl f_all))], [(m_has, .inl (T.2 2, 3, .inl f_has))], [(m_read, .inl (T.2 0, 121, .inl f_read))], [(m_posts, .inl (T.2 0, 7, .inl f_posts))], [(m_shut, .inl (T.2 0, 7, .inl f_shut))], [(m_here, .inl (T.2 0, 7, .inl f_here))], [(m_was, .inl (T.2 0, 7, .inl f_was))], [(m_came, .inl (T.2 0, 7, .inl f_came))], [(m_seenAt, .inl (T.2 0, 16384, .inl f_seenAt))], [(m_rowWorth, .inl (T.2 0, 512, .inl f_rowWorth))], [(m_farBy, .inl (T.2 0, 49, .inl f_farBy))], [(m_used, .inl (T.2 0, 7, .inl f_used))], [(m_fitPost, .inl (T.2 0, 28, .inl f_fitPost))], [(m_fitEnd, .inl (T.2 0, 49, .inl f_fitEnd))], [(m_keptPosts, .inl (T.2 0, 7, .inl f_keptPosts))]]) (As := [.int (xs (i + 1)), .int (xs (i + 2)), .int 1]) (rest := []) C G (c_keys l T xo t im mk rd po co tr wa wb_ fi cd l0 l1 d0 d1 g0 g1 ln v_64 v_65 v_66 v_67 wt v_70 v_71 v_72 v_73 v_74 v_75 z0_ v_78 v_79 v_80 v_81 v_82 v_83 z1_ v_86 v_87 v_88 v_89 v_90 v_91 wp (xs (i + 1)) (xs (i + 2)) 1 h_68 (by first | assumption | omega | rfl) h_76 (by first | assumption | omega | rfl) h_84 (by first | assumption | omega | rfl) h_92) (kV_RL_133 C.2.2.2.2 (Nat.le_of_ble_eq_true rfl) (Nat.le_of_ble_eq_true rfl)) [0, 1, 2, 3, 19] [4, 5, 6, 7, 8, 9, 10, 11, 12, 13, 14, 15, 16, 17, 18, 20, 21, 22, 23, 24, 25, 26, 27, 28, 29, 30, 31, 32, 33, 34, 35, 36, 37, 38, 39, 40, 41, 42, 43, 44, 45, 46, 47, 48, 49, 50, 51, 52, 53, 54, 55, 56, 57, 58, 59] rfl rfl (ci := 10) (qc := (RX11, TX11, 11)) rfl rfl (List.mem_flatten.mpr ⟨_, List.mem_of_getElem? (i := 0) rfl, List.mem_cons_self⟩) rfl rfl hl.1 dL_law_1482 (by show _ + 0 ≤ 600000; omega) (by show _ + 0 ≤ 7302250; omega) (fun r_101 b1 H locs hw G => ?_)
    obtain ⟨lp_93, f1_94, f2_95, f3_96, st_97, wh_98, wp_99, rfl, h_100⟩ := hw
    have G : zS T A s.heap s [wd0_, wd1_, wg0_, wg1_, [(rd, .inr (7, [.ref rl, .ref rdd, .ref rg, .int r0, .int r1, .ref tq, .int r2, .int r3, .int r4, .int r5, .int r6, .int r7, .int r8]))], z, wd, wg, wwA, wwB, wff, wc, wcp, wr, wrp, [(cd, .inl (T.2 0, 1000, .inl fcd))], wta, z0_a, z1_a, wd0_a, wd1_a, wg0_a, wg1_a, wtb, z0_b, z1_b, wd0_b, wd1_b, wg0_b, wg1_b, wtc, z0_c, z1_c, wd0_c, wd1_c, wg0_c, wg1_c, [(im, .inl (T.2 6, 3, .inr (.inr (.inr (.inr qi)))))], [(mk, .inl (T.2 2, 3, .inl fmk))], [(mo, .inr (11, [.ref m_all, .ref m_has, .int i_size, .int i_next, .int i_where, .int i_token, .int i_number, .int i_word, .int i_wrong, .int i_farCrossing, .ref m_read, .int i_z0, .int i_crossings, .int i_inns, .ref m_posts, .ref m_shut, .ref m_here, .int i_steps, .int i_done, .int i_at, .int i_gone, .ref m_was, .ref m_came, .ref m_seenAt, .ref m_rowWorth, .ref m_farBy, .ref m_used, .int i_everywhere, .int i_again0, .int i_d0, .int i_never, .int i_firstCame, .int i_longRun, .int i_moved, .int i_crowd, .int i_l0, .int i_fitMany, .int i_fitLeast, .int i_fitMost, .ref m_fitPost, .ref m_fitEnd, .ref m_keptPosts, .int i_x0]))], [(m_all, .inl (T.2 0, 3952, .inl f_all))], [(m_has, .inl (T.2 2, 3, .inl f_has))], [(m_read, .inl (T.2 0, 121, .inl f_read))], [(m_posts, .inl (T.2 0, 7, .inl f_posts))], [(m_shut, .inl (T.2 0, 7, .inl f_shut))], [(m_here, .inl (T.2 0, 7, .inl f_here))], [(m_was, .inl (T.2 0, 7, .inl f_was))], [(m_came, .inl (T.2 0, 7, .inl f_came))], [(m_seenAt, .inl (T.2 0, 16384, .inl f_seenAt))], [(m_rowWorth, .inl (T.2 0, 512, .inl f_rowWorth))], [(m_farBy, .inl (T.2 0, 49, .inl f_farBy))], [(m_used, .inl (T.2 0, 7, .inl f_used))], [(m_fitPost, .inl (T.2 0, 28, .inl f_fitPost))], [(m_fitEnd, .inl (T.2 0, 49, .inl f_fitEnd))], [(m_keptPosts, .inl (T.2 0, 7, .inl f_keptPosts))], [(xo, .inr (10, [.ref t, .ref im, .ref mk, .ref rd, .ref po, .ref co, .ref tr, .ref wa, .ref wb_, .ref fi, .ref cd]))], wt, z0_, z1_, wp_99] _ _ := G
    refine lv_pop hx hb dL_law_1485 rfl ?_
    refine lv_aload_n hx hb dL_law_1486 rfl (lv_at hl 2 rfl) ?_
    refine lv_aload_n hx hb dL_law_1487 rfl (lv_at hl 0 rfl) ?_
    refine lv_iload_n hx hb dL_law_1488 rfl (lv_at hl 3 rfl) ?_
    refine lv_iconst (v := 1) hx hb dL_law_1489 (by decide) ?_
    refine lv_iadd hx hb dL_law_1490 ?_
    refine lv_topi (fun y_102 ey_102 => ?_)
    obtain rfl : y_102 = nI (i + 1) := ey_102.trans (z_iaddn i 1 rfl rfl)
    refine va_sld hx hb hX hbl hbA G.2.2.2.1 (vp_in_nI (by omega) (by omega)) dL_law_1491 ?_
    refine lv_topi (fun v_103 ev_103 => ?_)
    rw [nI_clamp (by omega)] at ev_103
    have ev_103 : v_103 = xs (i + 1) := ev_103
    subst ev_103
    refine lv_aload_n hx hb dL_law_1492 rfl (lv_at hl 0 rfl) ?_
    refine lv_iload_n hx hb dL_law_1493 rfl (lv_at hl 3 rfl) ?_
    refine lv_iconst (v := 2) hx hb dL_law_1494 (by decide) ?_
    refine lv_iadd hx hb dL_law_1495 ?_
    refine lv_topi (fun y_104 ey_104 => ?_)
    obtain rfl : y_104 = nI (i + 2) := ey_104.trans (z_iaddn i 2 rfl rfl)
    refine va_sld hx hb hX hbl hbA G.2.2.2.1 (vp_in_nI (by omega) (by omega)) dL_law_1496 ?_
    refine lv_topi (fun v_105 ev_105 => ?_)
    rw [nI_clamp (by omega)] at ev_105
    have ev_105 : v_105 = xs (i + 2) := ev_105
    subst ev_105
    refine lv_aload_n hx hb dL_law_1497 rfl (lv_at hl 0 rfl) ?_
    refine lv_iload_n hx hb dL_law_1498 rfl (lv_at hl 3 rfl) ?_
    refine lv_iconst (v := 3) hx hb dL_law_1499 (by decide) ?_
    refine lv_iadd hx hb dL_law_1500 ?_
    refine lv_topi (fun y_106 ey_106 => ?_)
    obtain rfl : y_106 = nI (i + 3) := ey_106.trans (z_iaddn i 3 rfl rfl)
    refine va_sld hx hb hX hbl hbA G.2.2.2.1 (vp_in_nI (by omega) (by omega)) dL_law_1501 ?_
    refine lv_topi (fun v_107 ev_107 => ?_)
    rw [nI_clamp (by omega)] at ev_107
    have ev_107 : v_107 = xs (i + 3) := ev_107
    subst ev_107
    refine lv_if_eq (tgt := 1509) hx hb dL_law_1502 (by decide) (fun q => absurd q c_7) (fun _ => ?_)
    refine lv_iconst (v := 1) hx hb dL_law_1505 (by decide) ?_
    refine lv_goto (tgt := 1510) hx hb dL_law_1506 (by decide) ?_
    refine z_Vi (bc := [[(mo, .inr (11, [.ref m_all, .ref m_has, .int i_size, .int i_next, .int i_where, .int i_token, .int i_number, .int i_word, .int i_wrong, .int i_farCrossing, .ref m_read, .int i_z0, .int i_crossings, .int i_inns, .ref m_posts, .ref m_shut, .ref m_here, .int i_steps, .int i_done, .int i_at, .int i_gone, .ref m_was, .ref m_came, .ref m_seenAt, .ref m_rowWorth, .ref m_farBy, .ref m_used, .int i_everywhere, .int i_again0, .int i_d0, .int i_never, .int i_firstCame, .int i_longRun, .int i_moved, .int i_crowd, .int i_l0, .int i_fitMany, .int i_fitLeast, .int i_fitMost, .ref m_fitPost, .ref m_fitEnd, .ref m_keptPosts, .int i_x0]))], [(m_all, .inl (T.2 0, 3952, .inl f_all))], [(m_posts, .inl (T.2 0, 7, .inl f_posts))], [(m_shut, .inl (T.2 0, 7, .inl f_shut))], [(m_here, .inl (T.2 0, 7, .inl f_here))], [(m_was, .inl (T.2 0, 7, .inl f_was))]]) (br := [wd0_, wd1_, wg0_, wg1_, [(rd, .inr (7, [.ref rl, .ref rdd, .ref rg, .int r0, .int r1, .ref tq, .int r2, .int r3, .int r4, .int r5, .int r6, .int r7, .int r8]))], z, wd, wg, wwA, wwB, wff, wc, wcp, wr, wrp, [(cd, .inl (T.2 0, 1000, .inl fcd))], wta, z0_a, z1_a, wd0_a, wd1_a, wg0_a, wg1_a, wtb, z0_b, z1_b, wd0_b, wd1_b, wg0_b, wg1_b, wtc, z0_c, z1_c, wd0_c, wd1_c, wg0_c, wg1_c, [(im, .inl (T.2 6, 3, .inr (.inr (.inr (.inr qi)))))], [(mk, .inl (T.2 2, 3, .inl fmk))], [(m_has, .inl (T.2 2, 3, .inl f_has))], [(m_read, .inl (T.2 0, 121, .inl f_read))], [(m_came, .inl (T.2 0, 7, .inl f_came))], [(m_seenAt, .inl (T.2 0, 16384, .inl f_seenAt))], [(m_rowWorth, .inl (T.2 0, 512, .inl f_rowWorth))], [(m_farBy, .inl (T.2 0, 49, .inl f_farBy))], [(m_used, .inl (T.2 0, 7, .inl f_used))], [(m_fitPost, .inl (T.2 0, 28, .inl f_fitPost))], [(m_fitEnd, .inl (T.2 0, 49, .inl f_fitEnd))], [(m_keptPosts, .inl (T.2 0, 7, .inl f_keptPosts))], [(xo, .inr (10, [.ref t, .ref im, .ref mk, .ref rd, .ref po, .ref co, .ref tr, .ref wa, .ref wb_, .ref fi, .ref cd]))], wt, z0_, z1_, wp_99]) (As := [.int (xs (i + 1)), .int (xs (i + 2)), .int 1]) (rest := []) C G (c_m_keys l T mo m_all m_has i_size i_next i_where i_token i_number i_word i_wrong i_farCrossing m_read i_z0 i_crossings i_inns m_posts m_shut m_here i_steps i_done i_at i_gone m_was m_came m_seenAt m_rowWorth m_farBy m_used i_everywhere i_again0 i_d0 i_never i_firstCame i_longRun i_moved i_crowd i_l0 i_fitMany i_fitLeast i_fitMost m_fitPost m_fitEnd m_keptPosts i_x0 f_all f_posts f_shut f_here f_was (xs (i + 1)) (xs (i + 2)) 1 (by first | assumption | omega | rfl)) (kV_RL_136 C.2.2.2.2 (Nat.le_of_ble_eq_true rfl) (Nat.le_of_ble_eq_true rfl)) [39, 40, 43, 44, 45, 46] [0, 1, 2, 3, 4, 5, 6, 7, 8, 9, 10, 11, 12, 13, 14, 15, 16, 17, 18, 19, 20, 21, 22, 23, 24, 25, 26, 27, 28, 29, 30, 31, 32, 33, 34, 35, 36, 37, 38, 41, 42, 47, 48, 49, 50, 51, 52, 53, 54, 55, 56, 57, 58, 59] rfl rfl (ci := 11) (qc := (RX12, TX12, 43)) rfl rfl (List.mem_flatten.mpr ⟨_, List.mem_of_getElem? (i := 0) rfl, List.mem_cons_self⟩) rfl rfl hl.1 dL_law_1510 (by show _ + 0 ≤ 600000; omega) (by show _ + 0 ≤ 7302250; omega) (fun r_119 b1 H locs hw G => ?_)
    obtain ⟨j_z0_108, j_crossings_109, j_inns_110, j_steps_111, j_done_112, j_at_113, j_gone_114, g_posts_115, g_shut_116, g_here_117, g_was_118, rfl⟩ := hw
    have G : zS T A s.heap s [wd0_, wd1_, wg0_, wg1_, [(rd, .inr (7, [.ref rl, .ref rdd, .ref rg, .int r0, .int r1, .ref tq, .int r2, .int r3, .int r4, .int r5, .int r6, .int r7, .int r8]))], z, wd, wg, wwA, wwB, wff, wc, wcp, wr, wrp, [(cd, .inl (T.2 0, 1000, .inl fcd))], wta, z0_a, z1_a, wd0_a, wd1_a, wg0_a, wg1_a, wtb, z0_b, z1_b, wd0_b, wd1_b, wg0_b, wg1_b, wtc, z0_c, z1_c, wd0_c, wd1_c, wg0_c, wg1_c, [(im, .inl (T.2 6, 3, .inr (.inr (.inr (.inr qi)))))], [(mk, .inl (T.2 2, 3, .inl fmk))], [(m_has, .inl (T.2 2, 3, .inl f_has))], [(m_read, .inl (T.2 0, 121, .inl f_read))], [(m_came, .inl (T.2 0, 7, .inl f_came))], [(m_seenAt, .inl (T.2 0, 16384, .inl f_seenAt))], [(m_rowWorth, .inl (T.2 0, 512, .inl f_rowWorth))], [(m_farBy, .inl (T.2 0, 49, .inl f_farBy))], [(m_used, .inl (T.2 0, 7, .inl f_used))], [(m_fitPost, .inl (T.2 0, 28, .inl f_fitPost))], [(m_fitEnd, .inl (T.2 0, 49, .inl f_fitEnd))], [(m_keptPosts, .inl (T.2 0, 7, .inl f_keptPosts))], [(xo, .inr (10, [.ref t, .ref im, .ref mk, .ref rd, .ref po, .ref co, .ref tr, .ref wa, .ref wb_, .ref fi, .ref cd]))], wt, z0_, z1_, wp_99, [(mo, .inr (11, [.ref m_all, .ref m_has, .int i_size, .int i_next, .int i_where, .int i_token, .int i_number, .int i_word, .int i_wrong, .int i_farCrossing, .ref m_read, .int j_z0_108, .int j_crossings_109, .int j_inns_110, .ref m_posts, .ref m_shut, .ref m_here, .int j_steps_111, .int j_done_112, .int j_at_113, .int j_gone_114, .ref m_was, .ref m_came, .ref m_seenAt, .ref m_rowWorth, .ref m_farBy, .ref m_used, .int i_everywhere, .int i_again0, .int i_d0, .int i_never, .int i_firstCame, .int i_longRun, .int i_moved, .int i_crowd, .int i_l0, .int i_fitMany, .int i_fitLeast, .int i_fitMost, .ref m_fitPost, .ref m_fitEnd, .ref m_keptPosts, .int i_x0]))], [(m_all, .inl (T.2 0, 3952, .inl f_all))], [(m_posts, .inl (T.2 0, 7, .inl g_posts_115))], [(m_shut, .inl (T.2 0, 7, .inl g_shut_116))], [(m_here, .inl (T.2 0, 7, .inl g_here_117))], [(m_was, .inl (T.2 0, 7, .inl g_was_118))]] _ _ := G
    refine lv_pop hx hb dL_law_1513 rfl ?_
    refine lv_goto (tgt := 1767) hx hb dL_law_1514 (by decide) ?_
    have G := G.sub (bs' := [[(xo, .inr (10, [.ref t, .ref im, .ref mk, .ref rd, .ref po, .ref co, .ref tr, .ref wa, .ref wb_, .ref fi, .ref cd]))], wt, z0_, z1_, wd0_, wd1_, wg0_, wg1_, [(rd, .inr (7, [.ref rl, .ref rdd, .ref rg, .int r0, .int r1, .ref tq, .int r2, .int r3, .int r4, .int r5, .int r6, .int r7, .int r8]))], z, wd, wg, wwA, wwB, wff, wc, wcp, wr, wrp, wp_99, [(cd, .inl (T.2 0, 1000, .inl fcd))], wta, z0_a, z1_a, wd0_a, wd1_a, wg0_a, wg1_a, wtb, z0_b, z1_b, wd0_b, wd1_b, wg0_b, wg1_b, wtc, z0_c, z1_c, wd0_c, wd1_c, wg0_c, wg1_c, [(im, .inl (T.2 6, 3, .inr (.inr (.inr (.inr qi)))))], [(mk, .inl (T.2 2, 3, .inl fmk))], [(mo, .inr (11, [.ref m_all, .ref m_has, .int i_size, .int i_next, .int i_where, .int i_token, .int i_number, .int i_word, .int i_wrong, .int i_farCrossing, .ref m_read, .int j_z0_108, .int j_crossings_109, .int j_inns_110, .ref m_posts, .ref m_shut, .ref m_here, .int j_steps_111, .int j_done_112, .int j_at_113, .int j_gone_114, .ref m_was, .ref m_came, .ref m_seenAt, .ref m_rowWorth, .ref m_farBy, .ref m_used, .int i_everywhere, .int i_again0, .int i_d0, .int i_never, .int i_firstCame, .int i_longRun, .int i_moved, .int i_crowd, .int i_l0, .int i_fitMany, .int i_fitLeast, .int i_fitMost, .ref m_fitPost, .ref m_fitEnd, .ref m_keptPosts, .int i_x0]))], [(m_all, .inl (T.2 0, 3952, .inl f_all))], [(m_has, .inl (T.2 2, 3, .inl f_has))], [(m_read, .inl (T.2 0, 121, .inl f_read))], [(m_posts, .inl (T.2 0, 7, .inl g_posts_115))], [(m_shut, .inl (T.2 0, 7, .inl g_shut_116))], [(m_here, .inl (T.2 0, 7, .inl g_here_117))], [(m_was, .inl (T.2 0, 7, .inl g_was_118))], [(m_came, .inl (T.2 0, 7, .inl f_came))], [(m_seenAt, .inl (T.2 0, 16384, .inl f_seenAt))], [(m_rowWorth, .inl (T.2 0, 512, .inl f_rowWorth))], [(m_farBy, .inl (T.2 0, 49, .inl f_farBy))], [(m_used, .inl (T.2 0, 7, .inl f_used))], [(m_fitPost, .inl (T.2 0, 28, .inl f_fitPost))], [(m_fitEnd, .inl (T.2 0, 49, .inl f_fitEnd))], [(m_keptPosts, .inl (T.2 0, 7, .inl f_keptPosts))]]) [49, 50, 51, 52, 0, 1, 2, 3, 4, 5, 6, 7, 8, 9, 10, 11, 12, 13, 14, 53, 15, 16, 17, 18, 19, 20, 21, 22, 23, 24, 25, 26, 27, 28, 29, 30, 31, 32, 33, 34, 35, 36, 37, 38, 54, 55, 39, 40, 56, 57, 58, 59, 41, 42, 43, 44, 45, 46, 47, 48] rfl
    refine W.widen (k := 216 + 2 * i + 12) (n := 27000 + 6 * (n4A + n4B) + 2 * m1f) (by omega) (by omega) ?_
    exact kk n4A n4B m1f _ ⟨⟨t, im, mk, rd, po, co, tr, wa, wb_, fi, cd, wt, l0, l1, d0, d1, g0, g1, ln, z0_, z1_, wd0_, wd1_, wg0_, wg1_, rl, rdd, rg, r0, r1, tq, r2, r3, r4, r5, r6, r7, r8, z, wd, wg, wwA, mdA, wwB, mdB, wff, e0f, e1f, wc, cpo, wcp, wr, tpo, wrp, wp_99, fcd, m0, wta, l0a, l1a, d0a, d1a, g0a, g1a, lna, z0_a, z1_a, wd0_a, wd1_a, wg0_a, wg1_a, m1, wtb, l0b, l1b, d0b, d1b, g0b, g1b, lnb, z0_b, z1_b, wd0_b, wd1_b, wg0_b, wg1_b, m2, wtc, l0c, l1c, d0c, d1c, g0c, g1c, lnc, z0_c, z1_c, wd0_c, wd1_c, wg0_c, wg1_c, qi, fmk, m_all, m_has, i_size, i_next, i_where, i_token, i_number, i_word, i_wrong, i_farCrossing, m_read, j_z0_108, j_crossings_109, j_inns_110, m_posts, m_shut, m_here, j_steps_111, j_done_112, j_at_113, j_gone_114, m_was, m_came, m_seenAt, m_rowWorth, m_farBy, m_used, i_everywhere, i_again0, i_d0, i_never, i_firstCame, i_longRun, i_moved, i_crowd, i_l0, i_fitMany, i_fitLeast, i_fitMost, m_fitPost, m_fitEnd, m_keptPosts, i_x0, f_all, f_has, f_read, g_posts_115, g_shut_116, g_here_117, g_was_118, f_came, f_seenAt, f_rowWorth, f_farBy, f_used, f_fitPost, f_fitEnd, f_keptPosts⟩, rfl, ⟨v_64, v_65, v_66, v_67, h_68, (by first | assumption | omega)⟩, ⟨v_70, v_71, v_72, v_73, v_74, v_75, h_76, (by first | assumption | omega)⟩, ⟨v_78, v_79, v_80, v_81, v_82, v_83, h_84, (by first | assumption | omega)⟩, H_wd0_, H_wd1_, H_wg0_, H_wg1_, H_z, H_wd, H_wg, H_wwA, H_wwB, H_wff, H_wc, H_wcp, H_wr, H_wrp, ⟨lp_93, f1_94, f2_95, f3_96, st_97, wh_98, h_100⟩, H_wta, H_z0_a, H_z1_a, H_wd0_a, H_wd1_a, H_wg0_a, H_wg1_a, H_wtb, H_z0_b, H_z1_b, H_wd0_b, H_wd1_b, H_wg0_b, H_wg1_b, H_wtc, H_z0_c, H_z1_c, H_wd0_c, H_wd1_c, H_wg0_c, H_wg1_c, (by first | assumption | omega), (by first | assumption | omega), (by first | assumption | omega), (by first | assumption | omega), (by first | assumption | omega), (by first | assumption | omega), (by first | assumption | omega), (by first | assumption | omega)⟩ _ _ ls G (lv_sub hl [0, 1, 2, 3] rfl)

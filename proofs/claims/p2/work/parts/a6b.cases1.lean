set_option maxHeartbeats 40000000 in
set_option maxRecDepth 100000 in
theorem z_case_feed (l : Launch) {p : Program} {e : Env} {s : State} {m : MethodId} {b : Nat} {below : List Frame} {meth : Method} {c : Code} {Q : State → Prop} {T : zTy} {A : Nat → Prop} {L i : Nat} {xs : Nat → Int32} (hx : p.tables.exec = Jvm.exec) (hb : c.code = cL_law) (C : CallFix p m c cL_law 4 s #[Value.ref b] zT RL) (hX : va_X b L xs s s.heap) (hbl : b < s.heap.size) (hbA : ¬ A b) (hL : L ≤ 3072) (hi6 : i + 6 ≤ L) {xo mo n4A n4B m1f : Nat} (hnA : n4A ≤ 131072) (hnB : n4B ≤ 131072) (hmf : m1f ≤ 16384) {bs : List va_W} (hI : zInv T xo mo n4A n4B m1f bs) {H : Heap} {locs : List Loc} {ls : Array Slot} (G : zS T A s.heap s bs H locs) (hl : lv_has ls 4 [(0, .ref b), (1, .ref xo), (2, .ref mo), (3, .int (nI i))]) (kk : ∀ (n1 n2 n3 : Nat) (bs1 : List va_W), zInv T xo mo n1 n2 n3 bs1 → ∀ (H1 : Heap) (locs1 : List Loc) (ls1 : Array Slot), zS T A s.heap s bs1 H1 locs1 → lv_has ls1 4 [(0, .ref b), (1, .ref xo), (2, .ref mo), (3, .int (nI i))] → W p l e room_1 s m #[Value.ref b] below meth c H1 locs1 (216 + 2 * i + 12) (27000 + 6 * (n1 + n2) + 2 * n3) Q (F0 m 1767 ls1 [])) : W p l e room_1 s m #[Value.ref b] below meth c H locs (216 + 2 * i) (27000 + 6 * (n4A + n4B) + 2 * m1f) Q (F0 m 188 ls []) := by
  obtain ⟨⟨t, im, mk, rd, po, co, tr, wa, wb_, fi, cd, wt, l0, l1, d0, d1, g0, g1, ln, z0_, z1_, wd0_, wd1_, wg0_, wg1_, rl, rdd, rg, r0, r1, tq, r2, r3, r4, r5, r6, r7, r8, z, wd, wg, wwA, mdA, wwB, mdB, wff, e0f, e1f, wc, cpo, wcp, wr, tpo, wrp, wp, fcd, m0, wta, l0a, l1a, d0a, d1a, g0a, g1a, lna, z0_a, z1_a, wd0_a, wd1_a, wg0_a, wg1_a, m1, wtb, l0b, l1b, d0b, d1b, g0b, g1b, lnb, z0_b, z1_b, wd0_b, wd1_b, wg0_b, wg1_b, m2, wtc, l0c, l1c, d0c, d1c, g0c, g1c, lnc, z0_c, z1_c, wd0_c, wd1_c, wg0_c, wg1_c, qi, fmk, m_all, m_has, i_size, i_next, i_where, i_token, i_number, i_word, i_wrong, i_farCrossing, m_read, i_z0, i_crossings, i_inns, m_posts, m_shut, m_here, i_steps, i_done, i_at, i_gone, m_was, m_came, m_seenAt, m_rowWorth, m_farBy, m_used, i_everywhere, i_again0, i_d0, i_never, i_firstCame, i_longRun, i_moved, i_crowd, i_l0, i_fitMany, i_fitLeast, i_fitMost, m_fitPost, m_fitEnd, m_keptPosts, i_x0, f_all, f_has, f_read, f_posts, f_shut, f_here, f_was, f_came, f_seenAt, f_rowWorth, f_farBy, f_used, f_fitPost, f_fitEnd, f_keptPosts⟩, rfl, H_wt, H_z0_, H_z1_, H_wd0_, H_wd1_, H_wg0_, H_wg1_, H_z, H_wd, H_wg, H_wwA, H_wwB, H_wff, H_wc, H_wcp, H_wr, H_wrp, H_wp, H_wta, H_z0_a, H_z1_a, H_wd0_a, H_wd1_a, H_wg0_a, H_wg1_a, H_wtb, H_z0_b, H_z1_b, H_wd0_b, H_wd1_b, H_wg0_b, H_wg1_b, H_wtc, H_z0_c, H_z1_c, H_wd0_c, H_wd1_c, H_wg0_c, H_wg1_c, hm0, hm1, hm2, h56, hFI, hAI, hRl, hHs⟩ := hI
  replace H_wt : hTold T t l0 l1 d0 d1 g0 g1 ln wt := H_wt
  replace H_z0_ : hLand T l0 z0_ := H_z0_
  replace H_z1_ : hLand T l1 z1_ := H_z1_
  replace H_wd0_ : hDay T d0 wd0_ := H_wd0_
  replace H_wd1_ : hDay T d1 wd1_ := H_wd1_
  replace H_wg0_ : hLog T g0 wg0_ := H_wg0_
  replace H_wg1_ : hLog T g1 wg1_ := H_wg1_
  replace H_z : hLandR T rl z := H_z
  replace H_wd : hDay T rdd wd := H_wd
  replace H_wg : hLog T rg wg := H_wg
  replace H_wwA : hWays T wa mdA n4A l0 wwA := H_wwA
  replace H_wwB : hWays T wb_ mdB n4B l1 wwB := H_wwB
  replace H_wff : hFit T fi e0f e1f m1f wff := H_wff
  replace H_wc : hCourse T co cpo wc := H_wc
  replace H_wcp : hPosts T cpo wcp := H_wcp
  replace H_wr : hTrail T tr tpo wr := H_wr
  replace H_wrp : hPosts T tpo wrp := H_wrp
  replace H_wp : hPosts T po wp := H_wp
  replace H_wta : hTold T m0 l0a l1a d0a d1a g0a g1a lna wta := H_wta
  replace H_z0_a : hLand T l0a z0_a := H_z0_a
  replace H_z1_a : hLand T l1a z1_a := H_z1_a
  replace H_wd0_a : hDay T d0a wd0_a := H_wd0_a
  replace H_wd1_a : hDay T d1a wd1_a := H_wd1_a
  replace H_wg0_a : hLog T g0a wg0_a := H_wg0_a
  replace H_wg1_a : hLog T g1a wg1_a := H_wg1_a
  replace H_wtb : hTold T m1 l0b l1b d0b d1b g0b g1b lnb wtb := H_wtb
  replace H_z0_b : hLand T l0b z0_b := H_z0_b
  replace H_z1_b : hLand T l1b z1_b := H_z1_b
  replace H_wd0_b : hDay T d0b wd0_b := H_wd0_b
  replace H_wd1_b : hDay T d1b wd1_b := H_wd1_b
  replace H_wg0_b : hLog T g0b wg0_b := H_wg0_b
  replace H_wg1_b : hLog T g1b wg1_b := H_wg1_b
  replace H_wtc : hTold T m2 l0c l1c d0c d1c g0c g1c lnc wtc := H_wtc
  replace H_z0_c : hLand T l0c z0_c := H_z0_c
  replace H_z1_c : hLand T l1c z1_c := H_z1_c
  replace H_wd0_c : hDay T d0c wd0_c := H_wd0_c
  replace H_wd1_c : hDay T d1c wd1_c := H_wd1_c
  replace H_wg0_c : hLog T g0c wg0_c := H_wg0_c
  replace H_wg1_c : hLog T g1c wg1_c := H_wg1_c
  replace hm0 : qi 0 = some m0 := hm0
  replace hm1 : qi 1 = some m1 := hm1
  replace hm2 : qi 2 = some m2 := hm2
  replace h56 : ((0 ≤ r5.toInt ∧ r5.toInt ≤ 600) ∧ 0 ≤ r6.toInt ∧ r6.toInt ≤ 1000) := h56
  replace hFI : (¬ e0f = 0 → e1f.toInt = 0 ∧ ¬ mdA = 0 ∨ e1f.toInt = 1 ∧ ¬ mdB = 0) := hFI
  replace hAI : zAI f_all := hAI
  replace hRl : zRl ln lna lnb lnc f_all := hRl
  replace hHs : zHs fmk f_has := hHs
  replace G : zS T A s.heap s [[(xo, .inr (10, [.ref t, .ref im, .ref mk, .ref rd, .ref po, .ref co, .ref tr, .ref wa, .ref wb_, .ref fi, .ref cd]))], wt, z0_, z1_, wd0_, wd1_, wg0_, wg1_, [(rd, .inr (7, [.ref rl, .ref rdd, .ref rg, .int r0, .int r1, .ref tq, .int r2, .int r3, .int r4, .int r5, .int r6, .int r7, .int r8]))], z, wd, wg, wwA, wwB, wff, wc, wcp, wr, wrp, wp, [(cd, .inl (T.2 0, 1000, .inl fcd))], wta, z0_a, z1_a, wd0_a, wd1_a, wg0_a, wg1_a, wtb, z0_b, z1_b, wd0_b, wd1_b, wg0_b, wg1_b, wtc, z0_c, z1_c, wd0_c, wd1_c, wg0_c, wg1_c, [(im, .inl (T.2 6, 3, .inr (.inr (.inr (.inr qi)))))], [(mk, .inl (T.2 2, 3, .inl fmk))], [(mo, .inr (11, [.ref m_all, .ref m_has, .int i_size, .int i_next, .int i_where, .int i_token, .int i_number, .int i_word, .int i_wrong, .int i_farCrossing, .ref m_read, .int i_z0, .int i_crossings, .int i_inns, .ref m_posts, .ref m_shut, .ref m_here, .int i_steps, .int i_done, .int i_at, .int i_gone, .ref m_was, .ref m_came, .ref m_seenAt, .ref m_rowWorth, .ref m_farBy, .ref m_used, .int i_everywhere, .int i_again0, .int i_d0, .int i_never, .int i_firstCame, .int i_longRun, .int i_moved, .int i_crowd, .int i_l0, .int i_fitMany, .int i_fitLeast, .int i_fitMost, .ref m_fitPost, .ref m_fitEnd, .ref m_keptPosts, .int i_x0]))], [(m_all, .inl (T.2 0, 3952, .inl f_all))], [(m_has, .inl (T.2 2, 3, .inl f_has))], [(m_read, .inl (T.2 0, 121, .inl f_read))], [(m_posts, .inl (T.2 0, 7, .inl f_posts))], [(m_shut, .inl (T.2 0, 7, .inl f_shut))], [(m_here, .inl (T.2 0, 7, .inl f_here))], [(m_was, .inl (T.2 0, 7, .inl f_was))], [(m_came, .inl (T.2 0, 7, .inl f_came))], [(m_seenAt, .inl (T.2 0, 16384, .inl f_seenAt))], [(m_rowWorth, .inl (T.2 0, 512, .inl f_rowWorth))], [(m_farBy, .inl (T.2 0, 49, .inl f_farBy))], [(m_used, .inl (T.2 0, 7, .inl f_used))], [(m_fitPost, .inl (T.2 0, 28, .inl f_fitPost))], [(m_fitEnd, .inl (T.2 0, 49, .inl f_fitEnd))], [(m_keptPosts, .inl (T.2 0, 7, .inl f_keptPosts))]] H locs := G
  have hB := zAI_0 hAI
  have hB4 := hB.1
  obtain ⟨hln, hlna, hlnb, hlnc⟩ := zRl_in hAI hRl
  refine lv_aload_n hx hb dL_law_188 rfl (lv_at hl 1 rfl) ?_
  refine lv_aload_n hx hb dL_law_189 rfl (lv_at hl 0 rfl) ?_
  refine lv_iload_n hx hb dL_law_190 rfl (lv_at hl 3 rfl) ?_
  refine lv_iconst (v := 1) hx hb dL_law_191 (by decide) ?_
  refine lv_iadd hx hb dL_law_192 ?_
  refine lv_topi (fun y_1 ey_1 => ?_)
  obtain rfl : y_1 = nI (i + 1) := ey_1.trans (z_iaddn i 1 rfl rfl)
  refine va_sld hx hb hX hbl hbA G.2.2.2.1 (vp_in_nI (by omega) (by omega)) dL_law_193 ?_
  refine lv_topi (fun v_2 ev_2 => ?_)
  rw [nI_clamp (by omega)] at ev_2
  have ev_2 : v_2 = xs (i + 1) := ev_2
  subst ev_2
  refine lv_aload_n hx hb dL_law_194 rfl (lv_at hl 0 rfl) ?_
  refine lv_iload_n hx hb dL_law_195 rfl (lv_at hl 3 rfl) ?_
  refine lv_iconst (v := 2) hx hb dL_law_196 (by decide) ?_
  refine lv_iadd hx hb dL_law_197 ?_
  refine lv_topi (fun y_3 ey_3 => ?_)
  obtain rfl : y_3 = nI (i + 2) := ey_3.trans (z_iaddn i 2 rfl rfl)
  refine va_sld hx hb hX hbl hbA G.2.2.2.1 (vp_in_nI (by omega) (by omega)) dL_law_198 ?_
  refine lv_topi (fun v_4 ev_4 => ?_)
  rw [nI_clamp (by omega)] at ev_4
  have ev_4 : v_4 = xs (i + 2) := ev_4
  subst ev_4
  refine lv_aload_n hx hb dL_law_199 rfl (lv_at hl 0 rfl) ?_
  refine lv_iload_n hx hb dL_law_200 rfl (lv_at hl 3 rfl) ?_
  refine lv_iconst (v := 3) hx hb dL_law_201 (by decide) ?_
  refine lv_iadd hx hb dL_law_202 ?_
  refine lv_topi (fun y_5 ey_5 => ?_)
  obtain rfl : y_5 = nI (i + 3) := ey_5.trans (z_iaddn i 3 rfl rfl)
  refine va_sld hx hb hX hbl hbA G.2.2.2.1 (vp_in_nI (by omega) (by omega)) dL_law_203 ?_
  refine lv_topi (fun v_6 ev_6 => ?_)
  rw [nI_clamp (by omega)] at ev_6
  have ev_6 : v_6 = xs (i + 3) := ev_6
  subst ev_6
  refine lv_aload_n hx hb dL_law_204 rfl (lv_at hl 0 rfl) ?_
  refine lv_iload_n hx hb dL_law_205 rfl (lv_at hl 3 rfl) ?_
  refine lv_iconst (v := 4) hx hb dL_law_206 (by decide) ?_
  refine lv_iadd hx hb dL_law_207 ?_
  refine lv_topi (fun y_7 ey_7 => ?_)
  obtain rfl : y_7 = nI (i + 4) := ey_7.trans (z_iaddn i 4 rfl rfl)
  refine va_sld hx hb hX hbl hbA G.2.2.2.1 (vp_in_nI (by omega) (by omega)) dL_law_208 ?_
  refine lv_topi (fun v_8 ev_8 => ?_)
  rw [nI_clamp (by omega)] at ev_8
  have ev_8 : v_8 = xs (i + 4) := ev_8
  subst ev_8
  refine lv_aload_n hx hb dL_law_209 rfl (lv_at hl 0 rfl) ?_
  refine lv_iload_n hx hb dL_law_210 rfl (lv_at hl 3 rfl) ?_
  refine lv_iconst (v := 5) hx hb dL_law_211 (by decide) ?_
  refine lv_iadd hx hb dL_law_212 ?_
  refine lv_topi (fun y_9 ey_9 => ?_)
  obtain rfl : y_9 = nI (i + 5) := ey_9.trans (z_iaddn i 5 rfl rfl)
  refine va_sld hx hb hX hbl hbA G.2.2.2.1 (vp_in_nI (by omega) (by omega)) dL_law_213 ?_
  refine lv_topi (fun v_10 ev_10 => ?_)
  rw [nI_clamp (by omega)] at ev_10
  have ev_10 : v_10 = xs (i + 5) := ev_10
  subst ev_10
  obtain ⟨v_11, v_12, v_13, v_14, h_15, h_16⟩ := H_wt
  have h_16 : zKT v_14 := h_16
  refine z_Vi (bc := [[(xo, .inr (10, [.ref t, .ref im, .ref mk, .ref rd, .ref po, .ref co, .ref tr, .ref wa, .ref wb_, .ref fi, .ref cd]))], wt]) (br := [z0_, z1_, wd0_, wd1_, wg0_, wg1_, [(rd, .inr (7, [.ref rl, .ref rdd, .ref rg, .int r0, .int r1, .ref tq, .int r2, .int r3, .int r4, .int r5, .int r6, .int r7, .int r8]))], z, wd, wg, wwA, wwB, wff, wc, wcp, wr, wrp, wp, [(cd, .inl (T.2 0, 1000, .inl fcd))], wta, z0_a, z1_a, wd0_a, wd1_a, wg0_a, wg1_a, wtb, z0_b, z1_b, wd0_b, wd1_b, wg0_b, wg1_b, wtc, z0_c, z1_c, wd0_c, wd1_c, wg0_c, wg1_c, [(im, .inl (T.2 6, 3, .inr (.inr (.inr (.inr qi)))))], [(mk, .inl (T.2 2, 3, .inl fmk))], [(mo, .inr (11, [.ref m_all, .ref m_has, .int i_size, .int i_next, .int i_where, .int i_token, .int i_number, .int i_word, .int i_wrong, .int i_farCrossing, .ref m_read, .int i_z0, .int i_crossings, .int i_inns, .ref m_posts, .ref m_shut, .ref m_here, .int i_steps, .int i_done, .int i_at, .int i_gone, .ref m_was, .ref m_came, .ref m_seenAt, .ref m_rowWorth, .ref m_farBy, .ref m_used, .int i_everywhere, .int i_again0, .int i_d0, .int i_never, .int i_firstCame, .int i_longRun, .int i_moved, .int i_crowd, .int i_l0, .int i_fitMany, .int i_fitLeast, .int i_fitMost, .ref m_fitPost, .ref m_fitEnd, .ref m_keptPosts, .int i_x0]))], [(m_all, .inl (T.2 0, 3952, .inl f_all))], [(m_has, .inl (T.2 2, 3, .inl f_has))], [(m_read, .inl (T.2 0, 121, .inl f_read))], [(m_posts, .inl (T.2 0, 7, .inl f_posts))], [(m_shut, .inl (T.2 0, 7, .inl f_shut))], [(m_here, .inl (T.2 0, 7, .inl f_here))], [(m_was, .inl (T.2 0, 7, .inl f_was))], [(m_came, .inl (T.2 0, 7, .inl f_came))], [(m_seenAt, .inl (T.2 0, 16384, .inl f_seenAt))], [(m_rowWorth, .inl (T.2 0, 512, .inl f_rowWorth))], [(m_farBy, .inl (T.2 0, 49, .inl f_farBy))], [(m_used, .inl (T.2 0, 7, .inl f_used))], [(m_fitPost, .inl (T.2 0, 28, .inl f_fitPost))], [(m_fitEnd, .inl (T.2 0, 49, .inl f_fitEnd))], [(m_keptPosts, .inl (T.2 0, 7, .inl f_keptPosts))]]) (As := [.int (xs (i + 1)), .int (xs (i + 2)), .int (xs (i + 3)), .int (xs (i + 4)), .int (xs (i + 5))]) (rest := []) C G (c_feed l T xo t im mk rd po co tr wa wb_ fi cd l0 l1 d0 d1 g0 g1 ln v_11 v_12 v_13 v_14 wt (xs (i + 1)) (xs (i + 2)) (xs (i + 3)) (xs (i + 4)) (xs (i + 5)) h_15 (by first | assumption | omega | rfl) (by first | assumption | omega | rfl)) (kV_RL_13 C.2.2.2.2 (Nat.le_of_ble_eq_true rfl) (Nat.le_of_ble_eq_true rfl)) [0, 1] [2, 3, 4, 5, 6, 7, 8, 9, 10, 11, 12, 13, 14, 15, 16, 17, 18, 19, 20, 21, 22, 23, 24, 25, 26, 27, 28, 29, 30, 31, 32, 33, 34, 35, 36, 37, 38, 39, 40, 41, 42, 43, 44, 45, 46, 47, 48, 49, 50, 51, 52, 53, 54, 55, 56, 57, 58, 59] rfl rfl (ci := 10) (qc := (RX11, TX11, 11)) rfl rfl (List.mem_flatten.mpr ⟨_, List.mem_of_getElem? (i := 0) rfl, List.mem_cons_self⟩) rfl rfl hl.1 dL_law_214 (by show _ + 0 ≤ 600000; omega) (by show _ + 0 ≤ 7302250; omega) (fun r_22 b1 H locs hw G => ?_)
  obtain ⟨wt_17, u_18, g_19, rfl, h_20, h_21⟩ := hw
  have G : zS T A s.heap s [z0_, z1_, wd0_, wd1_, wg0_, wg1_, [(rd, .inr (7, [.ref rl, .ref rdd, .ref rg, .int r0, .int r1, .ref tq, .int r2, .int r3, .int r4, .int r5, .int r6, .int r7, .int r8]))], z, wd, wg, wwA, wwB, wff, wc, wcp, wr, wrp, wp, [(cd, .inl (T.2 0, 1000, .inl fcd))], wta, z0_a, z1_a, wd0_a, wd1_a, wg0_a, wg1_a, wtb, z0_b, z1_b, wd0_b, wd1_b, wg0_b, wg1_b, wtc, z0_c, z1_c, wd0_c, wd1_c, wg0_c, wg1_c, [(im, .inl (T.2 6, 3, .inr (.inr (.inr (.inr qi)))))], [(mk, .inl (T.2 2, 3, .inl fmk))], [(mo, .inr (11, [.ref m_all, .ref m_has, .int i_size, .int i_next, .int i_where, .int i_token, .int i_number, .int i_word, .int i_wrong, .int i_farCrossing, .ref m_read, .int i_z0, .int i_crossings, .int i_inns, .ref m_posts, .ref m_shut, .ref m_here, .int i_steps, .int i_done, .int i_at, .int i_gone, .ref m_was, .ref m_came, .ref m_seenAt, .ref m_rowWorth, .ref m_farBy, .ref m_used, .int i_everywhere, .int i_again0, .int i_d0, .int i_never, .int i_firstCame, .int i_longRun, .int i_moved, .int i_crowd, .int i_l0, .int i_fitMany, .int i_fitLeast, .int i_fitMost, .ref m_fitPost, .ref m_fitEnd, .ref m_keptPosts, .int i_x0]))], [(m_all, .inl (T.2 0, 3952, .inl f_all))], [(m_has, .inl (T.2 2, 3, .inl f_has))], [(m_read, .inl (T.2 0, 121, .inl f_read))], [(m_posts, .inl (T.2 0, 7, .inl f_posts))], [(m_shut, .inl (T.2 0, 7, .inl f_shut))], [(m_here, .inl (T.2 0, 7, .inl f_here))], [(m_was, .inl (T.2 0, 7, .inl f_was))], [(m_came, .inl (T.2 0, 7, .inl f_came))], [(m_seenAt, .inl (T.2 0, 16384, .inl f_seenAt))], [(m_rowWorth, .inl (T.2 0, 512, .inl f_rowWorth))], [(m_farBy, .inl (T.2 0, 49, .inl f_farBy))], [(m_used, .inl (T.2 0, 7, .inl f_used))], [(m_fitPost, .inl (T.2 0, 28, .inl f_fitPost))], [(m_fitEnd, .inl (T.2 0, 49, .inl f_fitEnd))], [(m_keptPosts, .inl (T.2 0, 7, .inl f_keptPosts))], [(xo, .inr (10, [.ref t, .ref im, .ref mk, .ref rd, .ref po, .ref co, .ref tr, .ref wa, .ref wb_, .ref fi, .ref cd]))], wt_17] _ _ := G
  refine lv_aload_n hx hb dL_law_217 rfl (lv_at hl 2 rfl) ?_
  refine lv_aload_n hx hb dL_law_218 rfl (lv_at hl 0 rfl) ?_
  refine lv_iload_n hx hb dL_law_219 rfl (lv_at hl 3 rfl) ?_
  refine lv_iconst (v := 1) hx hb dL_law_220 (by decide) ?_
  refine lv_iadd hx hb dL_law_221 ?_
  refine lv_topi (fun y_23 ey_23 => ?_)
  obtain rfl : y_23 = nI (i + 1) := ey_23.trans (z_iaddn i 1 rfl rfl)
  refine va_sld hx hb hX hbl hbA G.2.2.2.1 (vp_in_nI (by omega) (by omega)) dL_law_222 ?_
  refine lv_topi (fun v_24 ev_24 => ?_)
  rw [nI_clamp (by omega)] at ev_24
  have ev_24 : v_24 = xs (i + 1) := ev_24
  subst ev_24
  refine lv_aload_n hx hb dL_law_223 rfl (lv_at hl 0 rfl) ?_
  refine lv_iload_n hx hb dL_law_224 rfl (lv_at hl 3 rfl) ?_
  refine lv_iconst (v := 2) hx hb dL_law_225 (by decide) ?_
  refine lv_iadd hx hb dL_law_226 ?_
  refine lv_topi (fun y_25 ey_25 => ?_)
  obtain rfl : y_25 = nI (i + 2) := ey_25.trans (z_iaddn i 2 rfl rfl)
  refine va_sld hx hb hX hbl hbA G.2.2.2.1 (vp_in_nI (by omega) (by omega)) dL_law_227 ?_
  refine lv_topi (fun v_26 ev_26 => ?_)
  rw [nI_clamp (by omega)] at ev_26
  have ev_26 : v_26 = xs (i + 2) := ev_26
  subst ev_26
  refine lv_aload_n hx hb dL_law_228 rfl (lv_at hl 0 rfl) ?_
  refine lv_iload_n hx hb dL_law_229 rfl (lv_at hl 3 rfl) ?_
  refine lv_iconst (v := 3) hx hb dL_law_230 (by decide) ?_
  refine lv_iadd hx hb dL_law_231 ?_
  refine lv_topi (fun y_27 ey_27 => ?_)
  obtain rfl : y_27 = nI (i + 3) := ey_27.trans (z_iaddn i 3 rfl rfl)
  refine va_sld hx hb hX hbl hbA G.2.2.2.1 (vp_in_nI (by omega) (by omega)) dL_law_232 ?_
  refine lv_topi (fun v_28 ev_28 => ?_)
  rw [nI_clamp (by omega)] at ev_28
  have ev_28 : v_28 = xs (i + 3) := ev_28
  subst ev_28
  refine lv_aload_n hx hb dL_law_233 rfl (lv_at hl 0 rfl) ?_
  refine lv_iload_n hx hb dL_law_234 rfl (lv_at hl 3 rfl) ?_
  refine lv_iconst (v := 4) hx hb dL_law_235 (by decide) ?_
  refine lv_iadd hx hb dL_law_236 ?_
  refine lv_topi (fun y_29 ey_29 => ?_)
  obtain rfl : y_29 = nI (i + 4) := ey_29.trans (z_iaddn i 4 rfl rfl)
  refine va_sld hx hb hX hbl hbA G.2.2.2.1 (vp_in_nI (by omega) (by omega)) dL_law_237 ?_
  refine lv_topi (fun v_30 ev_30 => ?_)
  rw [nI_clamp (by omega)] at ev_30
  have ev_30 : v_30 = xs (i + 4) := ev_30
  subst ev_30
  refine lv_aload_n hx hb dL_law_238 rfl (lv_at hl 0 rfl) ?_
  refine lv_iload_n hx hb dL_law_239 rfl (lv_at hl 3 rfl) ?_
  refine lv_iconst (v := 5) hx hb dL_law_240 (by decide) ?_
  refine lv_iadd hx hb dL_law_241 ?_
  refine lv_topi (fun y_31 ey_31 => ?_)
  obtain rfl : y_31 = nI (i + 5) := ey_31.trans (z_iaddn i 5 rfl rfl)
  refine va_sld hx hb hX hbl hbA G.2.2.2.1 (vp_in_nI (by omega) (by omega)) dL_law_242 ?_
  refine lv_topi (fun v_32 ev_32 => ?_)
  rw [nI_clamp (by omega)] at ev_32
  have ev_32 : v_32 = xs (i + 5) := ev_32
  subst ev_32
  refine z_Vi (bc := [[(mo, .inr (11, [.ref m_all, .ref m_has, .int i_size, .int i_next, .int i_where, .int i_token, .int i_number, .int i_word, .int i_wrong, .int i_farCrossing, .ref m_read, .int i_z0, .int i_crossings, .int i_inns, .ref m_posts, .ref m_shut, .ref m_here, .int i_steps, .int i_done, .int i_at, .int i_gone, .ref m_was, .ref m_came, .ref m_seenAt, .ref m_rowWorth, .ref m_farBy, .ref m_used, .int i_everywhere, .int i_again0, .int i_d0, .int i_never, .int i_firstCame, .int i_longRun, .int i_moved, .int i_crowd, .int i_l0, .int i_fitMany, .int i_fitLeast, .int i_fitMost, .ref m_fitPost, .ref m_fitEnd, .ref m_keptPosts, .int i_x0]))], [(m_all, .inl (T.2 0, 3952, .inl f_all))]]) (br := [z0_, z1_, wd0_, wd1_, wg0_, wg1_, [(rd, .inr (7, [.ref rl, .ref rdd, .ref rg, .int r0, .int r1, .ref tq, .int r2, .int r3, .int r4, .int r5, .int r6, .int r7, .int r8]))], z, wd, wg, wwA, wwB, wff, wc, wcp, wr, wrp, wp, [(cd, .inl (T.2 0, 1000, .inl fcd))], wta, z0_a, z1_a, wd0_a, wd1_a, wg0_a, wg1_a, wtb, z0_b, z1_b, wd0_b, wd1_b, wg0_b, wg1_b, wtc, z0_c, z1_c, wd0_c, wd1_c, wg0_c, wg1_c, [(im, .inl (T.2 6, 3, .inr (.inr (.inr (.inr qi)))))], [(mk, .inl (T.2 2, 3, .inl fmk))], [(m_has, .inl (T.2 2, 3, .inl f_has))], [(m_read, .inl (T.2 0, 121, .inl f_read))], [(m_posts, .inl (T.2 0, 7, .inl f_posts))], [(m_shut, .inl (T.2 0, 7, .inl f_shut))], [(m_here, .inl (T.2 0, 7, .inl f_here))], [(m_was, .inl (T.2 0, 7, .inl f_was))], [(m_came, .inl (T.2 0, 7, .inl f_came))], [(m_seenAt, .inl (T.2 0, 16384, .inl f_seenAt))], [(m_rowWorth, .inl (T.2 0, 512, .inl f_rowWorth))], [(m_farBy, .inl (T.2 0, 49, .inl f_farBy))], [(m_used, .inl (T.2 0, 7, .inl f_used))], [(m_fitPost, .inl (T.2 0, 28, .inl f_fitPost))], [(m_fitEnd, .inl (T.2 0, 49, .inl f_fitEnd))], [(m_keptPosts, .inl (T.2 0, 7, .inl f_keptPosts))], [(xo, .inr (10, [.ref t, .ref im, .ref mk, .ref rd, .ref po, .ref co, .ref tr, .ref wa, .ref wb_, .ref fi, .ref cd]))], wt_17]) (As := [.int (xs (i + 1)), .int (xs (i + 2)), .int (xs (i + 3)), .int (xs (i + 4)), .int (xs (i + 5))]) (rest := [.int r_22]) C G (c_m_feed l T mo m_all m_has i_size i_next i_where i_token i_number i_word i_wrong i_farCrossing m_read i_z0 i_crossings i_inns m_posts m_shut m_here i_steps i_done i_at i_gone m_was m_came m_seenAt m_rowWorth m_farBy m_used i_everywhere i_again0 i_d0 i_never i_firstCame i_longRun i_moved i_crowd i_l0 i_fitMany i_fitLeast i_fitMost m_fitPost m_fitEnd m_keptPosts i_x0 f_all (xs (i + 1)) (xs (i + 2)) (xs (i + 3)) (xs (i + 4)) (xs (i + 5)) (by first | assumption | omega | rfl)) (kV_RL_17 C.2.2.2.2 (Nat.le_of_ble_eq_true rfl) (Nat.le_of_ble_eq_true rfl)) [42, 43] [0, 1, 2, 3, 4, 5, 6, 7, 8, 9, 10, 11, 12, 13, 14, 15, 16, 17, 18, 19, 20, 21, 22, 23, 24, 25, 26, 27, 28, 29, 30, 31, 32, 33, 34, 35, 36, 37, 38, 39, 40, 41, 44, 45, 46, 47, 48, 49, 50, 51, 52, 53, 54, 55, 56, 57, 58, 59] rfl rfl (ci := 11) (qc := (RX12, TX12, 43)) rfl rfl (List.mem_flatten.mpr ⟨_, List.mem_of_getElem? (i := 0) rfl, List.mem_cons_self⟩) rfl rfl hl.1 dL_law_243 (by show _ + 0 ≤ 600000; omega) (by show _ + 0 ≤ 7302250; omega) (fun r_36 b1 H locs hw G => ?_)
  obtain ⟨g_all_33, rfl, h_34, h_35⟩ := hw
  have G : zS T A s.heap s [z0_, z1_, wd0_, wd1_, wg0_, wg1_, [(rd, .inr (7, [.ref rl, .ref rdd, .ref rg, .int r0, .int r1, .ref tq, .int r2, .int r3, .int r4, .int r5, .int r6, .int r7, .int r8]))], z, wd, wg, wwA, wwB, wff, wc, wcp, wr, wrp, wp, [(cd, .inl (T.2 0, 1000, .inl fcd))], wta, z0_a, z1_a, wd0_a, wd1_a, wg0_a, wg1_a, wtb, z0_b, z1_b, wd0_b, wd1_b, wg0_b, wg1_b, wtc, z0_c, z1_c, wd0_c, wd1_c, wg0_c, wg1_c, [(im, .inl (T.2 6, 3, .inr (.inr (.inr (.inr qi)))))], [(mk, .inl (T.2 2, 3, .inl fmk))], [(m_has, .inl (T.2 2, 3, .inl f_has))], [(m_read, .inl (T.2 0, 121, .inl f_read))], [(m_posts, .inl (T.2 0, 7, .inl f_posts))], [(m_shut, .inl (T.2 0, 7, .inl f_shut))], [(m_here, .inl (T.2 0, 7, .inl f_here))], [(m_was, .inl (T.2 0, 7, .inl f_was))], [(m_came, .inl (T.2 0, 7, .inl f_came))], [(m_seenAt, .inl (T.2 0, 16384, .inl f_seenAt))], [(m_rowWorth, .inl (T.2 0, 512, .inl f_rowWorth))], [(m_farBy, .inl (T.2 0, 49, .inl f_farBy))], [(m_used, .inl (T.2 0, 7, .inl f_used))], [(m_fitPost, .inl (T.2 0, 28, .inl f_fitPost))], [(m_fitEnd, .inl (T.2 0, 49, .inl f_fitEnd))], [(m_keptPosts, .inl (T.2 0, 7, .inl f_keptPosts))], [(xo, .inr (10, [.ref t, .ref im, .ref mk, .ref rd, .ref po, .ref co, .ref tr, .ref wa, .ref wb_, .ref fi, .ref cd]))], wt_17, [(mo, .inr (11, [.ref m_all, .ref m_has, .int i_size, .int i_next, .int i_where, .int i_token, .int i_number, .int i_word, .int i_wrong, .int i_farCrossing, .ref m_read, .int i_z0, .int i_crossings, .int i_inns, .ref m_posts, .ref m_shut, .ref m_here, .int i_steps, .int i_done, .int i_at, .int i_gone, .ref m_was, .ref m_came, .ref m_seenAt, .ref m_rowWorth, .ref m_farBy, .ref m_used, .int i_everywhere, .int i_again0, .int i_d0, .int i_never, .int i_firstCame, .int i_longRun, .int i_moved, .int i_crowd, .int i_l0, .int i_fitMany, .int i_fitLeast, .int i_fitMost, .ref m_fitPost, .ref m_fitEnd, .ref m_keptPosts, .int i_x0]))], [(m_all, .inl (T.2 0, 3952, .inl g_all_33))]] _ _ := G
  obtain ⟨heq, hAI2, hRl2, hin2⟩ := zL_feed hAI hRl h_21 h_34 h_35
  refine lv_icmp_eq (tgt := 1767) hx hb dL_law_246 (by decide) (fun _ => ?_) (fun q => absurd heq q)
  have G := G.sub (bs' := [[(xo, .inr (10, [.ref t, .ref im, .ref mk, .ref rd, .ref po, .ref co, .ref tr, .ref wa, .ref wb_, .ref fi, .ref cd]))], wt_17, z0_, z1_, wd0_, wd1_, wg0_, wg1_, [(rd, .inr (7, [.ref rl, .ref rdd, .ref rg, .int r0, .int r1, .ref tq, .int r2, .int r3, .int r4, .int r5, .int r6, .int r7, .int r8]))], z, wd, wg, wwA, wwB, wff, wc, wcp, wr, wrp, wp, [(cd, .inl (T.2 0, 1000, .inl fcd))], wta, z0_a, z1_a, wd0_a, wd1_a, wg0_a, wg1_a, wtb, z0_b, z1_b, wd0_b, wd1_b, wg0_b, wg1_b, wtc, z0_c, z1_c, wd0_c, wd1_c, wg0_c, wg1_c, [(im, .inl (T.2 6, 3, .inr (.inr (.inr (.inr qi)))))], [(mk, .inl (T.2 2, 3, .inl fmk))], [(mo, .inr (11, [.ref m_all, .ref m_has, .int i_size, .int i_next, .int i_where, .int i_token, .int i_number, .int i_word, .int i_wrong, .int i_farCrossing, .ref m_read, .int i_z0, .int i_crossings, .int i_inns, .ref m_posts, .ref m_shut, .ref m_here, .int i_steps, .int i_done, .int i_at, .int i_gone, .ref m_was, .ref m_came, .ref m_seenAt, .ref m_rowWorth, .ref m_farBy, .ref m_used, .int i_everywhere, .int i_again0, .int i_d0, .int i_never, .int i_firstCame, .int i_longRun, .int i_moved, .int i_crowd, .int i_l0, .int i_fitMany, .int i_fitLeast, .int i_fitMost, .ref m_fitPost, .ref m_fitEnd, .ref m_keptPosts, .int i_x0]))], [(m_all, .inl (T.2 0, 3952, .inl g_all_33))], [(m_has, .inl (T.2 2, 3, .inl f_has))], [(m_read, .inl (T.2 0, 121, .inl f_read))], [(m_posts, .inl (T.2 0, 7, .inl f_posts))], [(m_shut, .inl (T.2 0, 7, .inl f_shut))], [(m_here, .inl (T.2 0, 7, .inl f_here))], [(m_was, .inl (T.2 0, 7, .inl f_was))], [(m_came, .inl (T.2 0, 7, .inl f_came))], [(m_seenAt, .inl (T.2 0, 16384, .inl f_seenAt))], [(m_rowWorth, .inl (T.2 0, 512, .inl f_rowWorth))], [(m_farBy, .inl (T.2 0, 49, .inl f_farBy))], [(m_used, .inl (T.2 0, 7, .inl f_used))], [(m_fitPost, .inl (T.2 0, 28, .inl f_fitPost))], [(m_fitEnd, .inl (T.2 0, 49, .inl f_fitEnd))], [(m_keptPosts, .inl (T.2 0, 7, .inl f_keptPosts))]]) [56, 57, 0, 1, 2, 3, 4, 5, 6, 7, 8, 9, 10, 11, 12, 13, 14, 15, 16, 17, 18, 19, 20, 21, 22, 23, 24, 25, 26, 27, 28, 29, 30, 31, 32, 33, 34, 35, 36, 37, 38, 39, 40, 41, 58, 59, 42, 43, 44, 45, 46, 47, 48, 49, 50, 51, 52, 53, 54, 55] rfl
  refine W.widen (k := 216 + 2 * i + 12) (n := 27000 + 6 * (n4A + n4B) + 2 * m1f) (by omega) (by omega) ?_
  exact kk n4A n4B m1f _ ⟨⟨t, im, mk, rd, po, co, tr, wa, wb_, fi, cd, wt_17, l0, l1, d0, d1, g0, g1, u_18, z0_, z1_, wd0_, wd1_, wg0_, wg1_, rl, rdd, rg, r0, r1, tq, r2, r3, r4, r5, r6, r7, r8, z, wd, wg, wwA, mdA, wwB, mdB, wff, e0f, e1f, wc, cpo, wcp, wr, tpo, wrp, wp, fcd, m0, wta, l0a, l1a, d0a, d1a, g0a, g1a, lna, z0_a, z1_a, wd0_a, wd1_a, wg0_a, wg1_a, m1, wtb, l0b, l1b, d0b, d1b, g0b, g1b, lnb, z0_b, z1_b, wd0_b, wd1_b, wg0_b, wg1_b, m2, wtc, l0c, l1c, d0c, d1c, g0c, g1c, lnc, z0_c, z1_c, wd0_c, wd1_c, wg0_c, wg1_c, qi, fmk, m_all, m_has, i_size, i_next, i_where, i_token, i_number, i_word, i_wrong, i_farCrossing, m_read, i_z0, i_crossings, i_inns, m_posts, m_shut, m_here, i_steps, i_done, i_at, i_gone, m_was, m_came, m_seenAt, m_rowWorth, m_farBy, m_used, i_everywhere, i_again0, i_d0, i_never, i_firstCame, i_longRun, i_moved, i_crowd, i_l0, i_fitMany, i_fitLeast, i_fitMost, m_fitPost, m_fitEnd, m_keptPosts, i_x0, g_all_33, f_has, f_read, f_posts, f_shut, f_here, f_was, f_came, f_seenAt, f_rowWorth, f_farBy, f_used, f_fitPost, f_fitEnd, f_keptPosts⟩, rfl, ⟨v_11, v_12, g_19, v_14, h_20, (by first | assumption | omega)⟩, H_z0_, H_z1_, H_wd0_, H_wd1_, H_wg0_, H_wg1_, H_z, H_wd, H_wg, H_wwA, H_wwB, H_wff, H_wc, H_wcp, H_wr, H_wrp, H_wp, H_wta, H_z0_a, H_z1_a, H_wd0_a, H_wd1_a, H_wg0_a, H_wg1_a, H_wtb, H_z0_b, H_z1_b, H_wd0_b, H_wd1_b, H_wg0_b, H_wg1_b, H_wtc, H_z0_c, H_z1_c, H_wd0_c, H_wd1_c, H_wg0_c, H_wg1_c, (by first | assumption | omega), (by first | assumption | omega), (by first | assumption | omega), (by first | assumption | omega), (by first | assumption | omega), (by first | assumption | omega), (by first | assumption | omega), (by first | assumption | omega)⟩ _ _ ls G (lv_sub hl [0, 1, 2, 3] rfl)
set_option maxHeartbeats 40000000 in
set_option maxRecDepth 100000 in
theorem z_case_end (l : Launch) {p : Program} {e : Env} {s : State} {m : MethodId} {b : Nat} {below : List Frame} {meth : Method} {c : Code} {Q : State → Prop} {T : zTy} {A : Nat → Prop} {L i : Nat} {xs : Nat → Int32} (hx : p.tables.exec = Jvm.exec) (hb : c.code = cL_law) (C : CallFix p m c cL_law 4 s #[Value.ref b] zT RL) (hX : va_X b L xs s s.heap) (hbl : b < s.heap.size) (hbA : ¬ A b) (hL : L ≤ 3072) (hi6 : i + 6 ≤ L) {xo mo n4A n4B m1f : Nat} (hnA : n4A ≤ 131072) (hnB : n4B ≤ 131072) (hmf : m1f ≤ 16384) {bs : List va_W} (hI : zInv T xo mo n4A n4B m1f bs) {H : Heap} {locs : List Loc} {ls : Array Slot} (G : zS T A s.heap s bs H locs) (hl : lv_has ls 4 [(0, .ref b), (1, .ref xo), (2, .ref mo), (3, .int (nI i))]) (kk : ∀ (n1 n2 n3 : Nat) (bs1 : List va_W), zInv T xo mo n1 n2 n3 bs1 → ∀ (H1 : Heap) (locs1 : List Loc) (ls1 : Array Slot), zS T A s.heap s bs1 H1 locs1 → lv_has ls1 4 [(0, .ref b), (1, .ref xo), (2, .ref mo), (3, .int (nI i))] → W p l e room_1 s m #[Value.ref b] below meth c H1 locs1 (216 + 2 * i + 12) (27000 + 6 * (n1 + n2) + 2 * n3) Q (F0 m 1767 ls1 [])) : W p l e room_1 s m #[Value.ref b] below meth c H locs (216 + 2 * i) (27000 + 6 * (n4A + n4B) + 2 * m1f) Q (F0 m 251 ls []) := by
  obtain ⟨⟨t, im, mk, rd, po, co, tr, wa, wb_, fi, cd, wt, l0, l1, d0, d1, g0, g1, ln, z0_, z1_, wd0_, wd1_, wg0_, wg1_, rl, rdd, rg, r0, r1, tq, r2, r3, r4, r5, r6, r7, r8, z, wd, wg, wwA, mdA, wwB, mdB, wff, e0f, e1f, wc, cpo, wcp, wr, tpo, wrp, wp, fcd, m0, wta, l0a, l1a, d0a, d1a, g0a, g1a, lna, z0_a, z1_a, wd0_a, wd1_a, wg0_a, wg1_a, m1, wtb, l0b, l1b, d0b, d1b, g0b, g1b, lnb, z0_b, z1_b, wd0_b, wd1_b, wg0_b, wg1_b, m2, wtc, l0c, l1c, d0c, d1c, g0c, g1c, lnc, z0_c, z1_c, wd0_c, wd1_c, wg0_c, wg1_c, qi, fmk, m_all, m_has, i_size, i_next, i_where, i_token, i_number, i_word, i_wrong, i_farCrossing, m_read, i_z0, i_crossings, i_inns, m_posts, m_shut, m_here, i_steps, i_done, i_at, i_gone, m_was, m_came, m_seenAt, m_rowWorth, m_farBy, m_used, i_everywhere, i_again0, i_d0, i_never, i_firstCame, i_longRun, i_moved, i_crowd, i_l0, i_fitMany, i_fitLeast, i_fitMost, m_fitPost, m_fitEnd, m_keptPosts, i_x0, f_all, f_has, f_read, f_posts, f_shut, f_here, f_was, f_came, f_seenAt, f_rowWorth, f_farBy, f_used, f_fitPost, f_fitEnd, f_keptPosts⟩, rfl, H_wt, H_z0_, H_z1_, H_wd0_, H_wd1_, H_wg0_, H_wg1_, H_z, H_wd, H_wg, H_wwA, H_wwB, H_wff, H_wc, H_wcp, H_wr, H_wrp, H_wp, H_wta, H_z0_a, H_z1_a, H_wd0_a, H_wd1_a, H_wg0_a, H_wg1_a, H_wtb, H_z0_b, H_z1_b, H_wd0_b, H_wd1_b, H_wg0_b, H_wg1_b, H_wtc, H_z0_c, H_z1_c, H_wd0_c, H_wd1_c, H_wg0_c, H_wg1_c, hm0, hm1, hm2, h56, hFI, hAI, hRl, hHs⟩ := hI
  replace H_wt : hTold T t l0 l1 d0 d1 g0 g1 ln wt := H_wt
  replace H_z0_ : hLand T l0 z0_ := H_z0_
  replace H_z1_ : hLand T l1 z1_ := H_z1_
  replace H_wd0_ : hDay T d0 wd0_ := H_wd0_
  replace H_wd1_ : hDay T d1 wd1_ := H_wd1_
  replace H_wg0_ : hLog T g0 wg0_ := H_wg0_
  replace H_wg1_ : hLog T g1 wg1_ := H_wg1_
  replace H_z : hLandR T rl z := H_z
  replace H_wd : hDay T rdd wd := H_wd
  replace H_wg : hLog T rg wg := H_wg
  replace H_wwA : hWays T wa mdA n4A l0 wwA := H_wwA
  replace H_wwB : hWays T wb_ mdB n4B l1 wwB := H_wwB
  replace H_wff : hFit T fi e0f e1f m1f wff := H_wff
  replace H_wc : hCourse T co cpo wc := H_wc
  replace H_wcp : hPosts T cpo wcp := H_wcp
  replace H_wr : hTrail T tr tpo wr := H_wr
  replace H_wrp : hPosts T tpo wrp := H_wrp
  replace H_wp : hPosts T po wp := H_wp
  replace H_wta : hTold T m0 l0a l1a d0a d1a g0a g1a lna wta := H_wta
  replace H_z0_a : hLand T l0a z0_a := H_z0_a
  replace H_z1_a : hLand T l1a z1_a := H_z1_a
  replace H_wd0_a : hDay T d0a wd0_a := H_wd0_a
  replace H_wd1_a : hDay T d1a wd1_a := H_wd1_a
  replace H_wg0_a : hLog T g0a wg0_a := H_wg0_a
  replace H_wg1_a : hLog T g1a wg1_a := H_wg1_a
  replace H_wtb : hTold T m1 l0b l1b d0b d1b g0b g1b lnb wtb := H_wtb
  replace H_z0_b : hLand T l0b z0_b := H_z0_b
  replace H_z1_b : hLand T l1b z1_b := H_z1_b
  replace H_wd0_b : hDay T d0b wd0_b := H_wd0_b
  replace H_wd1_b : hDay T d1b wd1_b := H_wd1_b
  replace H_wg0_b : hLog T g0b wg0_b := H_wg0_b
  replace H_wg1_b : hLog T g1b wg1_b := H_wg1_b
  replace H_wtc : hTold T m2 l0c l1c d0c d1c g0c g1c lnc wtc := H_wtc
  replace H_z0_c : hLand T l0c z0_c := H_z0_c
  replace H_z1_c : hLand T l1c z1_c := H_z1_c
  replace H_wd0_c : hDay T d0c wd0_c := H_wd0_c
  replace H_wd1_c : hDay T d1c wd1_c := H_wd1_c
  replace H_wg0_c : hLog T g0c wg0_c := H_wg0_c
  replace H_wg1_c : hLog T g1c wg1_c := H_wg1_c
  replace hm0 : qi 0 = some m0 := hm0
  replace hm1 : qi 1 = some m1 := hm1
  replace hm2 : qi 2 = some m2 := hm2
  replace h56 : ((0 ≤ r5.toInt ∧ r5.toInt ≤ 600) ∧ 0 ≤ r6.toInt ∧ r6.toInt ≤ 1000) := h56
  replace hFI : (¬ e0f = 0 → e1f.toInt = 0 ∧ ¬ mdA = 0 ∨ e1f.toInt = 1 ∧ ¬ mdB = 0) := hFI
  replace hAI : zAI f_all := hAI
  replace hRl : zRl ln lna lnb lnc f_all := hRl
  replace hHs : zHs fmk f_has := hHs
  replace G : zS T A s.heap s [[(xo, .inr (10, [.ref t, .ref im, .ref mk, .ref rd, .ref po, .ref co, .ref tr, .ref wa, .ref wb_, .ref fi, .ref cd]))], wt, z0_, z1_, wd0_, wd1_, wg0_, wg1_, [(rd, .inr (7, [.ref rl, .ref rdd, .ref rg, .int r0, .int r1, .ref tq, .int r2, .int r3, .int r4, .int r5, .int r6, .int r7, .int r8]))], z, wd, wg, wwA, wwB, wff, wc, wcp, wr, wrp, wp, [(cd, .inl (T.2 0, 1000, .inl fcd))], wta, z0_a, z1_a, wd0_a, wd1_a, wg0_a, wg1_a, wtb, z0_b, z1_b, wd0_b, wd1_b, wg0_b, wg1_b, wtc, z0_c, z1_c, wd0_c, wd1_c, wg0_c, wg1_c, [(im, .inl (T.2 6, 3, .inr (.inr (.inr (.inr qi)))))], [(mk, .inl (T.2 2, 3, .inl fmk))], [(mo, .inr (11, [.ref m_all, .ref m_has, .int i_size, .int i_next, .int i_where, .int i_token, .int i_number, .int i_word, .int i_wrong, .int i_farCrossing, .ref m_read, .int i_z0, .int i_crossings, .int i_inns, .ref m_posts, .ref m_shut, .ref m_here, .int i_steps, .int i_done, .int i_at, .int i_gone, .ref m_was, .ref m_came, .ref m_seenAt, .ref m_rowWorth, .ref m_farBy, .ref m_used, .int i_everywhere, .int i_again0, .int i_d0, .int i_never, .int i_firstCame, .int i_longRun, .int i_moved, .int i_crowd, .int i_l0, .int i_fitMany, .int i_fitLeast, .int i_fitMost, .ref m_fitPost, .ref m_fitEnd, .ref m_keptPosts, .int i_x0]))], [(m_all, .inl (T.2 0, 3952, .inl f_all))], [(m_has, .inl (T.2 2, 3, .inl f_has))], [(m_read, .inl (T.2 0, 121, .inl f_read))], [(m_posts, .inl (T.2 0, 7, .inl f_posts))], [(m_shut, .inl (T.2 0, 7, .inl f_shut))], [(m_here, .inl (T.2 0, 7, .inl f_here))], [(m_was, .inl (T.2 0, 7, .inl f_was))], [(m_came, .inl (T.2 0, 7, .inl f_came))], [(m_seenAt, .inl (T.2 0, 16384, .inl f_seenAt))], [(m_rowWorth, .inl (T.2 0, 512, .inl f_rowWorth))], [(m_farBy, .inl (T.2 0, 49, .inl f_farBy))], [(m_used, .inl (T.2 0, 7, .inl f_used))], [(m_fitPost, .inl (T.2 0, 28, .inl f_fitPost))], [(m_fitEnd, .inl (T.2 0, 49, .inl f_fitEnd))], [(m_keptPosts, .inl (T.2 0, 7, .inl f_keptPosts))]] H locs := G
  have hB := zAI_0 hAI
  have hB4 := hB.1
  obtain ⟨hln, hlna, hlnb, hlnc⟩ := zRl_in hAI hRl
  refine lv_aload_n hx hb dL_law_251 rfl (lv_at hl 1 rfl) ?_
  refine lv_aload_n hx hb dL_law_252 rfl (lv_at hl 0 rfl) ?_
  refine lv_iload_n hx hb dL_law_253 rfl (lv_at hl 3 rfl) ?_
  refine lv_iconst (v := 1) hx hb dL_law_254 (by decide) ?_
  refine lv_iadd hx hb dL_law_255 ?_
  refine lv_topi (fun y_1 ey_1 => ?_)
  obtain rfl : y_1 = nI (i + 1) := ey_1.trans (z_iaddn i 1 rfl rfl)
  refine va_sld hx hb hX hbl hbA G.2.2.2.1 (vp_in_nI (by omega) (by omega)) dL_law_256 ?_
  refine lv_topi (fun v_2 ev_2 => ?_)
  rw [nI_clamp (by omega)] at ev_2
  have ev_2 : v_2 = xs (i + 1) := ev_2
  subst ev_2
  obtain ⟨v_3, v_4, v_5, v_6, h_7, h_8⟩ := H_wt
  have h_8 : zKT v_6 := h_8
  refine z_Vi (bc := [[(xo, .inr (10, [.ref t, .ref im, .ref mk, .ref rd, .ref po, .ref co, .ref tr, .ref wa, .ref wb_, .ref fi, .ref cd]))], wt]) (br := [z0_, z1_, wd0_, wd1_, wg0_, wg1_, [(rd, .inr (7, [.ref rl, .ref rdd, .ref rg, .int r0, .int r1, .ref tq, .int r2, .int r3, .int r4, .int r5, .int r6, .int r7, .int r8]))], z, wd, wg, wwA, wwB, wff, wc, wcp, wr, wrp, wp, [(cd, .inl (T.2 0, 1000, .inl fcd))], wta, z0_a, z1_a, wd0_a, wd1_a, wg0_a, wg1_a, wtb, z0_b, z1_b, wd0_b, wd1_b, wg0_b, wg1_b, wtc, z0_c, z1_c, wd0_c, wd1_c, wg0_c, wg1_c, [(im, .inl (T.2 6, 3, .inr (.inr (.inr (.inr qi)))))], [(mk, .inl (T.2 2, 3, .inl fmk))], [(mo, .inr (11, [.ref m_all, .ref m_has, .int i_size, .int i_next, .int i_where, .int i_token, .int i_number, .int i_word, .int i_wrong, .int i_farCrossing, .ref m_read, .int i_z0, .int i_crossings, .int i_inns, .ref m_posts, .ref m_shut, .ref m_here, .int i_steps, .int i_done, .int i_at, .int i_gone, .ref m_was, .ref m_came, .ref m_seenAt, .ref m_rowWorth, .ref m_farBy, .ref m_used, .int i_everywhere, .int i_again0, .int i_d0, .int i_never, .int i_firstCame, .int i_longRun, .int i_moved, .int i_crowd, .int i_l0, .int i_fitMany, .int i_fitLeast, .int i_fitMost, .ref m_fitPost, .ref m_fitEnd, .ref m_keptPosts, .int i_x0]))], [(m_all, .inl (T.2 0, 3952, .inl f_all))], [(m_has, .inl (T.2 2, 3, .inl f_has))], [(m_read, .inl (T.2 0, 121, .inl f_read))], [(m_posts, .inl (T.2 0, 7, .inl f_posts))], [(m_shut, .inl (T.2 0, 7, .inl f_shut))], [(m_here, .inl (T.2 0, 7, .inl f_here))], [(m_was, .inl (T.2 0, 7, .inl f_was))], [(m_came, .inl (T.2 0, 7, .inl f_came))], [(m_seenAt, .inl (T.2 0, 16384, .inl f_seenAt))], [(m_rowWorth, .inl (T.2 0, 512, .inl f_rowWorth))], [(m_farBy, .inl (T.2 0, 49, .inl f_farBy))], [(m_used, .inl (T.2 0, 7, .inl f_used))], [(m_fitPost, .inl (T.2 0, 28, .inl f_fitPost))], [(m_fitEnd, .inl (T.2 0, 49, .inl f_fitEnd))], [(m_keptPosts, .inl (T.2 0, 7, .inl f_keptPosts))]]) (As := [.int (xs (i + 1))]) (rest := []) C G (c_end l T xo t im mk rd po co tr wa wb_ fi cd l0 l1 d0 d1 g0 g1 ln v_3 v_4 v_5 v_6 wt (xs (i + 1)) h_7 (by first | assumption | omega | rfl)) (kV_RL_18 C.2.2.2.2 (Nat.le_of_ble_eq_true rfl) (Nat.le_of_ble_eq_true rfl)) [0, 1] [2, 3, 4, 5, 6, 7, 8, 9, 10, 11, 12, 13, 14, 15, 16, 17, 18, 19, 20, 21, 22, 23, 24, 25, 26, 27, 28, 29, 30, 31, 32, 33, 34, 35, 36, 37, 38, 39, 40, 41, 42, 43, 44, 45, 46, 47, 48, 49, 50, 51, 52, 53, 54, 55, 56, 57, 58, 59] rfl rfl (ci := 10) (qc := (RX11, TX11, 11)) rfl rfl (List.mem_flatten.mpr ⟨_, List.mem_of_getElem? (i := 0) rfl, List.mem_cons_self⟩) rfl rfl hl.1 dL_law_257 (by show _ + 0 ≤ 600000; omega) (by show _ + 0 ≤ 7302250; omega) (fun r_13 b1 H locs hw G => ?_)
  obtain ⟨wt_9, u_10, rfl, h_11, h_12⟩ := hw
  have G : zS T A s.heap s [z0_, z1_, wd0_, wd1_, wg0_, wg1_, [(rd, .inr (7, [.ref rl, .ref rdd, .ref rg, .int r0, .int r1, .ref tq, .int r2, .int r3, .int r4, .int r5, .int r6, .int r7, .int r8]))], z, wd, wg, wwA, wwB, wff, wc, wcp, wr, wrp, wp, [(cd, .inl (T.2 0, 1000, .inl fcd))], wta, z0_a, z1_a, wd0_a, wd1_a, wg0_a, wg1_a, wtb, z0_b, z1_b, wd0_b, wd1_b, wg0_b, wg1_b, wtc, z0_c, z1_c, wd0_c, wd1_c, wg0_c, wg1_c, [(im, .inl (T.2 6, 3, .inr (.inr (.inr (.inr qi)))))], [(mk, .inl (T.2 2, 3, .inl fmk))], [(mo, .inr (11, [.ref m_all, .ref m_has, .int i_size, .int i_next, .int i_where, .int i_token, .int i_number, .int i_word, .int i_wrong, .int i_farCrossing, .ref m_read, .int i_z0, .int i_crossings, .int i_inns, .ref m_posts, .ref m_shut, .ref m_here, .int i_steps, .int i_done, .int i_at, .int i_gone, .ref m_was, .ref m_came, .ref m_seenAt, .ref m_rowWorth, .ref m_farBy, .ref m_used, .int i_everywhere, .int i_again0, .int i_d0, .int i_never, .int i_firstCame, .int i_longRun, .int i_moved, .int i_crowd, .int i_l0, .int i_fitMany, .int i_fitLeast, .int i_fitMost, .ref m_fitPost, .ref m_fitEnd, .ref m_keptPosts, .int i_x0]))], [(m_all, .inl (T.2 0, 3952, .inl f_all))], [(m_has, .inl (T.2 2, 3, .inl f_has))], [(m_read, .inl (T.2 0, 121, .inl f_read))], [(m_posts, .inl (T.2 0, 7, .inl f_posts))], [(m_shut, .inl (T.2 0, 7, .inl f_shut))], [(m_here, .inl (T.2 0, 7, .inl f_here))], [(m_was, .inl (T.2 0, 7, .inl f_was))], [(m_came, .inl (T.2 0, 7, .inl f_came))], [(m_seenAt, .inl (T.2 0, 16384, .inl f_seenAt))], [(m_rowWorth, .inl (T.2 0, 512, .inl f_rowWorth))], [(m_farBy, .inl (T.2 0, 49, .inl f_farBy))], [(m_used, .inl (T.2 0, 7, .inl f_used))], [(m_fitPost, .inl (T.2 0, 28, .inl f_fitPost))], [(m_fitEnd, .inl (T.2 0, 49, .inl f_fitEnd))], [(m_keptPosts, .inl (T.2 0, 7, .inl f_keptPosts))], [(xo, .inr (10, [.ref t, .ref im, .ref mk, .ref rd, .ref po, .ref co, .ref tr, .ref wa, .ref wb_, .ref fi, .ref cd]))], wt_9] _ _ := G
  refine lv_pop hx hb dL_law_260 rfl ?_
  refine lv_aload_n hx hb dL_law_261 rfl (lv_at hl 2 rfl) ?_
  refine lv_aload_n hx hb dL_law_262 rfl (lv_at hl 0 rfl) ?_
  refine lv_iload_n hx hb dL_law_263 rfl (lv_at hl 3 rfl) ?_
  refine lv_iconst (v := 1) hx hb dL_law_264 (by decide) ?_
  refine lv_iadd hx hb dL_law_265 ?_
  refine lv_topi (fun y_14 ey_14 => ?_)
  obtain rfl : y_14 = nI (i + 1) := ey_14.trans (z_iaddn i 1 rfl rfl)
  refine va_sld hx hb hX hbl hbA G.2.2.2.1 (vp_in_nI (by omega) (by omega)) dL_law_266 ?_
  refine lv_topi (fun v_15 ev_15 => ?_)
  rw [nI_clamp (by omega)] at ev_15
  have ev_15 : v_15 = xs (i + 1) := ev_15
  subst ev_15
  refine z_Vi (bc := [[(mo, .inr (11, [.ref m_all, .ref m_has, .int i_size, .int i_next, .int i_where, .int i_token, .int i_number, .int i_word, .int i_wrong, .int i_farCrossing, .ref m_read, .int i_z0, .int i_crossings, .int i_inns, .ref m_posts, .ref m_shut, .ref m_here, .int i_steps, .int i_done, .int i_at, .int i_gone, .ref m_was, .ref m_came, .ref m_seenAt, .ref m_rowWorth, .ref m_farBy, .ref m_used, .int i_everywhere, .int i_again0, .int i_d0, .int i_never, .int i_firstCame, .int i_longRun, .int i_moved, .int i_crowd, .int i_l0, .int i_fitMany, .int i_fitLeast, .int i_fitMost, .ref m_fitPost, .ref m_fitEnd, .ref m_keptPosts, .int i_x0]))], [(m_all, .inl (T.2 0, 3952, .inl f_all))]]) (br := [z0_, z1_, wd0_, wd1_, wg0_, wg1_, [(rd, .inr (7, [.ref rl, .ref rdd, .ref rg, .int r0, .int r1, .ref tq, .int r2, .int r3, .int r4, .int r5, .int r6, .int r7, .int r8]))], z, wd, wg, wwA, wwB, wff, wc, wcp, wr, wrp, wp, [(cd, .inl (T.2 0, 1000, .inl fcd))], wta, z0_a, z1_a, wd0_a, wd1_a, wg0_a, wg1_a, wtb, z0_b, z1_b, wd0_b, wd1_b, wg0_b, wg1_b, wtc, z0_c, z1_c, wd0_c, wd1_c, wg0_c, wg1_c, [(im, .inl (T.2 6, 3, .inr (.inr (.inr (.inr qi)))))], [(mk, .inl (T.2 2, 3, .inl fmk))], [(m_has, .inl (T.2 2, 3, .inl f_has))], [(m_read, .inl (T.2 0, 121, .inl f_read))], [(m_posts, .inl (T.2 0, 7, .inl f_posts))], [(m_shut, .inl (T.2 0, 7, .inl f_shut))], [(m_here, .inl (T.2 0, 7, .inl f_here))], [(m_was, .inl (T.2 0, 7, .inl f_was))], [(m_came, .inl (T.2 0, 7, .inl f_came))], [(m_seenAt, .inl (T.2 0, 16384, .inl f_seenAt))], [(m_rowWorth, .inl (T.2 0, 512, .inl f_rowWorth))], [(m_farBy, .inl (T.2 0, 49, .inl f_farBy))], [(m_used, .inl (T.2 0, 7, .inl f_used))], [(m_fitPost, .inl (T.2 0, 28, .inl f_fitPost))], [(m_fitEnd, .inl (T.2 0, 49, .inl f_fitEnd))], [(m_keptPosts, .inl (T.2 0, 7, .inl f_keptPosts))], [(xo, .inr (10, [.ref t, .ref im, .ref mk, .ref rd, .ref po, .ref co, .ref tr, .ref wa, .ref wb_, .ref fi, .ref cd]))], wt_9]) (As := [.int (xs (i + 1))]) (rest := []) C G (c_m_end l T mo m_all m_has i_size i_next i_where i_token i_number i_word i_wrong i_farCrossing m_read i_z0 i_crossings i_inns m_posts m_shut m_here i_steps i_done i_at i_gone m_was m_came m_seenAt m_rowWorth m_farBy m_used i_everywhere i_again0 i_d0 i_never i_firstCame i_longRun i_moved i_crowd i_l0 i_fitMany i_fitLeast i_fitMost m_fitPost m_fitEnd m_keptPosts i_x0 f_all (xs (i + 1))) (kV_RL_22 C.2.2.2.2 (Nat.le_of_ble_eq_true rfl) (Nat.le_of_ble_eq_true rfl)) [42, 43] [0, 1, 2, 3, 4, 5, 6, 7, 8, 9, 10, 11, 12, 13, 14, 15, 16, 17, 18, 19, 20, 21, 22, 23, 24, 25, 26, 27, 28, 29, 30, 31, 32, 33, 34, 35, 36, 37, 38, 39, 40, 41, 44, 45, 46, 47, 48, 49, 50, 51, 52, 53, 54, 55, 56, 57, 58, 59] rfl rfl (ci := 11) (qc := (RX12, TX12, 43)) rfl rfl (List.mem_flatten.mpr ⟨_, List.mem_of_getElem? (i := 0) rfl, List.mem_cons_self⟩) rfl rfl hl.1 dL_law_267 (by show _ + 0 ≤ 600000; omega) (by show _ + 0 ≤ 7302250; omega) (fun r_18 b1 H locs hw G => ?_)
  obtain ⟨g_all_16, rfl, h_17⟩ := hw
  have G : zS T A s.heap s [z0_, z1_, wd0_, wd1_, wg0_, wg1_, [(rd, .inr (7, [.ref rl, .ref rdd, .ref rg, .int r0, .int r1, .ref tq, .int r2, .int r3, .int r4, .int r5, .int r6, .int r7, .int r8]))], z, wd, wg, wwA, wwB, wff, wc, wcp, wr, wrp, wp, [(cd, .inl (T.2 0, 1000, .inl fcd))], wta, z0_a, z1_a, wd0_a, wd1_a, wg0_a, wg1_a, wtb, z0_b, z1_b, wd0_b, wd1_b, wg0_b, wg1_b, wtc, z0_c, z1_c, wd0_c, wd1_c, wg0_c, wg1_c, [(im, .inl (T.2 6, 3, .inr (.inr (.inr (.inr qi)))))], [(mk, .inl (T.2 2, 3, .inl fmk))], [(m_has, .inl (T.2 2, 3, .inl f_has))], [(m_read, .inl (T.2 0, 121, .inl f_read))], [(m_posts, .inl (T.2 0, 7, .inl f_posts))], [(m_shut, .inl (T.2 0, 7, .inl f_shut))], [(m_here, .inl (T.2 0, 7, .inl f_here))], [(m_was, .inl (T.2 0, 7, .inl f_was))], [(m_came, .inl (T.2 0, 7, .inl f_came))], [(m_seenAt, .inl (T.2 0, 16384, .inl f_seenAt))], [(m_rowWorth, .inl (T.2 0, 512, .inl f_rowWorth))], [(m_farBy, .inl (T.2 0, 49, .inl f_farBy))], [(m_used, .inl (T.2 0, 7, .inl f_used))], [(m_fitPost, .inl (T.2 0, 28, .inl f_fitPost))], [(m_fitEnd, .inl (T.2 0, 49, .inl f_fitEnd))], [(m_keptPosts, .inl (T.2 0, 7, .inl f_keptPosts))], [(xo, .inr (10, [.ref t, .ref im, .ref mk, .ref rd, .ref po, .ref co, .ref tr, .ref wa, .ref wb_, .ref fi, .ref cd]))], wt_9, [(mo, .inr (11, [.ref m_all, .ref m_has, .int i_size, .int i_next, .int i_where, .int i_token, .int i_number, .int i_word, .int i_wrong, .int i_farCrossing, .ref m_read, .int i_z0, .int i_crossings, .int i_inns, .ref m_posts, .ref m_shut, .ref m_here, .int i_steps, .int i_done, .int i_at, .int i_gone, .ref m_was, .ref m_came, .ref m_seenAt, .ref m_rowWorth, .ref m_farBy, .ref m_used, .int i_everywhere, .int i_again0, .int i_d0, .int i_never, .int i_firstCame, .int i_longRun, .int i_moved, .int i_crowd, .int i_l0, .int i_fitMany, .int i_fitLeast, .int i_fitMost, .ref m_fitPost, .ref m_fitEnd, .ref m_keptPosts, .int i_x0]))], [(m_all, .inl (T.2 0, 3952, .inl g_all_16))]] _ _ := G
  obtain ⟨heq, hAI2, hRl2, hin2⟩ := zL_end hAI hRl h_12 h_17
  refine lv_pop hx hb dL_law_270 rfl ?_
  refine lv_goto (tgt := 1767) hx hb dL_law_271 (by decide) ?_
  have G := G.sub (bs' := [[(xo, .inr (10, [.ref t, .ref im, .ref mk, .ref rd, .ref po, .ref co, .ref tr, .ref wa, .ref wb_, .ref fi, .ref cd]))], wt_9, z0_, z1_, wd0_, wd1_, wg0_, wg1_, [(rd, .inr (7, [.ref rl, .ref rdd, .ref rg, .int r0, .int r1, .ref tq, .int r2, .int r3, .int r4, .int r5, .int r6, .int r7, .int r8]))], z, wd, wg, wwA, wwB, wff, wc, wcp, wr, wrp, wp, [(cd, .inl (T.2 0, 1000, .inl fcd))], wta, z0_a, z1_a, wd0_a, wd1_a, wg0_a, wg1_a, wtb, z0_b, z1_b, wd0_b, wd1_b, wg0_b, wg1_b, wtc, z0_c, z1_c, wd0_c, wd1_c, wg0_c, wg1_c, [(im, .inl (T.2 6, 3, .inr (.inr (.inr (.inr qi)))))], [(mk, .inl (T.2 2, 3, .inl fmk))], [(mo, .inr (11, [.ref m_all, .ref m_has, .int i_size, .int i_next, .int i_where, .int i_token, .int i_number, .int i_word, .int i_wrong, .int i_farCrossing, .ref m_read, .int i_z0, .int i_crossings, .int i_inns, .ref m_posts, .ref m_shut, .ref m_here, .int i_steps, .int i_done, .int i_at, .int i_gone, .ref m_was, .ref m_came, .ref m_seenAt, .ref m_rowWorth, .ref m_farBy, .ref m_used, .int i_everywhere, .int i_again0, .int i_d0, .int i_never, .int i_firstCame, .int i_longRun, .int i_moved, .int i_crowd, .int i_l0, .int i_fitMany, .int i_fitLeast, .int i_fitMost, .ref m_fitPost, .ref m_fitEnd, .ref m_keptPosts, .int i_x0]))], [(m_all, .inl (T.2 0, 3952, .inl g_all_16))], [(m_has, .inl (T.2 2, 3, .inl f_has))], [(m_read, .inl (T.2 0, 121, .inl f_read))], [(m_posts, .inl (T.2 0, 7, .inl f_posts))], [(m_shut, .inl (T.2 0, 7, .inl f_shut))], [(m_here, .inl (T.2 0, 7, .inl f_here))], [(m_was, .inl (T.2 0, 7, .inl f_was))], [(m_came, .inl (T.2 0, 7, .inl f_came))], [(m_seenAt, .inl (T.2 0, 16384, .inl f_seenAt))], [(m_rowWorth, .inl (T.2 0, 512, .inl f_rowWorth))], [(m_farBy, .inl (T.2 0, 49, .inl f_farBy))], [(m_used, .inl (T.2 0, 7, .inl f_used))], [(m_fitPost, .inl (T.2 0, 28, .inl f_fitPost))], [(m_fitEnd, .inl (T.2 0, 49, .inl f_fitEnd))], [(m_keptPosts, .inl (T.2 0, 7, .inl f_keptPosts))]]) [56, 57, 0, 1, 2, 3, 4, 5, 6, 7, 8, 9, 10, 11, 12, 13, 14, 15, 16, 17, 18, 19, 20, 21, 22, 23, 24, 25, 26, 27, 28, 29, 30, 31, 32, 33, 34, 35, 36, 37, 38, 39, 40, 41, 58, 59, 42, 43, 44, 45, 46, 47, 48, 49, 50, 51, 52, 53, 54, 55] rfl
  refine W.widen (k := 216 + 2 * i + 12) (n := 27000 + 6 * (n4A + n4B) + 2 * m1f) (by omega) (by omega) ?_
  exact kk n4A n4B m1f _ ⟨⟨t, im, mk, rd, po, co, tr, wa, wb_, fi, cd, wt_9, l0, l1, d0, d1, g0, g1, u_10, z0_, z1_, wd0_, wd1_, wg0_, wg1_, rl, rdd, rg, r0, r1, tq, r2, r3, r4, r5, r6, r7, r8, z, wd, wg, wwA, mdA, wwB, mdB, wff, e0f, e1f, wc, cpo, wcp, wr, tpo, wrp, wp, fcd, m0, wta, l0a, l1a, d0a, d1a, g0a, g1a, lna, z0_a, z1_a, wd0_a, wd1_a, wg0_a, wg1_a, m1, wtb, l0b, l1b, d0b, d1b, g0b, g1b, lnb, z0_b, z1_b, wd0_b, wd1_b, wg0_b, wg1_b, m2, wtc, l0c, l1c, d0c, d1c, g0c, g1c, lnc, z0_c, z1_c, wd0_c, wd1_c, wg0_c, wg1_c, qi, fmk, m_all, m_has, i_size, i_next, i_where, i_token, i_number, i_word, i_wrong, i_farCrossing, m_read, i_z0, i_crossings, i_inns, m_posts, m_shut, m_here, i_steps, i_done, i_at, i_gone, m_was, m_came, m_seenAt, m_rowWorth, m_farBy, m_used, i_everywhere, i_again0, i_d0, i_never, i_firstCame, i_longRun, i_moved, i_crowd, i_l0, i_fitMany, i_fitLeast, i_fitMost, m_fitPost, m_fitEnd, m_keptPosts, i_x0, g_all_16, f_has, f_read, f_posts, f_shut, f_here, f_was, f_came, f_seenAt, f_rowWorth, f_farBy, f_used, f_fitPost, f_fitEnd, f_keptPosts⟩, rfl, ⟨v_3, v_4, v_5, v_6, h_11, (by first | assumption | omega)⟩, H_z0_, H_z1_, H_wd0_, H_wd1_, H_wg0_, H_wg1_, H_z, H_wd, H_wg, H_wwA, H_wwB, H_wff, H_wc, H_wcp, H_wr, H_wrp, H_wp, H_wta, H_z0_a, H_z1_a, H_wd0_a, H_wd1_a, H_wg0_a, H_wg1_a, H_wtb, H_z0_b, H_z1_b, H_wd0_b, H_wd1_b, H_wg0_b, H_wg1_b, H_wtc, H_z0_c, H_z1_c, H_wd0_c, H_wd1_c, H_wg0_c, H_wg1_c, (by first | assumption | omega), (by first | assumption | omega), (by first | assumption | omega), (by first | assumption | omega), (by first | assumption | omega), (by first | assumption | omega), (by first | assumption | omega), (by first | assumption | omega)⟩ _ _ ls G (lv_sub hl [0, 1, 2, 3] rfl)
set_option maxHeartbeats 40000000 in
set_option maxRecDepth 100000 in
theorem z_case_text (l : Launch) {p : Program} {e : Env} {s : State} {m : MethodId} {b : Nat} {below : List Frame} {meth : Method} {c : Code} {Q : State → Prop} {T : zTy} {A : Nat → Prop} {L i : Nat} {xs : Nat → Int32} (hx : p.tables.exec = Jvm.exec) (hb : c.code = cL_law) (C : CallFix p m c cL_law 4 s #[Value.ref b] zT RL) (hX : va_X b L xs s s.heap) (hbl : b < s.heap.size) (hbA : ¬ A b) (hL : L ≤ 3072) (hi6 : i + 6 ≤ L) {xo mo n4A n4B m1f : Nat} (hnA : n4A ≤ 131072) (hnB : n4B ≤ 131072) (hmf : m1f ≤ 16384) {bs : List va_W} (hI : zInv T xo mo n4A n4B m1f bs) {H : Heap} {locs : List Loc} {ls : Array Slot} (G : zS T A s.heap s bs H locs) (hl : lv_has ls 4 [(0, .ref b), (1, .ref xo), (2, .ref mo), (3, .int (nI i))]) (kk : ∀ (n1 n2 n3 : Nat) (bs1 : List va_W), zInv T xo mo n1 n2 n3 bs1 → ∀ (H1 : Heap) (locs1 : List Loc) (ls1 : Array Slot), zS T A s.heap s bs1 H1 locs1 → lv_has ls1 4 [(0, .ref b), (1, .ref xo), (2, .ref mo), (3, .int (nI i))] → W p l e room_1 s m #[Value.ref b] below meth c H1 locs1 (216 + 2 * i + 12) (27000 + 6 * (n1 + n2) + 2 * n3) Q (F0 m 1767 ls1 [])) : W p l e room_1 s m #[Value.ref b] below meth c H locs (216 + 2 * i) (27000 + 6 * (n4A + n4B) + 2 * m1f) Q (F0 m 274 ls []) := by
  obtain ⟨⟨t, im, mk, rd, po, co, tr, wa, wb_, fi, cd, wt, l0, l1, d0, d1, g0, g1, ln, z0_, z1_, wd0_, wd1_, wg0_, wg1_, rl, rdd, rg, r0, r1, tq, r2, r3, r4, r5, r6, r7, r8, z, wd, wg, wwA, mdA, wwB, mdB, wff, e0f, e1f, wc, cpo, wcp, wr, tpo, wrp, wp, fcd, m0, wta, l0a, l1a, d0a, d1a, g0a, g1a, lna, z0_a, z1_a, wd0_a, wd1_a, wg0_a, wg1_a, m1, wtb, l0b, l1b, d0b, d1b, g0b, g1b, lnb, z0_b, z1_b, wd0_b, wd1_b, wg0_b, wg1_b, m2, wtc, l0c, l1c, d0c, d1c, g0c, g1c, lnc, z0_c, z1_c, wd0_c, wd1_c, wg0_c, wg1_c, qi, fmk, m_all, m_has, i_size, i_next, i_where, i_token, i_number, i_word, i_wrong, i_farCrossing, m_read, i_z0, i_crossings, i_inns, m_posts, m_shut, m_here, i_steps, i_done, i_at, i_gone, m_was, m_came, m_seenAt, m_rowWorth, m_farBy, m_used, i_everywhere, i_again0, i_d0, i_never, i_firstCame, i_longRun, i_moved, i_crowd, i_l0, i_fitMany, i_fitLeast, i_fitMost, m_fitPost, m_fitEnd, m_keptPosts, i_x0, f_all, f_has, f_read, f_posts, f_shut, f_here, f_was, f_came, f_seenAt, f_rowWorth, f_farBy, f_used, f_fitPost, f_fitEnd, f_keptPosts⟩, rfl, H_wt, H_z0_, H_z1_, H_wd0_, H_wd1_, H_wg0_, H_wg1_, H_z, H_wd, H_wg, H_wwA, H_wwB, H_wff, H_wc, H_wcp, H_wr, H_wrp, H_wp, H_wta, H_z0_a, H_z1_a, H_wd0_a, H_wd1_a, H_wg0_a, H_wg1_a, H_wtb, H_z0_b, H_z1_b, H_wd0_b, H_wd1_b, H_wg0_b, H_wg1_b, H_wtc, H_z0_c, H_z1_c, H_wd0_c, H_wd1_c, H_wg0_c, H_wg1_c, hm0, hm1, hm2, h56, hFI, hAI, hRl, hHs⟩ := hI
  replace H_wt : hTold T t l0 l1 d0 d1 g0 g1 ln wt := H_wt
  replace H_z0_ : hLand T l0 z0_ := H_z0_
  replace H_z1_ : hLand T l1 z1_ := H_z1_
  replace H_wd0_ : hDay T d0 wd0_ := H_wd0_
  replace H_wd1_ : hDay T d1 wd1_ := H_wd1_
  replace H_wg0_ : hLog T g0 wg0_ := H_wg0_
  replace H_wg1_ : hLog T g1 wg1_ := H_wg1_
  replace H_z : hLandR T rl z := H_z
  replace H_wd : hDay T rdd wd := H_wd
  replace H_wg : hLog T rg wg := H_wg
  replace H_wwA : hWays T wa mdA n4A l0 wwA := H_wwA
  replace H_wwB : hWays T wb_ mdB n4B l1 wwB := H_wwB
  replace H_wff : hFit T fi e0f e1f m1f wff := H_wff
  replace H_wc : hCourse T co cpo wc := H_wc
  replace H_wcp : hPosts T cpo wcp := H_wcp
  replace H_wr : hTrail T tr tpo wr := H_wr
  replace H_wrp : hPosts T tpo wrp := H_wrp
  replace H_wp : hPosts T po wp := H_wp
  replace H_wta : hTold T m0 l0a l1a d0a d1a g0a g1a lna wta := H_wta
  replace H_z0_a : hLand T l0a z0_a := H_z0_a
  replace H_z1_a : hLand T l1a z1_a := H_z1_a
  replace H_wd0_a : hDay T d0a wd0_a := H_wd0_a
  replace H_wd1_a : hDay T d1a wd1_a := H_wd1_a
  replace H_wg0_a : hLog T g0a wg0_a := H_wg0_a
  replace H_wg1_a : hLog T g1a wg1_a := H_wg1_a
  replace H_wtb : hTold T m1 l0b l1b d0b d1b g0b g1b lnb wtb := H_wtb
  replace H_z0_b : hLand T l0b z0_b := H_z0_b
  replace H_z1_b : hLand T l1b z1_b := H_z1_b
  replace H_wd0_b : hDay T d0b wd0_b := H_wd0_b
  replace H_wd1_b : hDay T d1b wd1_b := H_wd1_b
  replace H_wg0_b : hLog T g0b wg0_b := H_wg0_b
  replace H_wg1_b : hLog T g1b wg1_b := H_wg1_b
  replace H_wtc : hTold T m2 l0c l1c d0c d1c g0c g1c lnc wtc := H_wtc
  replace H_z0_c : hLand T l0c z0_c := H_z0_c
  replace H_z1_c : hLand T l1c z1_c := H_z1_c
  replace H_wd0_c : hDay T d0c wd0_c := H_wd0_c
  replace H_wd1_c : hDay T d1c wd1_c := H_wd1_c
  replace H_wg0_c : hLog T g0c wg0_c := H_wg0_c
  replace H_wg1_c : hLog T g1c wg1_c := H_wg1_c
  replace hm0 : qi 0 = some m0 := hm0
  replace hm1 : qi 1 = some m1 := hm1
  replace hm2 : qi 2 = some m2 := hm2
  replace h56 : ((0 ≤ r5.toInt ∧ r5.toInt ≤ 600) ∧ 0 ≤ r6.toInt ∧ r6.toInt ≤ 1000) := h56
  replace hFI : (¬ e0f = 0 → e1f.toInt = 0 ∧ ¬ mdA = 0 ∨ e1f.toInt = 1 ∧ ¬ mdB = 0) := hFI
  replace hAI : zAI f_all := hAI
  replace hRl : zRl ln lna lnb lnc f_all := hRl
  replace hHs : zHs fmk f_has := hHs
  replace G : zS T A s.heap s [[(xo, .inr (10, [.ref t, .ref im, .ref mk, .ref rd, .ref po, .ref co, .ref tr, .ref wa, .ref wb_, .ref fi, .ref cd]))], wt, z0_, z1_, wd0_, wd1_, wg0_, wg1_, [(rd, .inr (7, [.ref rl, .ref rdd, .ref rg, .int r0, .int r1, .ref tq, .int r2, .int r3, .int r4, .int r5, .int r6, .int r7, .int r8]))], z, wd, wg, wwA, wwB, wff, wc, wcp, wr, wrp, wp, [(cd, .inl (T.2 0, 1000, .inl fcd))], wta, z0_a, z1_a, wd0_a, wd1_a, wg0_a, wg1_a, wtb, z0_b, z1_b, wd0_b, wd1_b, wg0_b, wg1_b, wtc, z0_c, z1_c, wd0_c, wd1_c, wg0_c, wg1_c, [(im, .inl (T.2 6, 3, .inr (.inr (.inr (.inr qi)))))], [(mk, .inl (T.2 2, 3, .inl fmk))], [(mo, .inr (11, [.ref m_all, .ref m_has, .int i_size, .int i_next, .int i_where, .int i_token, .int i_number, .int i_word, .int i_wrong, .int i_farCrossing, .ref m_read, .int i_z0, .int i_crossings, .int i_inns, .ref m_posts, .ref m_shut, .ref m_here, .int i_steps, .int i_done, .int i_at, .int i_gone, .ref m_was, .ref m_came, .ref m_seenAt, .ref m_rowWorth, .ref m_farBy, .ref m_used, .int i_everywhere, .int i_again0, .int i_d0, .int i_never, .int i_firstCame, .int i_longRun, .int i_moved, .int i_crowd, .int i_l0, .int i_fitMany, .int i_fitLeast, .int i_fitMost, .ref m_fitPost, .ref m_fitEnd, .ref m_keptPosts, .int i_x0]))], [(m_all, .inl (T.2 0, 3952, .inl f_all))], [(m_has, .inl (T.2 2, 3, .inl f_has))], [(m_read, .inl (T.2 0, 121, .inl f_read))], [(m_posts, .inl (T.2 0, 7, .inl f_posts))], [(m_shut, .inl (T.2 0, 7, .inl f_shut))], [(m_here, .inl (T.2 0, 7, .inl f_here))], [(m_was, .inl (T.2 0, 7, .inl f_was))], [(m_came, .inl (T.2 0, 7, .inl f_came))], [(m_seenAt, .inl (T.2 0, 16384, .inl f_seenAt))], [(m_rowWorth, .inl (T.2 0, 512, .inl f_rowWorth))], [(m_farBy, .inl (T.2 0, 49, .inl f_farBy))], [(m_used, .inl (T.2 0, 7, .inl f_used))], [(m_fitPost, .inl (T.2 0, 28, .inl f_fitPost))], [(m_fitEnd, .inl (T.2 0, 49, .inl f_fitEnd))], [(m_keptPosts, .inl (T.2 0, 7, .inl f_keptPosts))]] H locs := G
  have hB := zAI_0 hAI
  have hB4 := hB.1
  obtain ⟨hln, hlna, hlnb, hlnc⟩ := zRl_in hAI hRl
  refine lv_aload_n hx hb dL_law_274 rfl (lv_at hl 1 rfl) ?_
  refine lv_aload_n hx hb dL_law_275 rfl (lv_at hl 0 rfl) ?_
  refine lv_iload_n hx hb dL_law_276 rfl (lv_at hl 3 rfl) ?_
  refine lv_iconst (v := 1) hx hb dL_law_277 (by decide) ?_
  refine lv_iadd hx hb dL_law_278 ?_
  refine lv_topi (fun y_1 ey_1 => ?_)
  obtain rfl : y_1 = nI (i + 1) := ey_1.trans (z_iaddn i 1 rfl rfl)
  refine va_sld hx hb hX hbl hbA G.2.2.2.1 (vp_in_nI (by omega) (by omega)) dL_law_279 ?_
  refine lv_topi (fun v_2 ev_2 => ?_)
  rw [nI_clamp (by omega)] at ev_2
  have ev_2 : v_2 = xs (i + 1) := ev_2
  subst ev_2
  refine lv_aload_n hx hb dL_law_280 rfl (lv_at hl 0 rfl) ?_
  refine lv_iload_n hx hb dL_law_281 rfl (lv_at hl 3 rfl) ?_
  refine lv_iconst (v := 2) hx hb dL_law_282 (by decide) ?_
  refine lv_iadd hx hb dL_law_283 ?_
  refine lv_topi (fun y_3 ey_3 => ?_)
  obtain rfl : y_3 = nI (i + 2) := ey_3.trans (z_iaddn i 2 rfl rfl)
  refine va_sld hx hb hX hbl hbA G.2.2.2.1 (vp_in_nI (by omega) (by omega)) dL_law_284 ?_
  refine lv_topi (fun v_4 ev_4 => ?_)
  rw [nI_clamp (by omega)] at ev_4
  have ev_4 : v_4 = xs (i + 2) := ev_4
  subst ev_4
  obtain ⟨v_5, v_6, v_7, v_8, h_9, h_10⟩ := H_wt
  have h_10 : zKT v_8 := h_10
  obtain ⟨v_11, v_12, v_13, v_14, v_15, v_16, h_17, h_18⟩ := H_z0_
  have h_18 : zLI v_11 v_13 v_15 := h_18
  obtain ⟨v_19, v_20, v_21, v_22, v_23, v_24, h_25, h_26⟩ := H_z1_
  have h_26 : zLI v_19 v_21 v_23 := h_26
  obtain ⟨v_27, v_28, v_29, v_30, h_31⟩ := H_wd0_
  obtain ⟨v_32, v_33, v_34, v_35, h_36⟩ := H_wd1_
  obtain ⟨v_37, v_38, v_39, h_40⟩ := H_wg0_
  obtain ⟨v_41, v_42, v_43, h_44⟩ := H_wg1_
  obtain ⟨v_45, v_46, v_47, v_48, v_49, v_50, h_51⟩ := H_z
  obtain ⟨v_52, v_53, v_54, v_55, h_56⟩ := H_wd
  obtain ⟨v_57, v_58, v_59, h_60⟩ := H_wg
  obtain ⟨v_61, v_62, v_63, v_64, v_65, v_66, v_67, v_68, v_69, h_70, h_71, h_72, h_73⟩ := H_wwA
  have h_71 : zPw n4A := h_71
  have h_72 : (mdA = 0 ∨ v_61 = l0) := h_72
  have h_73 : (0 ≤ v_62.toInt ∧ v_62.toInt ≤ 16384) := h_73
  obtain ⟨v_74, v_75, v_76, v_77, v_78, v_79, v_80, v_81, v_82, h_83, h_84, h_85, h_86⟩ := H_wwB
  have h_84 : zPw n4B := h_84
  have h_85 : (mdB = 0 ∨ v_74 = l1) := h_85
  have h_86 : (0 ≤ v_75.toInt ∧ v_75.toInt ≤ 16384) := h_86
  obtain ⟨v_87, v_88, v_89, v_90, v_91, v_92, h_93, h_94, h_95⟩ := H_wff
  have h_94 : zFw m1f := h_94
  have h_95 : 0 ≤ v_88.toInt := h_95
  refine z_Vi (bc := [[(xo, .inr (10, [.ref t, .ref im, .ref mk, .ref rd, .ref po, .ref co, .ref tr, .ref wa, .ref wb_, .ref fi, .ref cd]))], wt, z0_, z1_, wd0_, wd1_, wg0_, wg1_, [(rd, .inr (7, [.ref rl, .ref rdd, .ref rg, .int r0, .int r1, .ref tq, .int r2, .int r3, .int r4, .int r5, .int r6, .int r7, .int r8]))], z, wd, wg, wwA, wwB, wff]) (br := [wc, wcp, wr, wrp, wp, [(cd, .inl (T.2 0, 1000, .inl fcd))], wta, z0_a, z1_a, wd0_a, wd1_a, wg0_a, wg1_a, wtb, z0_b, z1_b, wd0_b, wd1_b, wg0_b, wg1_b, wtc, z0_c, z1_c, wd0_c, wd1_c, wg0_c, wg1_c, [(im, .inl (T.2 6, 3, .inr (.inr (.inr (.inr qi)))))], [(mk, .inl (T.2 2, 3, .inl fmk))], [(mo, .inr (11, [.ref m_all, .ref m_has, .int i_size, .int i_next, .int i_where, .int i_token, .int i_number, .int i_word, .int i_wrong, .int i_farCrossing, .ref m_read, .int i_z0, .int i_crossings, .int i_inns, .ref m_posts, .ref m_shut, .ref m_here, .int i_steps, .int i_done, .int i_at, .int i_gone, .ref m_was, .ref m_came, .ref m_seenAt, .ref m_rowWorth, .ref m_farBy, .ref m_used, .int i_everywhere, .int i_again0, .int i_d0, .int i_never, .int i_firstCame, .int i_longRun, .int i_moved, .int i_crowd, .int i_l0, .int i_fitMany, .int i_fitLeast, .int i_fitMost, .ref m_fitPost, .ref m_fitEnd, .ref m_keptPosts, .int i_x0]))], [(m_all, .inl (T.2 0, 3952, .inl f_all))], [(m_has, .inl (T.2 2, 3, .inl f_has))], [(m_read, .inl (T.2 0, 121, .inl f_read))], [(m_posts, .inl (T.2 0, 7, .inl f_posts))], [(m_shut, .inl (T.2 0, 7, .inl f_shut))], [(m_here, .inl (T.2 0, 7, .inl f_here))], [(m_was, .inl (T.2 0, 7, .inl f_was))], [(m_came, .inl (T.2 0, 7, .inl f_came))], [(m_seenAt, .inl (T.2 0, 16384, .inl f_seenAt))], [(m_rowWorth, .inl (T.2 0, 512, .inl f_rowWorth))], [(m_farBy, .inl (T.2 0, 49, .inl f_farBy))], [(m_used, .inl (T.2 0, 7, .inl f_used))], [(m_fitPost, .inl (T.2 0, 28, .inl f_fitPost))], [(m_fitEnd, .inl (T.2 0, 49, .inl f_fitEnd))], [(m_keptPosts, .inl (T.2 0, 7, .inl f_keptPosts))]]) (As := [.int (xs (i + 1)), .int (xs (i + 2))]) (rest := []) C G (c_text2 l T xo t im mk rd po co tr wa wb_ fi cd l0 l1 d0 d1 g0 g1 ln v_5 v_6 v_7 v_8 wt v_11 v_12 v_13 v_14 v_15 v_16 z0_ v_19 v_20 v_21 v_22 v_23 v_24 z1_ v_27 v_28 v_29 v_30 wd0_ v_32 v_33 v_34 v_35 wd1_ v_37 v_38 v_39 wg0_ v_41 v_42 v_43 wg1_ rl rdd rg r0 r1 r2 r3 r4 r5 r6 r7 r8 tq v_45 v_46 v_47 v_48 v_49 v_50 z v_52 v_53 v_54 v_55 wd v_57 v_58 v_59 wg v_61 mdA v_62 v_63 v_64 v_65 v_66 v_67 v_68 v_69 n4A wwA v_74 mdB v_75 v_76 v_77 v_78 v_79 v_80 v_81 v_82 n4B wwB e0f e1f v_87 v_88 v_89 v_90 v_91 m1f v_92 wff (xs (i + 1)) (xs (i + 2)) h_9 (by first | assumption | omega | rfl) h_17 (by first | assumption | omega | rfl) h_25 (by first | assumption | omega | rfl) h_31 h_36 h_40 h_44 h_51 h_56 h_60 (by first | assumption | omega | rfl) h_70 h_83 h_93 (by first | assumption | omega | rfl)) (kV_RL_23 C.2.2.2.2 (Nat.le_of_ble_eq_true rfl) (Nat.le_of_ble_eq_true rfl)) [0, 1, 2, 3, 4, 5, 6, 7, 8, 9, 10, 11, 12, 13, 14] [15, 16, 17, 18, 19, 20, 21, 22, 23, 24, 25, 26, 27, 28, 29, 30, 31, 32, 33, 34, 35, 36, 37, 38, 39, 40, 41, 42, 43, 44, 45, 46, 47, 48, 49, 50, 51, 52, 53, 54, 55, 56, 57, 58, 59] rfl rfl (ci := 10) (qc := (RX11, TX11, 11)) rfl rfl (List.mem_flatten.mpr ⟨_, List.mem_of_getElem? (i := 0) rfl, List.mem_cons_self⟩) rfl rfl hl.1 dL_law_285 (by show _ + 0 ≤ 600000; omega) (by show _ + 0 ≤ 7302250; omega) (fun r_185 b1 H locs hw G => ?_)
  obtain ⟨ln_96, fl_97, pl_98, ft_99, fk_100, wt_101, cr0__102, inn0__103, k10__104, k20__105, k30__106, k40__107, z0__108, cr1__109, inn1__110, k11__111, k21__112, k31__113, k41__114, z1__115, dd0__116, p10__117, p20__118, p30__119, wd0__120, dd1__121, p11__122, p21__123, p31__124, wd1__125, gg0__126, q10__127, q20__128, wg0__129, gg1__130, q11__131, q21__132, wg1__133, s0_134, s1_135, s2_136, s3_137, s4_138, s5_139, s6_140, s7_141, s8_142, tq_143, z2_144, c2_145, i2__146, j1_147, j2_148, j3_149, j4_150, wd2_151, dd2_152, b1_153, b2_154, b3_155, wg2_156, gg2_157, b4_158, b5_159, wwA_160, wwB_161, wff_162, mdA_163, mdB_164, e0f_165, rfl, h_166, h_167, h_168, h_169, h_170, h_171, h_172, h_173, h_174, h_175, h_176, h_177, h_178, h_179, h_180, h_181, h_182, h_183, h_184⟩ := hw
  have G : zS T A s.heap s [wc, wcp, wr, wrp, wp, [(cd, .inl (T.2 0, 1000, .inl fcd))], wta, z0_a, z1_a, wd0_a, wd1_a, wg0_a, wg1_a, wtb, z0_b, z1_b, wd0_b, wd1_b, wg0_b, wg1_b, wtc, z0_c, z1_c, wd0_c, wd1_c, wg0_c, wg1_c, [(im, .inl (T.2 6, 3, .inr (.inr (.inr (.inr qi)))))], [(mk, .inl (T.2 2, 3, .inl fmk))], [(mo, .inr (11, [.ref m_all, .ref m_has, .int i_size, .int i_next, .int i_where, .int i_token, .int i_number, .int i_word, .int i_wrong, .int i_farCrossing, .ref m_read, .int i_z0, .int i_crossings, .int i_inns, .ref m_posts, .ref m_shut, .ref m_here, .int i_steps, .int i_done, .int i_at, .int i_gone, .ref m_was, .ref m_came, .ref m_seenAt, .ref m_rowWorth, .ref m_farBy, .ref m_used, .int i_everywhere, .int i_again0, .int i_d0, .int i_never, .int i_firstCame, .int i_longRun, .int i_moved, .int i_crowd, .int i_l0, .int i_fitMany, .int i_fitLeast, .int i_fitMost, .ref m_fitPost, .ref m_fitEnd, .ref m_keptPosts, .int i_x0]))], [(m_all, .inl (T.2 0, 3952, .inl f_all))], [(m_has, .inl (T.2 2, 3, .inl f_has))], [(m_read, .inl (T.2 0, 121, .inl f_read))], [(m_posts, .inl (T.2 0, 7, .inl f_posts))], [(m_shut, .inl (T.2 0, 7, .inl f_shut))], [(m_here, .inl (T.2 0, 7, .inl f_here))], [(m_was, .inl (T.2 0, 7, .inl f_was))], [(m_came, .inl (T.2 0, 7, .inl f_came))], [(m_seenAt, .inl (T.2 0, 16384, .inl f_seenAt))], [(m_rowWorth, .inl (T.2 0, 512, .inl f_rowWorth))], [(m_farBy, .inl (T.2 0, 49, .inl f_farBy))], [(m_used, .inl (T.2 0, 7, .inl f_used))], [(m_fitPost, .inl (T.2 0, 28, .inl f_fitPost))], [(m_fitEnd, .inl (T.2 0, 49, .inl f_fitEnd))], [(m_keptPosts, .inl (T.2 0, 7, .inl f_keptPosts))], [(xo, .inr (10, [.ref t, .ref im, .ref mk, .ref rd, .ref po, .ref co, .ref tr, .ref wa, .ref wb_, .ref fi, .ref cd]))], wt_101, z0__108, z1__115, wd0__120, wd1__125, wg0__129, wg1__133, [(rd, .inr (7, [.ref rl, .ref rdd, .ref rg, .int s0_134, .int s1_135, .ref tq_143, .int s2_136, .int s3_137, .int s4_138, .int s5_139, .int s6_140, .int s7_141, .int s8_142]))], z2_144, wd2_151, wg2_156, wwA_160, wwB_161, wff_162] _ _ := G
  have hmdl0 : (mdA_163 = 0 ∨ v_61 = l0) := by rcases h_184 with ⟨q1, q2, q3⟩ | ⟨q1, q2, q3⟩ | ⟨q1, q2, q3⟩ <;> first | exact Or.inl (by assumption) | (rw [q1]; assumption)
  have hmdl1 : (mdB_164 = 0 ∨ v_74 = l1) := by rcases h_184 with ⟨q1, q2, q3⟩ | ⟨q1, q2, q3⟩ | ⟨q1, q2, q3⟩ <;> first | exact Or.inl (by assumption) | (rw [q2]; assumption)
  have hFI2 : (¬ e0f_165 = 0 → e1f.toInt = 0 ∧ ¬ mdA_163 = 0 ∨ e1f.toInt = 1 ∧ ¬ mdB_164 = 0) := by rcases h_184 with ⟨q1, q2, q3⟩ | ⟨q1, q2, q3⟩ | ⟨q1, q2, q3⟩ <;> first | exact fun q => absurd q3 q | (rw [q1, q2, q3]; exact hFI)
  refine lv_pop hx hb dL_law_288 rfl ?_
  refine lv_aload_n hx hb dL_law_289 rfl (lv_at hl 2 rfl) ?_
  refine lv_aload_n hx hb dL_law_290 rfl (lv_at hl 0 rfl) ?_
  refine lv_iload_n hx hb dL_law_291 rfl (lv_at hl 3 rfl) ?_
  refine lv_iconst (v := 1) hx hb dL_law_292 (by decide) ?_
  refine lv_iadd hx hb dL_law_293 ?_
  refine lv_topi (fun y_186 ey_186 => ?_)
  obtain rfl : y_186 = nI (i + 1) := ey_186.trans (z_iaddn i 1 rfl rfl)
  refine va_sld hx hb hX hbl hbA G.2.2.2.1 (vp_in_nI (by omega) (by omega)) dL_law_294 ?_
  refine lv_topi (fun v_187 ev_187 => ?_)
  rw [nI_clamp (by omega)] at ev_187
  have ev_187 : v_187 = xs (i + 1) := ev_187
  subst ev_187
  refine lv_aload_n hx hb dL_law_295 rfl (lv_at hl 0 rfl) ?_
  refine lv_iload_n hx hb dL_law_296 rfl (lv_at hl 3 rfl) ?_
  refine lv_iconst (v := 2) hx hb dL_law_297 (by decide) ?_
  refine lv_iadd hx hb dL_law_298 ?_
  refine lv_topi (fun y_188 ey_188 => ?_)
  obtain rfl : y_188 = nI (i + 2) := ey_188.trans (z_iaddn i 2 rfl rfl)
  refine va_sld hx hb hX hbl hbA G.2.2.2.1 (vp_in_nI (by omega) (by omega)) dL_law_299 ?_
  refine lv_topi (fun v_189 ev_189 => ?_)
  rw [nI_clamp (by omega)] at ev_189
  have ev_189 : v_189 = xs (i + 2) := ev_189
  subst ev_189
  refine z_Vi (bc := [[(mo, .inr (11, [.ref m_all, .ref m_has, .int i_size, .int i_next, .int i_where, .int i_token, .int i_number, .int i_word, .int i_wrong, .int i_farCrossing, .ref m_read, .int i_z0, .int i_crossings, .int i_inns, .ref m_posts, .ref m_shut, .ref m_here, .int i_steps, .int i_done, .int i_at, .int i_gone, .ref m_was, .ref m_came, .ref m_seenAt, .ref m_rowWorth, .ref m_farBy, .ref m_used, .int i_everywhere, .int i_again0, .int i_d0, .int i_never, .int i_firstCame, .int i_longRun, .int i_moved, .int i_crowd, .int i_l0, .int i_fitMany, .int i_fitLeast, .int i_fitMost, .ref m_fitPost, .ref m_fitEnd, .ref m_keptPosts, .int i_x0]))], [(m_all, .inl (T.2 0, 3952, .inl f_all))], [(m_read, .inl (T.2 0, 121, .inl f_read))]]) (br := [wc, wcp, wr, wrp, wp, [(cd, .inl (T.2 0, 1000, .inl fcd))], wta, z0_a, z1_a, wd0_a, wd1_a, wg0_a, wg1_a, wtb, z0_b, z1_b, wd0_b, wd1_b, wg0_b, wg1_b, wtc, z0_c, z1_c, wd0_c, wd1_c, wg0_c, wg1_c, [(im, .inl (T.2 6, 3, .inr (.inr (.inr (.inr qi)))))], [(mk, .inl (T.2 2, 3, .inl fmk))], [(m_has, .inl (T.2 2, 3, .inl f_has))], [(m_posts, .inl (T.2 0, 7, .inl f_posts))], [(m_shut, .inl (T.2 0, 7, .inl f_shut))], [(m_here, .inl (T.2 0, 7, .inl f_here))], [(m_was, .inl (T.2 0, 7, .inl f_was))], [(m_came, .inl (T.2 0, 7, .inl f_came))], [(m_seenAt, .inl (T.2 0, 16384, .inl f_seenAt))], [(m_rowWorth, .inl (T.2 0, 512, .inl f_rowWorth))], [(m_farBy, .inl (T.2 0, 49, .inl f_farBy))], [(m_used, .inl (T.2 0, 7, .inl f_used))], [(m_fitPost, .inl (T.2 0, 28, .inl f_fitPost))], [(m_fitEnd, .inl (T.2 0, 49, .inl f_fitEnd))], [(m_keptPosts, .inl (T.2 0, 7, .inl f_keptPosts))], [(xo, .inr (10, [.ref t, .ref im, .ref mk, .ref rd, .ref po, .ref co, .ref tr, .ref wa, .ref wb_, .ref fi, .ref cd]))], wt_101, z0__108, z1__115, wd0__120, wd1__125, wg0__129, wg1__133, [(rd, .inr (7, [.ref rl, .ref rdd, .ref rg, .int s0_134, .int s1_135, .ref tq_143, .int s2_136, .int s3_137, .int s4_138, .int s5_139, .int s6_140, .int s7_141, .int s8_142]))], z2_144, wd2_151, wg2_156, wwA_160, wwB_161, wff_162]) (As := [.int (xs (i + 1)), .int (xs (i + 2))]) (rest := []) C G (c_m_text l T mo m_all m_has i_size i_next i_where i_token i_number i_word i_wrong i_farCrossing m_read i_z0 i_crossings i_inns m_posts m_shut m_here i_steps i_done i_at i_gone m_was m_came m_seenAt m_rowWorth m_farBy m_used i_everywhere i_again0 i_d0 i_never i_firstCame i_longRun i_moved i_crowd i_l0 i_fitMany i_fitLeast i_fitMost m_fitPost m_fitEnd m_keptPosts i_x0 f_all f_read (xs (i + 1)) (xs (i + 2)) (by first | assumption | omega | rfl)) (kV_RL_27 C.2.2.2.2 (Nat.le_of_ble_eq_true rfl) (Nat.le_of_ble_eq_true rfl)) [29, 30, 32] [0, 1, 2, 3, 4, 5, 6, 7, 8, 9, 10, 11, 12, 13, 14, 15, 16, 17, 18, 19, 20, 21, 22, 23, 24, 25, 26, 27, 28, 31, 33, 34, 35, 36, 37, 38, 39, 40, 41, 42, 43, 44, 45, 46, 47, 48, 49, 50, 51, 52, 53, 54, 55, 56, 57, 58, 59] rfl rfl (ci := 11) (qc := (RX12, TX12, 43)) rfl rfl (List.mem_flatten.mpr ⟨_, List.mem_of_getElem? (i := 0) rfl, List.mem_cons_self⟩) rfl rfl hl.1 dL_law_300 (by show _ + 0 ≤ 600000; omega) (by show _ + 0 ≤ 7302250; omega) (fun r_203 b1 H locs hw G => ?_)
  obtain ⟨j_size_190, j_next_191, j_where_192, j_token_193, j_number_194, j_word_195, j_wrong_196, j_farCrossing_197, g_all_198, g_read_199, rfl, h_200, h_201, h_202⟩ := hw
  have G : zS T A s.heap s [wc, wcp, wr, wrp, wp, [(cd, .inl (T.2 0, 1000, .inl fcd))], wta, z0_a, z1_a, wd0_a, wd1_a, wg0_a, wg1_a, wtb, z0_b, z1_b, wd0_b, wd1_b, wg0_b, wg1_b, wtc, z0_c, z1_c, wd0_c, wd1_c, wg0_c, wg1_c, [(im, .inl (T.2 6, 3, .inr (.inr (.inr (.inr qi)))))], [(mk, .inl (T.2 2, 3, .inl fmk))], [(m_has, .inl (T.2 2, 3, .inl f_has))], [(m_posts, .inl (T.2 0, 7, .inl f_posts))], [(m_shut, .inl (T.2 0, 7, .inl f_shut))], [(m_here, .inl (T.2 0, 7, .inl f_here))], [(m_was, .inl (T.2 0, 7, .inl f_was))], [(m_came, .inl (T.2 0, 7, .inl f_came))], [(m_seenAt, .inl (T.2 0, 16384, .inl f_seenAt))], [(m_rowWorth, .inl (T.2 0, 512, .inl f_rowWorth))], [(m_farBy, .inl (T.2 0, 49, .inl f_farBy))], [(m_used, .inl (T.2 0, 7, .inl f_used))], [(m_fitPost, .inl (T.2 0, 28, .inl f_fitPost))], [(m_fitEnd, .inl (T.2 0, 49, .inl f_fitEnd))], [(m_keptPosts, .inl (T.2 0, 7, .inl f_keptPosts))], [(xo, .inr (10, [.ref t, .ref im, .ref mk, .ref rd, .ref po, .ref co, .ref tr, .ref wa, .ref wb_, .ref fi, .ref cd]))], wt_101, z0__108, z1__115, wd0__120, wd1__125, wg0__129, wg1__133, [(rd, .inr (7, [.ref rl, .ref rdd, .ref rg, .int s0_134, .int s1_135, .ref tq_143, .int s2_136, .int s3_137, .int s4_138, .int s5_139, .int s6_140, .int s7_141, .int s8_142]))], z2_144, wd2_151, wg2_156, wwA_160, wwB_161, wff_162, [(mo, .inr (11, [.ref m_all, .ref m_has, .int j_size_190, .int j_next_191, .int j_where_192, .int j_token_193, .int j_number_194, .int j_word_195, .int j_wrong_196, .int j_farCrossing_197, .ref m_read, .int i_z0, .int i_crossings, .int i_inns, .ref m_posts, .ref m_shut, .ref m_here, .int i_steps, .int i_done, .int i_at, .int i_gone, .ref m_was, .ref m_came, .ref m_seenAt, .ref m_rowWorth, .ref m_farBy, .ref m_used, .int i_everywhere, .int i_again0, .int i_d0, .int i_never, .int i_firstCame, .int i_longRun, .int i_moved, .int i_crowd, .int i_l0, .int i_fitMany, .int i_fitLeast, .int i_fitMost, .ref m_fitPost, .ref m_fitEnd, .ref m_keptPosts, .int i_x0]))], [(m_all, .inl (T.2 0, 3952, .inl g_all_198))], [(m_read, .inl (T.2 0, 121, .inl g_read_199))]] _ _ := G
  obtain ⟨hAI2, hRl2, hin2⟩ := zL_text hAI hRl h_183 h_200 h_201 h_202
  refine lv_pop hx hb dL_law_303 rfl ?_
  refine lv_goto (tgt := 1767) hx hb dL_law_304 (by decide) ?_
  have G := G.sub (bs' := [[(xo, .inr (10, [.ref t, .ref im, .ref mk, .ref rd, .ref po, .ref co, .ref tr, .ref wa, .ref wb_, .ref fi, .ref cd]))], wt_101, z0__108, z1__115, wd0__120, wd1__125, wg0__129, wg1__133, [(rd, .inr (7, [.ref rl, .ref rdd, .ref rg, .int s0_134, .int s1_135, .ref tq_143, .int s2_136, .int s3_137, .int s4_138, .int s5_139, .int s6_140, .int s7_141, .int s8_142]))], z2_144, wd2_151, wg2_156, wwA_160, wwB_161, wff_162, wc, wcp, wr, wrp, wp, [(cd, .inl (T.2 0, 1000, .inl fcd))], wta, z0_a, z1_a, wd0_a, wd1_a, wg0_a, wg1_a, wtb, z0_b, z1_b, wd0_b, wd1_b, wg0_b, wg1_b, wtc, z0_c, z1_c, wd0_c, wd1_c, wg0_c, wg1_c, [(im, .inl (T.2 6, 3, .inr (.inr (.inr (.inr qi)))))], [(mk, .inl (T.2 2, 3, .inl fmk))], [(mo, .inr (11, [.ref m_all, .ref m_has, .int j_size_190, .int j_next_191, .int j_where_192, .int j_token_193, .int j_number_194, .int j_word_195, .int j_wrong_196, .int j_farCrossing_197, .ref m_read, .int i_z0, .int i_crossings, .int i_inns, .ref m_posts, .ref m_shut, .ref m_here, .int i_steps, .int i_done, .int i_at, .int i_gone, .ref m_was, .ref m_came, .ref m_seenAt, .ref m_rowWorth, .ref m_farBy, .ref m_used, .int i_everywhere, .int i_again0, .int i_d0, .int i_never, .int i_firstCame, .int i_longRun, .int i_moved, .int i_crowd, .int i_l0, .int i_fitMany, .int i_fitLeast, .int i_fitMost, .ref m_fitPost, .ref m_fitEnd, .ref m_keptPosts, .int i_x0]))], [(m_all, .inl (T.2 0, 3952, .inl g_all_198))], [(m_has, .inl (T.2 2, 3, .inl f_has))], [(m_read, .inl (T.2 0, 121, .inl g_read_199))], [(m_posts, .inl (T.2 0, 7, .inl f_posts))], [(m_shut, .inl (T.2 0, 7, .inl f_shut))], [(m_here, .inl (T.2 0, 7, .inl f_here))], [(m_was, .inl (T.2 0, 7, .inl f_was))], [(m_came, .inl (T.2 0, 7, .inl f_came))], [(m_seenAt, .inl (T.2 0, 16384, .inl f_seenAt))], [(m_rowWorth, .inl (T.2 0, 512, .inl f_rowWorth))], [(m_farBy, .inl (T.2 0, 49, .inl f_farBy))], [(m_used, .inl (T.2 0, 7, .inl f_used))], [(m_fitPost, .inl (T.2 0, 28, .inl f_fitPost))], [(m_fitEnd, .inl (T.2 0, 49, .inl f_fitEnd))], [(m_keptPosts, .inl (T.2 0, 7, .inl f_keptPosts))]]) [42, 43, 44, 45, 46, 47, 48, 49, 50, 51, 52, 53, 54, 55, 56, 0, 1, 2, 3, 4, 5, 6, 7, 8, 9, 10, 11, 12, 13, 14, 15, 16, 17, 18, 19, 20, 21, 22, 23, 24, 25, 26, 27, 28, 57, 58, 29, 59, 30, 31, 32, 33, 34, 35, 36, 37, 38, 39, 40, 41] rfl
  refine W.widen (k := 216 + 2 * i + 12) (n := 27000 + 6 * (n4A + n4B) + 2 * m1f) (by omega) (by omega) ?_
  exact kk n4A n4B m1f _ ⟨⟨t, im, mk, rd, po, co, tr, wa, wb_, fi, cd, wt_101, l0, l1, d0, d1, g0, g1, ln_96, z0__108, z1__115, wd0__120, wd1__125, wg0__129, wg1__133, rl, rdd, rg, s0_134, s1_135, tq_143, s2_136, s3_137, s4_138, s5_139, s6_140, s7_141, s8_142, z2_144, wd2_151, wg2_156, wwA_160, mdA_163, wwB_161, mdB_164, wff_162, e0f_165, e1f, wc, cpo, wcp, wr, tpo, wrp, wp, fcd, m0, wta, l0a, l1a, d0a, d1a, g0a, g1a, lna, z0_a, z1_a, wd0_a, wd1_a, wg0_a, wg1_a, m1, wtb, l0b, l1b, d0b, d1b, g0b, g1b, lnb, z0_b, z1_b, wd0_b, wd1_b, wg0_b, wg1_b, m2, wtc, l0c, l1c, d0c, d1c, g0c, g1c, lnc, z0_c, z1_c, wd0_c, wd1_c, wg0_c, wg1_c, qi, fmk, m_all, m_has, j_size_190, j_next_191, j_where_192, j_token_193, j_number_194, j_word_195, j_wrong_196, j_farCrossing_197, m_read, i_z0, i_crossings, i_inns, m_posts, m_shut, m_here, i_steps, i_done, i_at, i_gone, m_was, m_came, m_seenAt, m_rowWorth, m_farBy, m_used, i_everywhere, i_again0, i_d0, i_never, i_firstCame, i_longRun, i_moved, i_crowd, i_l0, i_fitMany, i_fitLeast, i_fitMost, m_fitPost, m_fitEnd, m_keptPosts, i_x0, g_all_198, f_has, g_read_199, f_posts, f_shut, f_here, f_was, f_came, f_seenAt, f_rowWorth, f_farBy, f_used, f_fitPost, f_fitEnd, f_keptPosts⟩, rfl, ⟨fl_97, pl_98, ft_99, fk_100, h_166, (by first | assumption | omega)⟩, ⟨cr0__102, inn0__103, k10__104, k20__105, k30__106, k40__107, h_168, (by first | assumption | omega)⟩, ⟨cr1__109, inn1__110, k11__111, k21__112, k31__113, k41__114, h_170, (by first | assumption | omega)⟩, ⟨dd0__116, p10__117, p20__118, p30__119, h_172⟩, ⟨dd1__121, p11__122, p21__123, p31__124, h_173⟩, ⟨gg0__126, q10__127, q20__128, h_174⟩, ⟨gg1__130, q11__131, q21__132, h_175⟩, ⟨c2_145, i2__146, j1_147, j2_148, j3_149, j4_150, h_176⟩, ⟨dd2_152, b1_153, b2_154, b3_155, h_177⟩, ⟨gg2_157, b4_158, b5_159, h_178⟩, ⟨v_61, v_62, v_63, v_64, v_65, v_66, v_67, v_68, v_69, h_180, (by first | assumption | omega), (by first | assumption | omega), (by first | assumption | omega)⟩, ⟨v_74, v_75, v_76, v_77, v_78, v_79, v_80, v_81, v_82, h_181, (by first | assumption | omega), (by first | assumption | omega), (by first | assumption | omega)⟩, ⟨v_87, v_88, v_89, v_90, v_91, v_92, h_182, (by first | assumption | omega), (by first | assumption | omega)⟩, H_wc, H_wcp, H_wr, H_wrp, H_wp, H_wta, H_z0_a, H_z1_a, H_wd0_a, H_wd1_a, H_wg0_a, H_wg1_a, H_wtb, H_z0_b, H_z1_b, H_wd0_b, H_wd1_b, H_wg0_b, H_wg1_b, H_wtc, H_z0_c, H_z1_c, H_wd0_c, H_wd1_c, H_wg0_c, H_wg1_c, (by first | assumption | omega), (by first | assumption | omega), (by first | assumption | omega), (by first | assumption | omega), (by first | assumption | omega), (by first | assumption | omega), (by first | assumption | omega), (by first | assumption | omega)⟩ _ _ ls G (lv_sub hl [0, 1, 2, 3] rfl)
set_option maxHeartbeats 40000000 in
set_option maxRecDepth 100000 in
theorem z_case_fault (l : Launch) {p : Program} {e : Env} {s : State} {m : MethodId} {b : Nat} {below : List Frame} {meth : Method} {c : Code} {Q : State → Prop} {T : zTy} {A : Nat → Prop} {L i : Nat} {xs : Nat → Int32} (hx : p.tables.exec = Jvm.exec) (hb : c.code = cL_law) (C : CallFix p m c cL_law 4 s #[Value.ref b] zT RL) (hX : va_X b L xs s s.heap) (hbl : b < s.heap.size) (hbA : ¬ A b) (hL : L ≤ 3072) (hi6 : i + 6 ≤ L) {xo mo n4A n4B m1f : Nat} (hnA : n4A ≤ 131072) (hnB : n4B ≤ 131072) (hmf : m1f ≤ 16384) {bs : List va_W} (hI : zInv T xo mo n4A n4B m1f bs) {H : Heap} {locs : List Loc} {ls : Array Slot} (G : zS T A s.heap s bs H locs) (hl : lv_has ls 4 [(0, .ref b), (1, .ref xo), (2, .ref mo), (3, .int (nI i))]) (kk : ∀ (n1 n2 n3 : Nat) (bs1 : List va_W), zInv T xo mo n1 n2 n3 bs1 → ∀ (H1 : Heap) (locs1 : List Loc) (ls1 : Array Slot), zS T A s.heap s bs1 H1 locs1 → lv_has ls1 4 [(0, .ref b), (1, .ref xo), (2, .ref mo), (3, .int (nI i))] → W p l e room_1 s m #[Value.ref b] below meth c H1 locs1 (216 + 2 * i + 12) (27000 + 6 * (n1 + n2) + 2 * n3) Q (F0 m 1767 ls1 [])) : W p l e room_1 s m #[Value.ref b] below meth c H locs (216 + 2 * i) (27000 + 6 * (n4A + n4B) + 2 * m1f) Q (F0 m 307 ls []) := by
  obtain ⟨⟨t, im, mk, rd, po, co, tr, wa, wb_, fi, cd, wt, l0, l1, d0, d1, g0, g1, ln, z0_, z1_, wd0_, wd1_, wg0_, wg1_, rl, rdd, rg, r0, r1, tq, r2, r3, r4, r5, r6, r7, r8, z, wd, wg, wwA, mdA, wwB, mdB, wff, e0f, e1f, wc, cpo, wcp, wr, tpo, wrp, wp, fcd, m0, wta, l0a, l1a, d0a, d1a, g0a, g1a, lna, z0_a, z1_a, wd0_a, wd1_a, wg0_a, wg1_a, m1, wtb, l0b, l1b, d0b, d1b, g0b, g1b, lnb, z0_b, z1_b, wd0_b, wd1_b, wg0_b, wg1_b, m2, wtc, l0c, l1c, d0c, d1c, g0c, g1c, lnc, z0_c, z1_c, wd0_c, wd1_c, wg0_c, wg1_c, qi, fmk, m_all, m_has, i_size, i_next, i_where, i_token, i_number, i_word, i_wrong, i_farCrossing, m_read, i_z0, i_crossings, i_inns, m_posts, m_shut, m_here, i_steps, i_done, i_at, i_gone, m_was, m_came, m_seenAt, m_rowWorth, m_farBy, m_used, i_everywhere, i_again0, i_d0, i_never, i_firstCame, i_longRun, i_moved, i_crowd, i_l0, i_fitMany, i_fitLeast, i_fitMost, m_fitPost, m_fitEnd, m_keptPosts, i_x0, f_all, f_has, f_read, f_posts, f_shut, f_here, f_was, f_came, f_seenAt, f_rowWorth, f_farBy, f_used, f_fitPost, f_fitEnd, f_keptPosts⟩, rfl, H_wt, H_z0_, H_z1_, H_wd0_, H_wd1_, H_wg0_, H_wg1_, H_z, H_wd, H_wg, H_wwA, H_wwB, H_wff, H_wc, H_wcp, H_wr, H_wrp, H_wp, H_wta, H_z0_a, H_z1_a, H_wd0_a, H_wd1_a, H_wg0_a, H_wg1_a, H_wtb, H_z0_b, H_z1_b, H_wd0_b, H_wd1_b, H_wg0_b, H_wg1_b, H_wtc, H_z0_c, H_z1_c, H_wd0_c, H_wd1_c, H_wg0_c, H_wg1_c, hm0, hm1, hm2, h56, hFI, hAI, hRl, hHs⟩ := hI
  replace H_wt : hTold T t l0 l1 d0 d1 g0 g1 ln wt := H_wt
  replace H_z0_ : hLand T l0 z0_ := H_z0_
  replace H_z1_ : hLand T l1 z1_ := H_z1_
  replace H_wd0_ : hDay T d0 wd0_ := H_wd0_
  replace H_wd1_ : hDay T d1 wd1_ := H_wd1_
  replace H_wg0_ : hLog T g0 wg0_ := H_wg0_
  replace H_wg1_ : hLog T g1 wg1_ := H_wg1_
  replace H_z : hLandR T rl z := H_z
  replace H_wd : hDay T rdd wd := H_wd
  replace H_wg : hLog T rg wg := H_wg
  replace H_wwA : hWays T wa mdA n4A l0 wwA := H_wwA
  replace H_wwB : hWays T wb_ mdB n4B l1 wwB := H_wwB
  replace H_wff : hFit T fi e0f e1f m1f wff := H_wff
  replace H_wc : hCourse T co cpo wc := H_wc
  replace H_wcp : hPosts T cpo wcp := H_wcp
  replace H_wr : hTrail T tr tpo wr := H_wr
  replace H_wrp : hPosts T tpo wrp := H_wrp
  replace H_wp : hPosts T po wp := H_wp
  replace H_wta : hTold T m0 l0a l1a d0a d1a g0a g1a lna wta := H_wta
  replace H_z0_a : hLand T l0a z0_a := H_z0_a
  replace H_z1_a : hLand T l1a z1_a := H_z1_a
  replace H_wd0_a : hDay T d0a wd0_a := H_wd0_a
  replace H_wd1_a : hDay T d1a wd1_a := H_wd1_a
  replace H_wg0_a : hLog T g0a wg0_a := H_wg0_a
  replace H_wg1_a : hLog T g1a wg1_a := H_wg1_a
  replace H_wtb : hTold T m1 l0b l1b d0b d1b g0b g1b lnb wtb := H_wtb
  replace H_z0_b : hLand T l0b z0_b := H_z0_b
  replace H_z1_b : hLand T l1b z1_b := H_z1_b
  replace H_wd0_b : hDay T d0b wd0_b := H_wd0_b
  replace H_wd1_b : hDay T d1b wd1_b := H_wd1_b
  replace H_wg0_b : hLog T g0b wg0_b := H_wg0_b
  replace H_wg1_b : hLog T g1b wg1_b := H_wg1_b
  replace H_wtc : hTold T m2 l0c l1c d0c d1c g0c g1c lnc wtc := H_wtc
  replace H_z0_c : hLand T l0c z0_c := H_z0_c
  replace H_z1_c : hLand T l1c z1_c := H_z1_c
  replace H_wd0_c : hDay T d0c wd0_c := H_wd0_c
  replace H_wd1_c : hDay T d1c wd1_c := H_wd1_c
  replace H_wg0_c : hLog T g0c wg0_c := H_wg0_c
  replace H_wg1_c : hLog T g1c wg1_c := H_wg1_c
  replace hm0 : qi 0 = some m0 := hm0
  replace hm1 : qi 1 = some m1 := hm1
  replace hm2 : qi 2 = some m2 := hm2
  replace h56 : ((0 ≤ r5.toInt ∧ r5.toInt ≤ 600) ∧ 0 ≤ r6.toInt ∧ r6.toInt ≤ 1000) := h56
  replace hFI : (¬ e0f = 0 → e1f.toInt = 0 ∧ ¬ mdA = 0 ∨ e1f.toInt = 1 ∧ ¬ mdB = 0) := hFI
  replace hAI : zAI f_all := hAI
  replace hRl : zRl ln lna lnb lnc f_all := hRl
  replace hHs : zHs fmk f_has := hHs
  replace G : zS T A s.heap s [[(xo, .inr (10, [.ref t, .ref im, .ref mk, .ref rd, .ref po, .ref co, .ref tr, .ref wa, .ref wb_, .ref fi, .ref cd]))], wt, z0_, z1_, wd0_, wd1_, wg0_, wg1_, [(rd, .inr (7, [.ref rl, .ref rdd, .ref rg, .int r0, .int r1, .ref tq, .int r2, .int r3, .int r4, .int r5, .int r6, .int r7, .int r8]))], z, wd, wg, wwA, wwB, wff, wc, wcp, wr, wrp, wp, [(cd, .inl (T.2 0, 1000, .inl fcd))], wta, z0_a, z1_a, wd0_a, wd1_a, wg0_a, wg1_a, wtb, z0_b, z1_b, wd0_b, wd1_b, wg0_b, wg1_b, wtc, z0_c, z1_c, wd0_c, wd1_c, wg0_c, wg1_c, [(im, .inl (T.2 6, 3, .inr (.inr (.inr (.inr qi)))))], [(mk, .inl (T.2 2, 3, .inl fmk))], [(mo, .inr (11, [.ref m_all, .ref m_has, .int i_size, .int i_next, .int i_where, .int i_token, .int i_number, .int i_word, .int i_wrong, .int i_farCrossing, .ref m_read, .int i_z0, .int i_crossings, .int i_inns, .ref m_posts, .ref m_shut, .ref m_here, .int i_steps, .int i_done, .int i_at, .int i_gone, .ref m_was, .ref m_came, .ref m_seenAt, .ref m_rowWorth, .ref m_farBy, .ref m_used, .int i_everywhere, .int i_again0, .int i_d0, .int i_never, .int i_firstCame, .int i_longRun, .int i_moved, .int i_crowd, .int i_l0, .int i_fitMany, .int i_fitLeast, .int i_fitMost, .ref m_fitPost, .ref m_fitEnd, .ref m_keptPosts, .int i_x0]))], [(m_all, .inl (T.2 0, 3952, .inl f_all))], [(m_has, .inl (T.2 2, 3, .inl f_has))], [(m_read, .inl (T.2 0, 121, .inl f_read))], [(m_posts, .inl (T.2 0, 7, .inl f_posts))], [(m_shut, .inl (T.2 0, 7, .inl f_shut))], [(m_here, .inl (T.2 0, 7, .inl f_here))], [(m_was, .inl (T.2 0, 7, .inl f_was))], [(m_came, .inl (T.2 0, 7, .inl f_came))], [(m_seenAt, .inl (T.2 0, 16384, .inl f_seenAt))], [(m_rowWorth, .inl (T.2 0, 512, .inl f_rowWorth))], [(m_farBy, .inl (T.2 0, 49, .inl f_farBy))], [(m_used, .inl (T.2 0, 7, .inl f_used))], [(m_fitPost, .inl (T.2 0, 28, .inl f_fitPost))], [(m_fitEnd, .inl (T.2 0, 49, .inl f_fitEnd))], [(m_keptPosts, .inl (T.2 0, 7, .inl f_keptPosts))]] H locs := G
  have hB := zAI_0 hAI
  have hB4 := hB.1
  obtain ⟨hln, hlna, hlnb, hlnc⟩ := zRl_in hAI hRl
  refine lv_aload_n hx hb dL_law_307 rfl (lv_at hl 1 rfl) ?_
  refine lv_aload_n hx hb dL_law_308 rfl (lv_at hl 0 rfl) ?_
  refine lv_iload_n hx hb dL_law_309 rfl (lv_at hl 3 rfl) ?_
  refine lv_iconst (v := 1) hx hb dL_law_310 (by decide) ?_
  refine lv_iadd hx hb dL_law_311 ?_
  refine lv_topi (fun y_1 ey_1 => ?_)
  obtain rfl : y_1 = nI (i + 1) := ey_1.trans (z_iaddn i 1 rfl rfl)
  refine va_sld hx hb hX hbl hbA G.2.2.2.1 (vp_in_nI (by omega) (by omega)) dL_law_312 ?_
  refine lv_topi (fun v_2 ev_2 => ?_)
  rw [nI_clamp (by omega)] at ev_2
  have ev_2 : v_2 = xs (i + 1) := ev_2
  subst ev_2
  obtain ⟨v_3, v_4, v_5, v_6, h_7, h_8⟩ := H_wt
  have h_8 : zKT v_6 := h_8
  refine z_Vi (bc := [[(xo, .inr (10, [.ref t, .ref im, .ref mk, .ref rd, .ref po, .ref co, .ref tr, .ref wa, .ref wb_, .ref fi, .ref cd]))], wt]) (br := [z0_, z1_, wd0_, wd1_, wg0_, wg1_, [(rd, .inr (7, [.ref rl, .ref rdd, .ref rg, .int r0, .int r1, .ref tq, .int r2, .int r3, .int r4, .int r5, .int r6, .int r7, .int r8]))], z, wd, wg, wwA, wwB, wff, wc, wcp, wr, wrp, wp, [(cd, .inl (T.2 0, 1000, .inl fcd))], wta, z0_a, z1_a, wd0_a, wd1_a, wg0_a, wg1_a, wtb, z0_b, z1_b, wd0_b, wd1_b, wg0_b, wg1_b, wtc, z0_c, z1_c, wd0_c, wd1_c, wg0_c, wg1_c, [(im, .inl (T.2 6, 3, .inr (.inr (.inr (.inr qi)))))], [(mk, .inl (T.2 2, 3, .inl fmk))], [(mo, .inr (11, [.ref m_all, .ref m_has, .int i_size, .int i_next, .int i_where, .int i_token, .int i_number, .int i_word, .int i_wrong, .int i_farCrossing, .ref m_read, .int i_z0, .int i_crossings, .int i_inns, .ref m_posts, .ref m_shut, .ref m_here, .int i_steps, .int i_done, .int i_at, .int i_gone, .ref m_was, .ref m_came, .ref m_seenAt, .ref m_rowWorth, .ref m_farBy, .ref m_used, .int i_everywhere, .int i_again0, .int i_d0, .int i_never, .int i_firstCame, .int i_longRun, .int i_moved, .int i_crowd, .int i_l0, .int i_fitMany, .int i_fitLeast, .int i_fitMost, .ref m_fitPost, .ref m_fitEnd, .ref m_keptPosts, .int i_x0]))], [(m_all, .inl (T.2 0, 3952, .inl f_all))], [(m_has, .inl (T.2 2, 3, .inl f_has))], [(m_read, .inl (T.2 0, 121, .inl f_read))], [(m_posts, .inl (T.2 0, 7, .inl f_posts))], [(m_shut, .inl (T.2 0, 7, .inl f_shut))], [(m_here, .inl (T.2 0, 7, .inl f_here))], [(m_was, .inl (T.2 0, 7, .inl f_was))], [(m_came, .inl (T.2 0, 7, .inl f_came))], [(m_seenAt, .inl (T.2 0, 16384, .inl f_seenAt))], [(m_rowWorth, .inl (T.2 0, 512, .inl f_rowWorth))], [(m_farBy, .inl (T.2 0, 49, .inl f_farBy))], [(m_used, .inl (T.2 0, 7, .inl f_used))], [(m_fitPost, .inl (T.2 0, 28, .inl f_fitPost))], [(m_fitEnd, .inl (T.2 0, 49, .inl f_fitEnd))], [(m_keptPosts, .inl (T.2 0, 7, .inl f_keptPosts))]]) (As := [.int (xs (i + 1))]) (rest := []) C G (c_fault l T xo t im mk rd po co tr wa wb_ fi cd l0 l1 d0 d1 g0 g1 ln v_3 v_4 v_5 v_6 wt (xs (i + 1)) h_7 (by first | assumption | omega | rfl)) (kV_RL_28 C.2.2.2.2 (Nat.le_of_ble_eq_true rfl) (Nat.le_of_ble_eq_true rfl)) [0, 1] [2, 3, 4, 5, 6, 7, 8, 9, 10, 11, 12, 13, 14, 15, 16, 17, 18, 19, 20, 21, 22, 23, 24, 25, 26, 27, 28, 29, 30, 31, 32, 33, 34, 35, 36, 37, 38, 39, 40, 41, 42, 43, 44, 45, 46, 47, 48, 49, 50, 51, 52, 53, 54, 55, 56, 57, 58, 59] rfl rfl (ci := 10) (qc := (RX11, TX11, 11)) rfl rfl (List.mem_flatten.mpr ⟨_, List.mem_of_getElem? (i := 0) rfl, List.mem_cons_self⟩) rfl rfl hl.1 dL_law_313 (by show _ + 0 ≤ 600000; omega) (by show _ + 0 ≤ 7302250; omega) (fun r_10 b1 H locs hw G => ?_)
  obtain ⟨rfl, h_9⟩ := hw
  have G : zS T A s.heap s [z0_, z1_, wd0_, wd1_, wg0_, wg1_, [(rd, .inr (7, [.ref rl, .ref rdd, .ref rg, .int r0, .int r1, .ref tq, .int r2, .int r3, .int r4, .int r5, .int r6, .int r7, .int r8]))], z, wd, wg, wwA, wwB, wff, wc, wcp, wr, wrp, wp, [(cd, .inl (T.2 0, 1000, .inl fcd))], wta, z0_a, z1_a, wd0_a, wd1_a, wg0_a, wg1_a, wtb, z0_b, z1_b, wd0_b, wd1_b, wg0_b, wg1_b, wtc, z0_c, z1_c, wd0_c, wd1_c, wg0_c, wg1_c, [(im, .inl (T.2 6, 3, .inr (.inr (.inr (.inr qi)))))], [(mk, .inl (T.2 2, 3, .inl fmk))], [(mo, .inr (11, [.ref m_all, .ref m_has, .int i_size, .int i_next, .int i_where, .int i_token, .int i_number, .int i_word, .int i_wrong, .int i_farCrossing, .ref m_read, .int i_z0, .int i_crossings, .int i_inns, .ref m_posts, .ref m_shut, .ref m_here, .int i_steps, .int i_done, .int i_at, .int i_gone, .ref m_was, .ref m_came, .ref m_seenAt, .ref m_rowWorth, .ref m_farBy, .ref m_used, .int i_everywhere, .int i_again0, .int i_d0, .int i_never, .int i_firstCame, .int i_longRun, .int i_moved, .int i_crowd, .int i_l0, .int i_fitMany, .int i_fitLeast, .int i_fitMost, .ref m_fitPost, .ref m_fitEnd, .ref m_keptPosts, .int i_x0]))], [(m_all, .inl (T.2 0, 3952, .inl f_all))], [(m_has, .inl (T.2 2, 3, .inl f_has))], [(m_read, .inl (T.2 0, 121, .inl f_read))], [(m_posts, .inl (T.2 0, 7, .inl f_posts))], [(m_shut, .inl (T.2 0, 7, .inl f_shut))], [(m_here, .inl (T.2 0, 7, .inl f_here))], [(m_was, .inl (T.2 0, 7, .inl f_was))], [(m_came, .inl (T.2 0, 7, .inl f_came))], [(m_seenAt, .inl (T.2 0, 16384, .inl f_seenAt))], [(m_rowWorth, .inl (T.2 0, 512, .inl f_rowWorth))], [(m_farBy, .inl (T.2 0, 49, .inl f_farBy))], [(m_used, .inl (T.2 0, 7, .inl f_used))], [(m_fitPost, .inl (T.2 0, 28, .inl f_fitPost))], [(m_fitEnd, .inl (T.2 0, 49, .inl f_fitEnd))], [(m_keptPosts, .inl (T.2 0, 7, .inl f_keptPosts))], [(xo, .inr (10, [.ref t, .ref im, .ref mk, .ref rd, .ref po, .ref co, .ref tr, .ref wa, .ref wb_, .ref fi, .ref cd]))], wt] _ _ := G
  refine lv_pop hx hb dL_law_316 rfl ?_
  refine lv_aload_n hx hb dL_law_317 rfl (lv_at hl 2 rfl) ?_
  refine lv_aload_n hx hb dL_law_318 rfl (lv_at hl 0 rfl) ?_
  refine lv_iload_n hx hb dL_law_319 rfl (lv_at hl 3 rfl) ?_
  refine lv_iconst (v := 1) hx hb dL_law_320 (by decide) ?_
  refine lv_iadd hx hb dL_law_321 ?_
  refine lv_topi (fun y_11 ey_11 => ?_)
  obtain rfl : y_11 = nI (i + 1) := ey_11.trans (z_iaddn i 1 rfl rfl)
  refine va_sld hx hb hX hbl hbA G.2.2.2.1 (vp_in_nI (by omega) (by omega)) dL_law_322 ?_
  refine lv_topi (fun v_12 ev_12 => ?_)
  rw [nI_clamp (by omega)] at ev_12
  have ev_12 : v_12 = xs (i + 1) := ev_12
  subst ev_12
  refine z_Vi (bc := [[(mo, .inr (11, [.ref m_all, .ref m_has, .int i_size, .int i_next, .int i_where, .int i_token, .int i_number, .int i_word, .int i_wrong, .int i_farCrossing, .ref m_read, .int i_z0, .int i_crossings, .int i_inns, .ref m_posts, .ref m_shut, .ref m_here, .int i_steps, .int i_done, .int i_at, .int i_gone, .ref m_was, .ref m_came, .ref m_seenAt, .ref m_rowWorth, .ref m_farBy, .ref m_used, .int i_everywhere, .int i_again0, .int i_d0, .int i_never, .int i_firstCame, .int i_longRun, .int i_moved, .int i_crowd, .int i_l0, .int i_fitMany, .int i_fitLeast, .int i_fitMost, .ref m_fitPost, .ref m_fitEnd, .ref m_keptPosts, .int i_x0]))], [(m_all, .inl (T.2 0, 3952, .inl f_all))]]) (br := [z0_, z1_, wd0_, wd1_, wg0_, wg1_, [(rd, .inr (7, [.ref rl, .ref rdd, .ref rg, .int r0, .int r1, .ref tq, .int r2, .int r3, .int r4, .int r5, .int r6, .int r7, .int r8]))], z, wd, wg, wwA, wwB, wff, wc, wcp, wr, wrp, wp, [(cd, .inl (T.2 0, 1000, .inl fcd))], wta, z0_a, z1_a, wd0_a, wd1_a, wg0_a, wg1_a, wtb, z0_b, z1_b, wd0_b, wd1_b, wg0_b, wg1_b, wtc, z0_c, z1_c, wd0_c, wd1_c, wg0_c, wg1_c, [(im, .inl (T.2 6, 3, .inr (.inr (.inr (.inr qi)))))], [(mk, .inl (T.2 2, 3, .inl fmk))], [(m_has, .inl (T.2 2, 3, .inl f_has))], [(m_read, .inl (T.2 0, 121, .inl f_read))], [(m_posts, .inl (T.2 0, 7, .inl f_posts))], [(m_shut, .inl (T.2 0, 7, .inl f_shut))], [(m_here, .inl (T.2 0, 7, .inl f_here))], [(m_was, .inl (T.2 0, 7, .inl f_was))], [(m_came, .inl (T.2 0, 7, .inl f_came))], [(m_seenAt, .inl (T.2 0, 16384, .inl f_seenAt))], [(m_rowWorth, .inl (T.2 0, 512, .inl f_rowWorth))], [(m_farBy, .inl (T.2 0, 49, .inl f_farBy))], [(m_used, .inl (T.2 0, 7, .inl f_used))], [(m_fitPost, .inl (T.2 0, 28, .inl f_fitPost))], [(m_fitEnd, .inl (T.2 0, 49, .inl f_fitEnd))], [(m_keptPosts, .inl (T.2 0, 7, .inl f_keptPosts))], [(xo, .inr (10, [.ref t, .ref im, .ref mk, .ref rd, .ref po, .ref co, .ref tr, .ref wa, .ref wb_, .ref fi, .ref cd]))], wt]) (As := [.int (xs (i + 1))]) (rest := []) C G (c_m_fault l T mo m_all m_has i_size i_next i_where i_token i_number i_word i_wrong i_farCrossing m_read i_z0 i_crossings i_inns m_posts m_shut m_here i_steps i_done i_at i_gone m_was m_came m_seenAt m_rowWorth m_farBy m_used i_everywhere i_again0 i_d0 i_never i_firstCame i_longRun i_moved i_crowd i_l0 i_fitMany i_fitLeast i_fitMost m_fitPost m_fitEnd m_keptPosts i_x0 f_all (xs (i + 1)) (by first | assumption | omega | rfl)) (kV_RL_31 C.2.2.2.2 (Nat.le_of_ble_eq_true rfl) (Nat.le_of_ble_eq_true rfl)) [42, 43] [0, 1, 2, 3, 4, 5, 6, 7, 8, 9, 10, 11, 12, 13, 14, 15, 16, 17, 18, 19, 20, 21, 22, 23, 24, 25, 26, 27, 28, 29, 30, 31, 32, 33, 34, 35, 36, 37, 38, 39, 40, 41, 44, 45, 46, 47, 48, 49, 50, 51, 52, 53, 54, 55, 56, 57, 58, 59] rfl rfl (ci := 11) (qc := (RX12, TX12, 43)) rfl rfl (List.mem_flatten.mpr ⟨_, List.mem_of_getElem? (i := 0) rfl, List.mem_cons_self⟩) rfl rfl hl.1 dL_law_323 (by show _ + 0 ≤ 600000; omega) (by show _ + 0 ≤ 7302250; omega) (fun r_13 b1 H locs hw G => ?_)
  obtain rfl := hw
  have G : zS T A s.heap s [z0_, z1_, wd0_, wd1_, wg0_, wg1_, [(rd, .inr (7, [.ref rl, .ref rdd, .ref rg, .int r0, .int r1, .ref tq, .int r2, .int r3, .int r4, .int r5, .int r6, .int r7, .int r8]))], z, wd, wg, wwA, wwB, wff, wc, wcp, wr, wrp, wp, [(cd, .inl (T.2 0, 1000, .inl fcd))], wta, z0_a, z1_a, wd0_a, wd1_a, wg0_a, wg1_a, wtb, z0_b, z1_b, wd0_b, wd1_b, wg0_b, wg1_b, wtc, z0_c, z1_c, wd0_c, wd1_c, wg0_c, wg1_c, [(im, .inl (T.2 6, 3, .inr (.inr (.inr (.inr qi)))))], [(mk, .inl (T.2 2, 3, .inl fmk))], [(m_has, .inl (T.2 2, 3, .inl f_has))], [(m_read, .inl (T.2 0, 121, .inl f_read))], [(m_posts, .inl (T.2 0, 7, .inl f_posts))], [(m_shut, .inl (T.2 0, 7, .inl f_shut))], [(m_here, .inl (T.2 0, 7, .inl f_here))], [(m_was, .inl (T.2 0, 7, .inl f_was))], [(m_came, .inl (T.2 0, 7, .inl f_came))], [(m_seenAt, .inl (T.2 0, 16384, .inl f_seenAt))], [(m_rowWorth, .inl (T.2 0, 512, .inl f_rowWorth))], [(m_farBy, .inl (T.2 0, 49, .inl f_farBy))], [(m_used, .inl (T.2 0, 7, .inl f_used))], [(m_fitPost, .inl (T.2 0, 28, .inl f_fitPost))], [(m_fitEnd, .inl (T.2 0, 49, .inl f_fitEnd))], [(m_keptPosts, .inl (T.2 0, 7, .inl f_keptPosts))], [(xo, .inr (10, [.ref t, .ref im, .ref mk, .ref rd, .ref po, .ref co, .ref tr, .ref wa, .ref wb_, .ref fi, .ref cd]))], wt, [(mo, .inr (11, [.ref m_all, .ref m_has, .int i_size, .int i_next, .int i_where, .int i_token, .int i_number, .int i_word, .int i_wrong, .int i_farCrossing, .ref m_read, .int i_z0, .int i_crossings, .int i_inns, .ref m_posts, .ref m_shut, .ref m_here, .int i_steps, .int i_done, .int i_at, .int i_gone, .ref m_was, .ref m_came, .ref m_seenAt, .ref m_rowWorth, .ref m_farBy, .ref m_used, .int i_everywhere, .int i_again0, .int i_d0, .int i_never, .int i_firstCame, .int i_longRun, .int i_moved, .int i_crowd, .int i_l0, .int i_fitMany, .int i_fitLeast, .int i_fitMost, .ref m_fitPost, .ref m_fitEnd, .ref m_keptPosts, .int i_x0]))], [(m_all, .inl (T.2 0, 3952, .inl f_all))]] _ _ := G
  refine lv_pop hx hb dL_law_326 rfl ?_
  refine lv_goto (tgt := 1767) hx hb dL_law_327 (by decide) ?_
  have G := G.sub (bs' := [[(xo, .inr (10, [.ref t, .ref im, .ref mk, .ref rd, .ref po, .ref co, .ref tr, .ref wa, .ref wb_, .ref fi, .ref cd]))], wt, z0_, z1_, wd0_, wd1_, wg0_, wg1_, [(rd, .inr (7, [.ref rl, .ref rdd, .ref rg, .int r0, .int r1, .ref tq, .int r2, .int r3, .int r4, .int r5, .int r6, .int r7, .int r8]))], z, wd, wg, wwA, wwB, wff, wc, wcp, wr, wrp, wp, [(cd, .inl (T.2 0, 1000, .inl fcd))], wta, z0_a, z1_a, wd0_a, wd1_a, wg0_a, wg1_a, wtb, z0_b, z1_b, wd0_b, wd1_b, wg0_b, wg1_b, wtc, z0_c, z1_c, wd0_c, wd1_c, wg0_c, wg1_c, [(im, .inl (T.2 6, 3, .inr (.inr (.inr (.inr qi)))))], [(mk, .inl (T.2 2, 3, .inl fmk))], [(mo, .inr (11, [.ref m_all, .ref m_has, .int i_size, .int i_next, .int i_where, .int i_token, .int i_number, .int i_word, .int i_wrong, .int i_farCrossing, .ref m_read, .int i_z0, .int i_crossings, .int i_inns, .ref m_posts, .ref m_shut, .ref m_here, .int i_steps, .int i_done, .int i_at, .int i_gone, .ref m_was, .ref m_came, .ref m_seenAt, .ref m_rowWorth, .ref m_farBy, .ref m_used, .int i_everywhere, .int i_again0, .int i_d0, .int i_never, .int i_firstCame, .int i_longRun, .int i_moved, .int i_crowd, .int i_l0, .int i_fitMany, .int i_fitLeast, .int i_fitMost, .ref m_fitPost, .ref m_fitEnd, .ref m_keptPosts, .int i_x0]))], [(m_all, .inl (T.2 0, 3952, .inl f_all))], [(m_has, .inl (T.2 2, 3, .inl f_has))], [(m_read, .inl (T.2 0, 121, .inl f_read))], [(m_posts, .inl (T.2 0, 7, .inl f_posts))], [(m_shut, .inl (T.2 0, 7, .inl f_shut))], [(m_here, .inl (T.2 0, 7, .inl f_here))], [(m_was, .inl (T.2 0, 7, .inl f_was))], [(m_came, .inl (T.2 0, 7, .inl f_came))], [(m_seenAt, .inl (T.2 0, 16384, .inl f_seenAt))], [(m_rowWorth, .inl (T.2 0, 512, .inl f_rowWorth))], [(m_farBy, .inl (T.2 0, 49, .inl f_farBy))], [(m_used, .inl (T.2 0, 7, .inl f_used))], [(m_fitPost, .inl (T.2 0, 28, .inl f_fitPost))], [(m_fitEnd, .inl (T.2 0, 49, .inl f_fitEnd))], [(m_keptPosts, .inl (T.2 0, 7, .inl f_keptPosts))]]) [56, 57, 0, 1, 2, 3, 4, 5, 6, 7, 8, 9, 10, 11, 12, 13, 14, 15, 16, 17, 18, 19, 20, 21, 22, 23, 24, 25, 26, 27, 28, 29, 30, 31, 32, 33, 34, 35, 36, 37, 38, 39, 40, 41, 58, 59, 42, 43, 44, 45, 46, 47, 48, 49, 50, 51, 52, 53, 54, 55] rfl
  refine W.widen (k := 216 + 2 * i + 12) (n := 27000 + 6 * (n4A + n4B) + 2 * m1f) (by omega) (by omega) ?_
  exact kk n4A n4B m1f _ ⟨⟨t, im, mk, rd, po, co, tr, wa, wb_, fi, cd, wt, l0, l1, d0, d1, g0, g1, ln, z0_, z1_, wd0_, wd1_, wg0_, wg1_, rl, rdd, rg, r0, r1, tq, r2, r3, r4, r5, r6, r7, r8, z, wd, wg, wwA, mdA, wwB, mdB, wff, e0f, e1f, wc, cpo, wcp, wr, tpo, wrp, wp, fcd, m0, wta, l0a, l1a, d0a, d1a, g0a, g1a, lna, z0_a, z1_a, wd0_a, wd1_a, wg0_a, wg1_a, m1, wtb, l0b, l1b, d0b, d1b, g0b, g1b, lnb, z0_b, z1_b, wd0_b, wd1_b, wg0_b, wg1_b, m2, wtc, l0c, l1c, d0c, d1c, g0c, g1c, lnc, z0_c, z1_c, wd0_c, wd1_c, wg0_c, wg1_c, qi, fmk, m_all, m_has, i_size, i_next, i_where, i_token, i_number, i_word, i_wrong, i_farCrossing, m_read, i_z0, i_crossings, i_inns, m_posts, m_shut, m_here, i_steps, i_done, i_at, i_gone, m_was, m_came, m_seenAt, m_rowWorth, m_farBy, m_used, i_everywhere, i_again0, i_d0, i_never, i_firstCame, i_longRun, i_moved, i_crowd, i_l0, i_fitMany, i_fitLeast, i_fitMost, m_fitPost, m_fitEnd, m_keptPosts, i_x0, f_all, f_has, f_read, f_posts, f_shut, f_here, f_was, f_came, f_seenAt, f_rowWorth, f_farBy, f_used, f_fitPost, f_fitEnd, f_keptPosts⟩, rfl, ⟨v_3, v_4, v_5, v_6, h_7, (by first | assumption | omega)⟩, H_z0_, H_z1_, H_wd0_, H_wd1_, H_wg0_, H_wg1_, H_z, H_wd, H_wg, H_wwA, H_wwB, H_wff, H_wc, H_wcp, H_wr, H_wrp, H_wp, H_wta, H_z0_a, H_z1_a, H_wd0_a, H_wd1_a, H_wg0_a, H_wg1_a, H_wtb, H_z0_b, H_z1_b, H_wd0_b, H_wd1_b, H_wg0_b, H_wg1_b, H_wtc, H_z0_c, H_z1_c, H_wd0_c, H_wd1_c, H_wg0_c, H_wg1_c, (by first | assumption | omega), (by first | assumption | omega), (by first | assumption | omega), (by first | assumption | omega), (by first | assumption | omega), (by first | assumption | omega), (by first | assumption | omega), (by first | assumption | omega)⟩ _ _ ls G (lv_sub hl [0, 1, 2, 3] rfl)
set_option maxHeartbeats 40000000 in
set_option maxRecDepth 100000 in
theorem z_case_land (l : Launch) {p : Program} {e : Env} {s : State} {m : MethodId} {b : Nat} {below : List Frame} {meth : Method} {c : Code} {Q : State → Prop} {T : zTy} {A : Nat → Prop} {L i : Nat} {xs : Nat → Int32} (hx : p.tables.exec = Jvm.exec) (hb : c.code = cL_law) (C : CallFix p m c cL_law 4 s #[Value.ref b] zT RL) (hX : va_X b L xs s s.heap) (hbl : b < s.heap.size) (hbA : ¬ A b) (hL : L ≤ 3072) (hi6 : i + 6 ≤ L) {xo mo n4A n4B m1f : Nat} (hnA : n4A ≤ 131072) (hnB : n4B ≤ 131072) (hmf : m1f ≤ 16384) {bs : List va_W} (hI : zInv T xo mo n4A n4B m1f bs) {H : Heap} {locs : List Loc} {ls : Array Slot} (G : zS T A s.heap s bs H locs) (hl : lv_has ls 4 [(0, .ref b), (1, .ref xo), (2, .ref mo), (3, .int (nI i))]) (kk : ∀ (n1 n2 n3 : Nat) (bs1 : List va_W), zInv T xo mo n1 n2 n3 bs1 → ∀ (H1 : Heap) (locs1 : List Loc) (ls1 : Array Slot), zS T A s.heap s bs1 H1 locs1 → lv_has ls1 4 [(0, .ref b), (1, .ref xo), (2, .ref mo), (3, .int (nI i))] → W p l e room_1 s m #[Value.ref b] below meth c H1 locs1 (216 + 2 * i + 12) (27000 + 6 * (n1 + n2) + 2 * n3) Q (F0 m 1767 ls1 [])) : W p l e room_1 s m #[Value.ref b] below meth c H locs (216 + 2 * i) (27000 + 6 * (n4A + n4B) + 2 * m1f) Q (F0 m 330 ls []) := by
  obtain ⟨⟨t, im, mk, rd, po, co, tr, wa, wb_, fi, cd, wt, l0, l1, d0, d1, g0, g1, ln, z0_, z1_, wd0_, wd1_, wg0_, wg1_, rl, rdd, rg, r0, r1, tq, r2, r3, r4, r5, r6, r7, r8, z, wd, wg, wwA, mdA, wwB, mdB, wff, e0f, e1f, wc, cpo, wcp, wr, tpo, wrp, wp, fcd, m0, wta, l0a, l1a, d0a, d1a, g0a, g1a, lna, z0_a, z1_a, wd0_a, wd1_a, wg0_a, wg1_a, m1, wtb, l0b, l1b, d0b, d1b, g0b, g1b, lnb, z0_b, z1_b, wd0_b, wd1_b, wg0_b, wg1_b, m2, wtc, l0c, l1c, d0c, d1c, g0c, g1c, lnc, z0_c, z1_c, wd0_c, wd1_c, wg0_c, wg1_c, qi, fmk, m_all, m_has, i_size, i_next, i_where, i_token, i_number, i_word, i_wrong, i_farCrossing, m_read, i_z0, i_crossings, i_inns, m_posts, m_shut, m_here, i_steps, i_done, i_at, i_gone, m_was, m_came, m_seenAt, m_rowWorth, m_farBy, m_used, i_everywhere, i_again0, i_d0, i_never, i_firstCame, i_longRun, i_moved, i_crowd, i_l0, i_fitMany, i_fitLeast, i_fitMost, m_fitPost, m_fitEnd, m_keptPosts, i_x0, f_all, f_has, f_read, f_posts, f_shut, f_here, f_was, f_came, f_seenAt, f_rowWorth, f_farBy, f_used, f_fitPost, f_fitEnd, f_keptPosts⟩, rfl, H_wt, H_z0_, H_z1_, H_wd0_, H_wd1_, H_wg0_, H_wg1_, H_z, H_wd, H_wg, H_wwA, H_wwB, H_wff, H_wc, H_wcp, H_wr, H_wrp, H_wp, H_wta, H_z0_a, H_z1_a, H_wd0_a, H_wd1_a, H_wg0_a, H_wg1_a, H_wtb, H_z0_b, H_z1_b, H_wd0_b, H_wd1_b, H_wg0_b, H_wg1_b, H_wtc, H_z0_c, H_z1_c, H_wd0_c, H_wd1_c, H_wg0_c, H_wg1_c, hm0, hm1, hm2, h56, hFI, hAI, hRl, hHs⟩ := hI
  replace H_wt : hTold T t l0 l1 d0 d1 g0 g1 ln wt := H_wt
  replace H_z0_ : hLand T l0 z0_ := H_z0_
  replace H_z1_ : hLand T l1 z1_ := H_z1_
  replace H_wd0_ : hDay T d0 wd0_ := H_wd0_
  replace H_wd1_ : hDay T d1 wd1_ := H_wd1_
  replace H_wg0_ : hLog T g0 wg0_ := H_wg0_
  replace H_wg1_ : hLog T g1 wg1_ := H_wg1_
  replace H_z : hLandR T rl z := H_z
  replace H_wd : hDay T rdd wd := H_wd
  replace H_wg : hLog T rg wg := H_wg
  replace H_wwA : hWays T wa mdA n4A l0 wwA := H_wwA
  replace H_wwB : hWays T wb_ mdB n4B l1 wwB := H_wwB
  replace H_wff : hFit T fi e0f e1f m1f wff := H_wff
  replace H_wc : hCourse T co cpo wc := H_wc
  replace H_wcp : hPosts T cpo wcp := H_wcp
  replace H_wr : hTrail T tr tpo wr := H_wr
  replace H_wrp : hPosts T tpo wrp := H_wrp
  replace H_wp : hPosts T po wp := H_wp
  replace H_wta : hTold T m0 l0a l1a d0a d1a g0a g1a lna wta := H_wta
  replace H_z0_a : hLand T l0a z0_a := H_z0_a
  replace H_z1_a : hLand T l1a z1_a := H_z1_a
  replace H_wd0_a : hDay T d0a wd0_a := H_wd0_a
  replace H_wd1_a : hDay T d1a wd1_a := H_wd1_a
  replace H_wg0_a : hLog T g0a wg0_a := H_wg0_a
  replace H_wg1_a : hLog T g1a wg1_a := H_wg1_a
  replace H_wtb : hTold T m1 l0b l1b d0b d1b g0b g1b lnb wtb := H_wtb
  replace H_z0_b : hLand T l0b z0_b := H_z0_b
  replace H_z1_b : hLand T l1b z1_b := H_z1_b
  replace H_wd0_b : hDay T d0b wd0_b := H_wd0_b
  replace H_wd1_b : hDay T d1b wd1_b := H_wd1_b
  replace H_wg0_b : hLog T g0b wg0_b := H_wg0_b
  replace H_wg1_b : hLog T g1b wg1_b := H_wg1_b
  replace H_wtc : hTold T m2 l0c l1c d0c d1c g0c g1c lnc wtc := H_wtc
  replace H_z0_c : hLand T l0c z0_c := H_z0_c
  replace H_z1_c : hLand T l1c z1_c := H_z1_c
  replace H_wd0_c : hDay T d0c wd0_c := H_wd0_c
  replace H_wd1_c : hDay T d1c wd1_c := H_wd1_c
  replace H_wg0_c : hLog T g0c wg0_c := H_wg0_c
  replace H_wg1_c : hLog T g1c wg1_c := H_wg1_c
  replace hm0 : qi 0 = some m0 := hm0
  replace hm1 : qi 1 = some m1 := hm1
  replace hm2 : qi 2 = some m2 := hm2
  replace h56 : ((0 ≤ r5.toInt ∧ r5.toInt ≤ 600) ∧ 0 ≤ r6.toInt ∧ r6.toInt ≤ 1000) := h56
  replace hFI : (¬ e0f = 0 → e1f.toInt = 0 ∧ ¬ mdA = 0 ∨ e1f.toInt = 1 ∧ ¬ mdB = 0) := hFI
  replace hAI : zAI f_all := hAI
  replace hRl : zRl ln lna lnb lnc f_all := hRl
  replace hHs : zHs fmk f_has := hHs
  replace G : zS T A s.heap s [[(xo, .inr (10, [.ref t, .ref im, .ref mk, .ref rd, .ref po, .ref co, .ref tr, .ref wa, .ref wb_, .ref fi, .ref cd]))], wt, z0_, z1_, wd0_, wd1_, wg0_, wg1_, [(rd, .inr (7, [.ref rl, .ref rdd, .ref rg, .int r0, .int r1, .ref tq, .int r2, .int r3, .int r4, .int r5, .int r6, .int r7, .int r8]))], z, wd, wg, wwA, wwB, wff, wc, wcp, wr, wrp, wp, [(cd, .inl (T.2 0, 1000, .inl fcd))], wta, z0_a, z1_a, wd0_a, wd1_a, wg0_a, wg1_a, wtb, z0_b, z1_b, wd0_b, wd1_b, wg0_b, wg1_b, wtc, z0_c, z1_c, wd0_c, wd1_c, wg0_c, wg1_c, [(im, .inl (T.2 6, 3, .inr (.inr (.inr (.inr qi)))))], [(mk, .inl (T.2 2, 3, .inl fmk))], [(mo, .inr (11, [.ref m_all, .ref m_has, .int i_size, .int i_next, .int i_where, .int i_token, .int i_number, .int i_word, .int i_wrong, .int i_farCrossing, .ref m_read, .int i_z0, .int i_crossings, .int i_inns, .ref m_posts, .ref m_shut, .ref m_here, .int i_steps, .int i_done, .int i_at, .int i_gone, .ref m_was, .ref m_came, .ref m_seenAt, .ref m_rowWorth, .ref m_farBy, .ref m_used, .int i_everywhere, .int i_again0, .int i_d0, .int i_never, .int i_firstCame, .int i_longRun, .int i_moved, .int i_crowd, .int i_l0, .int i_fitMany, .int i_fitLeast, .int i_fitMost, .ref m_fitPost, .ref m_fitEnd, .ref m_keptPosts, .int i_x0]))], [(m_all, .inl (T.2 0, 3952, .inl f_all))], [(m_has, .inl (T.2 2, 3, .inl f_has))], [(m_read, .inl (T.2 0, 121, .inl f_read))], [(m_posts, .inl (T.2 0, 7, .inl f_posts))], [(m_shut, .inl (T.2 0, 7, .inl f_shut))], [(m_here, .inl (T.2 0, 7, .inl f_here))], [(m_was, .inl (T.2 0, 7, .inl f_was))], [(m_came, .inl (T.2 0, 7, .inl f_came))], [(m_seenAt, .inl (T.2 0, 16384, .inl f_seenAt))], [(m_rowWorth, .inl (T.2 0, 512, .inl f_rowWorth))], [(m_farBy, .inl (T.2 0, 49, .inl f_farBy))], [(m_used, .inl (T.2 0, 7, .inl f_used))], [(m_fitPost, .inl (T.2 0, 28, .inl f_fitPost))], [(m_fitEnd, .inl (T.2 0, 49, .inl f_fitEnd))], [(m_keptPosts, .inl (T.2 0, 7, .inl f_keptPosts))]] H locs := G
  have hB := zAI_0 hAI
  have hB4 := hB.1
  obtain ⟨hln, hlna, hlnb, hlnc⟩ := zRl_in hAI hRl
  refine lv_aload_n hx hb dL_law_330 rfl (lv_at hl 1 rfl) ?_
  refine lv_aload_n hx hb dL_law_331 rfl (lv_at hl 0 rfl) ?_
  refine lv_iload_n hx hb dL_law_332 rfl (lv_at hl 3 rfl) ?_
  refine lv_iconst (v := 1) hx hb dL_law_333 (by decide) ?_
  refine lv_iadd hx hb dL_law_334 ?_
  refine lv_topi (fun y_1 ey_1 => ?_)
  obtain rfl : y_1 = nI (i + 1) := ey_1.trans (z_iaddn i 1 rfl rfl)
  refine va_sld hx hb hX hbl hbA G.2.2.2.1 (vp_in_nI (by omega) (by omega)) dL_law_335 ?_
  refine lv_topi (fun v_2 ev_2 => ?_)
  rw [nI_clamp (by omega)] at ev_2
  have ev_2 : v_2 = xs (i + 1) := ev_2
  subst ev_2
  refine lv_aload_n hx hb dL_law_336 rfl (lv_at hl 0 rfl) ?_
  refine lv_iload_n hx hb dL_law_337 rfl (lv_at hl 3 rfl) ?_
  refine lv_iconst (v := 2) hx hb dL_law_338 (by decide) ?_
  refine lv_iadd hx hb dL_law_339 ?_
  refine lv_topi (fun y_3 ey_3 => ?_)
  obtain rfl : y_3 = nI (i + 2) := ey_3.trans (z_iaddn i 2 rfl rfl)
  refine va_sld hx hb hX hbl hbA G.2.2.2.1 (vp_in_nI (by omega) (by omega)) dL_law_340 ?_
  refine lv_topi (fun v_4 ev_4 => ?_)
  rw [nI_clamp (by omega)] at ev_4
  have ev_4 : v_4 = xs (i + 2) := ev_4
  subst ev_4
  obtain ⟨v_5, v_6, v_7, v_8, h_9, h_10⟩ := H_wt
  have h_10 : zKT v_8 := h_10
  obtain ⟨v_11, v_12, v_13, v_14, v_15, v_16, h_17, h_18⟩ := H_z0_
  have h_18 : zLI v_11 v_13 v_15 := h_18
  obtain ⟨v_19, v_20, v_21, v_22, v_23, v_24, h_25, h_26⟩ := H_z1_
  have h_26 : zLI v_19 v_21 v_23 := h_26
  refine z_Vi (bc := [[(xo, .inr (10, [.ref t, .ref im, .ref mk, .ref rd, .ref po, .ref co, .ref tr, .ref wa, .ref wb_, .ref fi, .ref cd]))], wt, z0_, z1_]) (br := [wd0_, wd1_, wg0_, wg1_, [(rd, .inr (7, [.ref rl, .ref rdd, .ref rg, .int r0, .int r1, .ref tq, .int r2, .int r3, .int r4, .int r5, .int r6, .int r7, .int r8]))], z, wd, wg, wwA, wwB, wff, wc, wcp, wr, wrp, wp, [(cd, .inl (T.2 0, 1000, .inl fcd))], wta, z0_a, z1_a, wd0_a, wd1_a, wg0_a, wg1_a, wtb, z0_b, z1_b, wd0_b, wd1_b, wg0_b, wg1_b, wtc, z0_c, z1_c, wd0_c, wd1_c, wg0_c, wg1_c, [(im, .inl (T.2 6, 3, .inr (.inr (.inr (.inr qi)))))], [(mk, .inl (T.2 2, 3, .inl fmk))], [(mo, .inr (11, [.ref m_all, .ref m_has, .int i_size, .int i_next, .int i_where, .int i_token, .int i_number, .int i_word, .int i_wrong, .int i_farCrossing, .ref m_read, .int i_z0, .int i_crossings, .int i_inns, .ref m_posts, .ref m_shut, .ref m_here, .int i_steps, .int i_done, .int i_at, .int i_gone, .ref m_was, .ref m_came, .ref m_seenAt, .ref m_rowWorth, .ref m_farBy, .ref m_used, .int i_everywhere, .int i_again0, .int i_d0, .int i_never, .int i_firstCame, .int i_longRun, .int i_moved, .int i_crowd, .int i_l0, .int i_fitMany, .int i_fitLeast, .int i_fitMost, .ref m_fitPost, .ref m_fitEnd, .ref m_keptPosts, .int i_x0]))], [(m_all, .inl (T.2 0, 3952, .inl f_all))], [(m_has, .inl (T.2 2, 3, .inl f_has))], [(m_read, .inl (T.2 0, 121, .inl f_read))], [(m_posts, .inl (T.2 0, 7, .inl f_posts))], [(m_shut, .inl (T.2 0, 7, .inl f_shut))], [(m_here, .inl (T.2 0, 7, .inl f_here))], [(m_was, .inl (T.2 0, 7, .inl f_was))], [(m_came, .inl (T.2 0, 7, .inl f_came))], [(m_seenAt, .inl (T.2 0, 16384, .inl f_seenAt))], [(m_rowWorth, .inl (T.2 0, 512, .inl f_rowWorth))], [(m_farBy, .inl (T.2 0, 49, .inl f_farBy))], [(m_used, .inl (T.2 0, 7, .inl f_used))], [(m_fitPost, .inl (T.2 0, 28, .inl f_fitPost))], [(m_fitEnd, .inl (T.2 0, 49, .inl f_fitEnd))], [(m_keptPosts, .inl (T.2 0, 7, .inl f_keptPosts))]]) (As := [.int (xs (i + 1)), .int (xs (i + 2))]) (rest := []) C G (c_land l T xo t im mk rd po co tr wa wb_ fi cd l0 l1 d0 d1 g0 g1 ln v_5 v_6 v_7 v_8 wt v_11 v_12 v_13 v_14 v_15 v_16 z0_ v_19 v_20 v_21 v_22 v_23 v_24 z1_ (xs (i + 1)) (xs (i + 2)) h_9 (by first | assumption | omega | rfl) h_17 (by first | assumption | omega | rfl) h_25 (by first | assumption | omega | rfl)) (kV_RL_32 C.2.2.2.2 (Nat.le_of_ble_eq_true rfl) (Nat.le_of_ble_eq_true rfl)) [0, 1, 2, 3] [4, 5, 6, 7, 8, 9, 10, 11, 12, 13, 14, 15, 16, 17, 18, 19, 20, 21, 22, 23, 24, 25, 26, 27, 28, 29, 30, 31, 32, 33, 34, 35, 36, 37, 38, 39, 40, 41, 42, 43, 44, 45, 46, 47, 48, 49, 50, 51, 52, 53, 54, 55, 56, 57, 58, 59] rfl rfl (ci := 10) (qc := (RX11, TX11, 11)) rfl rfl (List.mem_flatten.mpr ⟨_, List.mem_of_getElem? (i := 0) rfl, List.mem_cons_self⟩) rfl rfl hl.1 dL_law_341 (by show _ + 0 ≤ 600000; omega) (by show _ + 0 ≤ 7302250; omega) (fun r_27 b1 H locs hw G => ?_)
  obtain rfl := hw
  have G : zS T A s.heap s [wd0_, wd1_, wg0_, wg1_, [(rd, .inr (7, [.ref rl, .ref rdd, .ref rg, .int r0, .int r1, .ref tq, .int r2, .int r3, .int r4, .int r5, .int r6, .int r7, .int r8]))], z, wd, wg, wwA, wwB, wff, wc, wcp, wr, wrp, wp, [(cd, .inl (T.2 0, 1000, .inl fcd))], wta, z0_a, z1_a, wd0_a, wd1_a, wg0_a, wg1_a, wtb, z0_b, z1_b, wd0_b, wd1_b, wg0_b, wg1_b, wtc, z0_c, z1_c, wd0_c, wd1_c, wg0_c, wg1_c, [(im, .inl (T.2 6, 3, .inr (.inr (.inr (.inr qi)))))], [(mk, .inl (T.2 2, 3, .inl fmk))], [(mo, .inr (11, [.ref m_all, .ref m_has, .int i_size, .int i_next, .int i_where, .int i_token, .int i_number, .int i_word, .int i_wrong, .int i_farCrossing, .ref m_read, .int i_z0, .int i_crossings, .int i_inns, .ref m_posts, .ref m_shut, .ref m_here, .int i_steps, .int i_done, .int i_at, .int i_gone, .ref m_was, .ref m_came, .ref m_seenAt, .ref m_rowWorth, .ref m_farBy, .ref m_used, .int i_everywhere, .int i_again0, .int i_d0, .int i_never, .int i_firstCame, .int i_longRun, .int i_moved, .int i_crowd, .int i_l0, .int i_fitMany, .int i_fitLeast, .int i_fitMost, .ref m_fitPost, .ref m_fitEnd, .ref m_keptPosts, .int i_x0]))], [(m_all, .inl (T.2 0, 3952, .inl f_all))], [(m_has, .inl (T.2 2, 3, .inl f_has))], [(m_read, .inl (T.2 0, 121, .inl f_read))], [(m_posts, .inl (T.2 0, 7, .inl f_posts))], [(m_shut, .inl (T.2 0, 7, .inl f_shut))], [(m_here, .inl (T.2 0, 7, .inl f_here))], [(m_was, .inl (T.2 0, 7, .inl f_was))], [(m_came, .inl (T.2 0, 7, .inl f_came))], [(m_seenAt, .inl (T.2 0, 16384, .inl f_seenAt))], [(m_rowWorth, .inl (T.2 0, 512, .inl f_rowWorth))], [(m_farBy, .inl (T.2 0, 49, .inl f_farBy))], [(m_used, .inl (T.2 0, 7, .inl f_used))], [(m_fitPost, .inl (T.2 0, 28, .inl f_fitPost))], [(m_fitEnd, .inl (T.2 0, 49, .inl f_fitEnd))], [(m_keptPosts, .inl (T.2 0, 7, .inl f_keptPosts))], [(xo, .inr (10, [.ref t, .ref im, .ref mk, .ref rd, .ref po, .ref co, .ref tr, .ref wa, .ref wb_, .ref fi, .ref cd]))], wt, z0_, z1_] _ _ := G
  refine lv_pop hx hb dL_law_344 rfl ?_
  refine lv_aload_n hx hb dL_law_345 rfl (lv_at hl 2 rfl) ?_
  refine lv_aload_n hx hb dL_law_346 rfl (lv_at hl 0 rfl) ?_
  refine lv_iload_n hx hb dL_law_347 rfl (lv_at hl 3 rfl) ?_
  refine lv_iconst (v := 1) hx hb dL_law_348 (by decide) ?_
  refine lv_iadd hx hb dL_law_349 ?_
  refine lv_topi (fun y_28 ey_28 => ?_)
  obtain rfl : y_28 = nI (i + 1) := ey_28.trans (z_iaddn i 1 rfl rfl)
  refine va_sld hx hb hX hbl hbA G.2.2.2.1 (vp_in_nI (by omega) (by omega)) dL_law_350 ?_
  refine lv_topi (fun v_29 ev_29 => ?_)
  rw [nI_clamp (by omega)] at ev_29
  have ev_29 : v_29 = xs (i + 1) := ev_29
  subst ev_29
  refine lv_aload_n hx hb dL_law_351 rfl (lv_at hl 0 rfl) ?_
  refine lv_iload_n hx hb dL_law_352 rfl (lv_at hl 3 rfl) ?_
  refine lv_iconst (v := 2) hx hb dL_law_353 (by decide) ?_
  refine lv_iadd hx hb dL_law_354 ?_
  refine lv_topi (fun y_30 ey_30 => ?_)
  obtain rfl : y_30 = nI (i + 2) := ey_30.trans (z_iaddn i 2 rfl rfl)
  refine va_sld hx hb hX hbl hbA G.2.2.2.1 (vp_in_nI (by omega) (by omega)) dL_law_355 ?_
  refine lv_topi (fun v_31 ev_31 => ?_)
  rw [nI_clamp (by omega)] at ev_31
  have ev_31 : v_31 = xs (i + 2) := ev_31
  subst ev_31
  refine z_Vi (bc := [[(mo, .inr (11, [.ref m_all, .ref m_has, .int i_size, .int i_next, .int i_where, .int i_token, .int i_number, .int i_word, .int i_wrong, .int i_farCrossing, .ref m_read, .int i_z0, .int i_crossings, .int i_inns, .ref m_posts, .ref m_shut, .ref m_here, .int i_steps, .int i_done, .int i_at, .int i_gone, .ref m_was, .ref m_came, .ref m_seenAt, .ref m_rowWorth, .ref m_farBy, .ref m_used, .int i_everywhere, .int i_again0, .int i_d0, .int i_never, .int i_firstCame, .int i_longRun, .int i_moved, .int i_crowd, .int i_l0, .int i_fitMany, .int i_fitLeast, .int i_fitMost, .ref m_fitPost, .ref m_fitEnd, .ref m_keptPosts, .int i_x0]))], [(m_all, .inl (T.2 0, 3952, .inl f_all))], [(m_posts, .inl (T.2 0, 7, .inl f_posts))], [(m_shut, .inl (T.2 0, 7, .inl f_shut))], [(m_here, .inl (T.2 0, 7, .inl f_here))]]) (br := [wd0_, wd1_, wg0_, wg1_, [(rd, .inr (7, [.ref rl, .ref rdd, .ref rg, .int r0, .int r1, .ref tq, .int r2, .int r3, .int r4, .int r5, .int r6, .int r7, .int r8]))], z, wd, wg, wwA, wwB, wff, wc, wcp, wr, wrp, wp, [(cd, .inl (T.2 0, 1000, .inl fcd))], wta, z0_a, z1_a, wd0_a, wd1_a, wg0_a, wg1_a, wtb, z0_b, z1_b, wd0_b, wd1_b, wg0_b, wg1_b, wtc, z0_c, z1_c, wd0_c, wd1_c, wg0_c, wg1_c, [(im, .inl (T.2 6, 3, .inr (.inr (.inr (.inr qi)))))], [(mk, .inl (T.2 2, 3, .inl fmk))], [(m_has, .inl (T.2 2, 3, .inl f_has))], [(m_read, .inl (T.2 0, 121, .inl f_read))], [(m_was, .inl (T.2 0, 7, .inl f_was))], [(m_came, .inl (T.2 0, 7, .inl f_came))], [(m_seenAt, .inl (T.2 0, 16384, .inl f_seenAt))], [(m_rowWorth, .inl (T.2 0, 512, .inl f_rowWorth))], [(m_farBy, .inl (T.2 0, 49, .inl f_farBy))], [(m_used, .inl (T.2 0, 7, .inl f_used))], [(m_fitPost, .inl (T.2 0, 28, .inl f_fitPost))], [(m_fitEnd, .inl (T.2 0, 49, .inl f_fitEnd))], [(m_keptPosts, .inl (T.2 0, 7, .inl f_keptPosts))], [(xo, .inr (10, [.ref t, .ref im, .ref mk, .ref rd, .ref po, .ref co, .ref tr, .ref wa, .ref wb_, .ref fi, .ref cd]))], wt, z0_, z1_]) (As := [.int (xs (i + 1)), .int (xs (i + 2))]) (rest := []) C G (c_m_land l T mo m_all m_has i_size i_next i_where i_token i_number i_word i_wrong i_farCrossing m_read i_z0 i_crossings i_inns m_posts m_shut m_here i_steps i_done i_at i_gone m_was m_came m_seenAt m_rowWorth m_farBy m_used i_everywhere i_again0 i_d0 i_never i_firstCame i_longRun i_moved i_crowd i_l0 i_fitMany i_fitLeast i_fitMost m_fitPost m_fitEnd m_keptPosts i_x0 f_all f_posts f_shut f_here (xs (i + 1)) (xs (i + 2)) (by first | assumption | omega | rfl)) (kV_RL_35 C.2.2.2.2 (Nat.le_of_ble_eq_true rfl) (Nat.le_of_ble_eq_true rfl)) [40, 41, 44, 45, 46] [0, 1, 2, 3, 4, 5, 6, 7, 8, 9, 10, 11, 12, 13, 14, 15, 16, 17, 18, 19, 20, 21, 22, 23, 24, 25, 26, 27, 28, 29, 30, 31, 32, 33, 34, 35, 36, 37, 38, 39, 42, 43, 47, 48, 49, 50, 51, 52, 53, 54, 55, 56, 57, 58, 59] rfl rfl (ci := 11) (qc := (RX12, TX12, 43)) rfl rfl (List.mem_flatten.mpr ⟨_, List.mem_of_getElem? (i := 0) rfl, List.mem_cons_self⟩) rfl rfl hl.1 dL_law_356 (by show _ + 0 ≤ 600000; omega) (by show _ + 0 ≤ 7302250; omega) (fun r_40 b1 H locs hw G => ?_)
  obtain ⟨j_z0_32, j_crossings_33, j_inns_34, j_steps_35, j_done_36, g_posts_37, g_shut_38, g_here_39, rfl⟩ := hw
  have G : zS T A s.heap s [wd0_, wd1_, wg0_, wg1_, [(rd, .inr (7, [.ref rl, .ref rdd, .ref rg, .int r0, .int r1, .ref tq, .int r2, .int r3, .int r4, .int r5, .int r6, .int r7, .int r8]))], z, wd, wg, wwA, wwB, wff, wc, wcp, wr, wrp, wp, [(cd, .inl (T.2 0, 1000, .inl fcd))], wta, z0_a, z1_a, wd0_a, wd1_a, wg0_a, wg1_a, wtb, z0_b, z1_b, wd0_b, wd1_b, wg0_b, wg1_b, wtc, z0_c, z1_c, wd0_c, wd1_c, wg0_c, wg1_c, [(im, .inl (T.2 6, 3, .inr (.inr (.inr (.inr qi)))))], [(mk, .inl (T.2 2, 3, .inl fmk))], [(m_has, .inl (T.2 2, 3, .inl f_has))], [(m_read, .inl (T.2 0, 121, .inl f_read))], [(m_was, .inl (T.2 0, 7, .inl f_was))], [(m_came, .inl (T.2 0, 7, .inl f_came))], [(m_seenAt, .inl (T.2 0, 16384, .inl f_seenAt))], [(m_rowWorth, .inl (T.2 0, 512, .inl f_rowWorth))], [(m_farBy, .inl (T.2 0, 49, .inl f_farBy))], [(m_used, .inl (T.2 0, 7, .inl f_used))], [(m_fitPost, .inl (T.2 0, 28, .inl f_fitPost))], [(m_fitEnd, .inl (T.2 0, 49, .inl f_fitEnd))], [(m_keptPosts, .inl (T.2 0, 7, .inl f_keptPosts))], [(xo, .inr (10, [.ref t, .ref im, .ref mk, .ref rd, .ref po, .ref co, .ref tr, .ref wa, .ref wb_, .ref fi, .ref cd]))], wt, z0_, z1_, [(mo, .inr (11, [.ref m_all, .ref m_has, .int i_size, .int i_next, .int i_where, .int i_token, .int i_number, .int i_word, .int i_wrong, .int i_farCrossing, .ref m_read, .int j_z0_32, .int j_crossings_33, .int j_inns_34, .ref m_posts, .ref m_shut, .ref m_here, .int j_steps_35, .int j_done_36, .int i_at, .int i_gone, .ref m_was, .ref m_came, .ref m_seenAt, .ref m_rowWorth, .ref m_farBy, .ref m_used, .int i_everywhere, .int i_again0, .int i_d0, .int i_never, .int i_firstCame, .int i_longRun, .int i_moved, .int i_crowd, .int i_l0, .int i_fitMany, .int i_fitLeast, .int i_fitMost, .ref m_fitPost, .ref m_fitEnd, .ref m_keptPosts, .int i_x0]))], [(m_all, .inl (T.2 0, 3952, .inl f_all))], [(m_posts, .inl (T.2 0, 7, .inl g_posts_37))], [(m_shut, .inl (T.2 0, 7, .inl g_shut_38))], [(m_here, .inl (T.2 0, 7, .inl g_here_39))]] _ _ := G
  refine lv_pop hx hb dL_law_359 rfl ?_
  refine lv_goto (tgt := 1767) hx hb dL_law_360 (by decide) ?_
  have G := G.sub (bs' := [[(xo, .inr (10, [.ref t, .ref im, .ref mk, .ref rd, .ref po, .ref co, .ref tr, .ref wa, .ref wb_, .ref fi, .ref cd]))], wt, z0_, z1_, wd0_, wd1_, wg0_, wg1_, [(rd, .inr (7, [.ref rl, .ref rdd, .ref rg, .int r0, .int r1, .ref tq, .int r2, .int r3, .int r4, .int r5, .int r6, .int r7, .int r8]))], z, wd, wg, wwA, wwB, wff, wc, wcp, wr, wrp, wp, [(cd, .inl (T.2 0, 1000, .inl fcd))], wta, z0_a, z1_a, wd0_a, wd1_a, wg0_a, wg1_a, wtb, z0_b, z1_b, wd0_b, wd1_b, wg0_b, wg1_b, wtc, z0_c, z1_c, wd0_c, wd1_c, wg0_c, wg1_c, [(im, .inl (T.2 6, 3, .inr (.inr (.inr (.inr qi)))))], [(mk, .inl (T.2 2, 3, .inl fmk))], [(mo, .inr (11, [.ref m_all, .ref m_has, .int i_size, .int i_next, .int i_where, .int i_token, .int i_number, .int i_word, .int i_wrong, .int i_farCrossing, .ref m_read, .int j_z0_32, .int j_crossings_33, .int j_inns_34, .ref m_posts, .ref m_shut, .ref m_here, .int j_steps_35, .int j_done_36, .int i_at, .int i_gone, .ref m_was, .ref m_came, .ref m_seenAt, .ref m_rowWorth, .ref m_farBy, .ref m_used, .int i_everywhere, .int i_again0, .int i_d0, .int i_never, .int i_firstCame, .int i_longRun, .int i_moved, .int i_crowd, .int i_l0, .int i_fitMany, .int i_fitLeast, .int i_fitMost, .ref m_fitPost, .ref m_fitEnd, .ref m_keptPosts, .int i_x0]))], [(m_all, .inl (T.2 0, 3952, .inl f_all))], [(m_has, .inl (T.2 2, 3, .inl f_has))], [(m_read, .inl (T.2 0, 121, .inl f_read))], [(m_posts, .inl (T.2 0, 7, .inl g_posts_37))], [(m_shut, .inl (T.2 0, 7, .inl g_shut_38))], [(m_here, .inl (T.2 0, 7, .inl g_here_39))], [(m_was, .inl (T.2 0, 7, .inl f_was))], [(m_came, .inl (T.2 0, 7, .inl f_came))], [(m_seenAt, .inl (T.2 0, 16384, .inl f_seenAt))], [(m_rowWorth, .inl (T.2 0, 512, .inl f_rowWorth))], [(m_farBy, .inl (T.2 0, 49, .inl f_farBy))], [(m_used, .inl (T.2 0, 7, .inl f_used))], [(m_fitPost, .inl (T.2 0, 28, .inl f_fitPost))], [(m_fitEnd, .inl (T.2 0, 49, .inl f_fitEnd))], [(m_keptPosts, .inl (T.2 0, 7, .inl f_keptPosts))]]) [51, 52, 53, 54, 0, 1, 2, 3, 4, 5, 6, 7, 8, 9, 10, 11, 12, 13, 14, 15, 16, 17, 18, 19, 20, 21, 22, 23, 24, 25, 26, 27, 28, 29, 30, 31, 32, 33, 34, 35, 36, 37, 38, 39, 55, 56, 40, 41, 57, 58, 59, 42, 43, 44, 45, 46, 47, 48, 49, 50] rfl
  refine W.widen (k := 216 + 2 * i + 12) (n := 27000 + 6 * (n4A + n4B) + 2 * m1f) (by omega) (by omega) ?_
  exact kk n4A n4B m1f _ ⟨⟨t, im, mk, rd, po, co, tr, wa, wb_, fi, cd, wt, l0, l1, d0, d1, g0, g1, ln, z0_, z1_, wd0_, wd1_, wg0_, wg1_, rl, rdd, rg, r0, r1, tq, r2, r3, r4, r5, r6, r7, r8, z, wd, wg, wwA, mdA, wwB, mdB, wff, e0f, e1f, wc, cpo, wcp, wr, tpo, wrp, wp, fcd, m0, wta, l0a, l1a, d0a, d1a, g0a, g1a, lna, z0_a, z1_a, wd0_a, wd1_a, wg0_a, wg1_a, m1, wtb, l0b, l1b, d0b, d1b, g0b, g1b, lnb, z0_b, z1_b, wd0_b, wd1_b, wg0_b, wg1_b, m2, wtc, l0c, l1c, d0c, d1c, g0c, g1c, lnc, z0_c, z1_c, wd0_c, wd1_c, wg0_c, wg1_c, qi, fmk, m_all, m_has, i_size, i_next, i_where, i_token, i_number, i_word, i_wrong, i_farCrossing, m_read, j_z0_32, j_crossings_33, j_inns_34, m_posts, m_shut, m_here, j_steps_35, j_done_36, i_at, i_gone, m_was, m_came, m_seenAt, m_rowWorth, m_farBy, m_used, i_everywhere, i_again0, i_d0, i_never, i_firstCame, i_longRun, i_moved, i_crowd, i_l0, i_fitMany, i_fitLeast, i_fitMost, m_fitPost, m_fitEnd, m_keptPosts, i_x0, f_all, f_has, f_read, g_posts_37, g_shut_38, g_here_39, f_was, f_came, f_seenAt, f_rowWorth, f_farBy, f_used, f_fitPost, f_fitEnd, f_keptPosts⟩, rfl, ⟨v_5, v_6, v_7, v_8, h_9, (by first | assumption | omega)⟩, ⟨v_11, v_12, v_13, v_14, v_15, v_16, h_17, (by first | assumption | omega)⟩, ⟨v_19, v_20, v_21, v_22, v_23, v_24, h_25, (by first | assumption | omega)⟩, H_wd0_, H_wd1_, H_wg0_, H_wg1_, H_z, H_wd, H_wg, H_wwA, H_wwB, H_wff, H_wc, H_wcp, H_wr, H_wrp, H_wp, H_wta, H_z0_a, H_z1_a, H_wd0_a, H_wd1_a, H_wg0_a, H_wg1_a, H_wtb, H_z0_b, H_z1_b, H_wd0_b, H_wd1_b, H_wg0_b, H_wg1_b, H_wtc, H_z0_c, H_z1_c, H_wd0_c, H_wd1_c, H_wg0_c, H_wg1_c, (by first | assumption | omega), (by first | assumption | omega), (by first | assumption | omega), (by first | assumption | omega), (by first | assumption | omega), (by first | assumption | omega), (by first | assumption | omega), (by first | assumption | omega)⟩ _ _ ls G (lv_sub hl [0, 1, 2, 3] rfl)
set_option maxHeartbeats 40000000 in
set_option maxRecDepth 100000 in
theorem z_case_deed (l : Launch) {p : Program} {e : Env} {s : State} {m : MethodId} {b : Nat} {below : List Frame} {meth : Method} {c : Code} {Q : State → Prop} {T : zTy} {A : Nat → Prop} {L i : Nat} {xs : Nat → Int32} (hx : p.tables.exec = Jvm.exec) (hb : c.code = cL_law) (C : CallFix p m c cL_law 4 s #[Value.ref b] zT RL) (hX : va_X b L xs s s.heap) (hbl : b < s.heap.size) (hbA : ¬ A b) (hL : L ≤ 3072) (hi6 : i + 6 ≤ L) {xo mo n4A n4B m1f : Nat} (hnA : n4A ≤ 131072) (hnB : n4B ≤ 131072) (hmf : m1f ≤ 16384) {bs : List va_W} (hI : zInv T xo mo n4A n4B m1f bs) {H : Heap} {locs : List Loc} {ls : Array Slot} (G : zS T A s.heap s bs H locs) (hl : lv_has ls 4 [(0, .ref b), (1, .ref xo), (2, .ref mo), (3, .int (nI i))]) (kk : ∀ (n1 n2 n3 : Nat) (bs1 : List va_W), zInv T xo mo n1 n2 n3 bs1 → ∀ (H1 : Heap) (locs1 : List Loc) (ls1 : Array Slot), zS T A s.heap s bs1 H1 locs1 → lv_has ls1 4 [(0, .ref b), (1, .ref xo), (2, .ref mo), (3, .int (nI i))] → W p l e room_1 s m #[Value.ref b] below meth c H1 locs1 (216 + 2 * i + 12) (27000 + 6 * (n1 + n2) + 2 * n3) Q (F0 m 1767 ls1 [])) : W p l e room_1 s m #[Value.ref b] below meth c H locs (216 + 2 * i) (27000 + 6 * (n4A + n4B) + 2 * m1f) Q (F0 m 363 ls []) := by
  obtain ⟨⟨t, im, mk, rd, po, co, tr, wa, wb_, fi, cd, wt, l0, l1, d0, d1, g0, g1, ln, z0_, z1_, wd0_, wd1_, wg0_, wg1_, rl, rdd, rg, r0, r1, tq, r2, r3, r4, r5, r6, r7, r8, z, wd, wg, wwA, mdA, wwB, mdB, wff, e0f, e1f, wc, cpo, wcp, wr, tpo, wrp, wp, fcd, m0, wta, l0a, l1a, d0a, d1a, g0a, g1a, lna, z0_a, z1_a, wd0_a, wd1_a, wg0_a, wg1_a, m1, wtb, l0b, l1b, d0b, d1b, g0b, g1b, lnb, z0_b, z1_b, wd0_b, wd1_b, wg0_b, wg1_b, m2, wtc, l0c, l1c, d0c, d1c, g0c, g1c, lnc, z0_c, z1_c, wd0_c, wd1_c, wg0_c, wg1_c, qi, fmk, m_all, m_has, i_size, i_next, i_where, i_token, i_number, i_word, i_wrong, i_farCrossing, m_read, i_z0, i_crossings, i_inns, m_posts, m_shut, m_here, i_steps, i_done, i_at, i_gone, m_was, m_came, m_seenAt, m_rowWorth, m_farBy, m_used, i_everywhere, i_again0, i_d0, i_never, i_firstCame, i_longRun, i_moved, i_crowd, i_l0, i_fitMany, i_fitLeast, i_fitMost, m_fitPost, m_fitEnd, m_keptPosts, i_x0, f_all, f_has, f_read, f_posts, f_shut, f_here, f_was, f_came, f_seenAt, f_rowWorth, f_farBy, f_used, f_fitPost, f_fitEnd, f_keptPosts⟩, rfl, H_wt, H_z0_, H_z1_, H_wd0_, H_wd1_, H_wg0_, H_wg1_, H_z, H_wd, H_wg, H_wwA, H_wwB, H_wff, H_wc, H_wcp, H_wr, H_wrp, H_wp, H_wta, H_z0_a, H_z1_a, H_wd0_a, H_wd1_a, H_wg0_a, H_wg1_a, H_wtb, H_z0_b, H_z1_b, H_wd0_b, H_wd1_b, H_wg0_b, H_wg1_b, H_wtc, H_z0_c, H_z1_c, H_wd0_c, H_wd1_c, H_wg0_c, H_wg1_c, hm0, hm1, hm2, h56, hFI, hAI, hRl, hHs⟩ := hI
  replace H_wt : hTold T t l0 l1 d0 d1 g0 g1 ln wt := H_wt
  replace H_z0_ : hLand T l0 z0_ := H_z0_
  replace H_z1_ : hLand T l1 z1_ := H_z1_
  replace H_wd0_ : hDay T d0 wd0_ := H_wd0_
  replace H_wd1_ : hDay T d1 wd1_ := H_wd1_
  replace H_wg0_ : hLog T g0 wg0_ := H_wg0_
  replace H_wg1_ : hLog T g1 wg1_ := H_wg1_
  replace H_z : hLandR T rl z := H_z
  replace H_wd : hDay T rdd wd := H_wd
  replace H_wg : hLog T rg wg := H_wg
  replace H_wwA : hWays T wa mdA n4A l0 wwA := H_wwA
  replace H_wwB : hWays T wb_ mdB n4B l1 wwB := H_wwB
  replace H_wff : hFit T fi e0f e1f m1f wff := H_wff
  replace H_wc : hCourse T co cpo wc := H_wc
  replace H_wcp : hPosts T cpo wcp := H_wcp
  replace H_wr : hTrail T tr tpo wr := H_wr
  replace H_wrp : hPosts T tpo wrp := H_wrp
  replace H_wp : hPosts T po wp := H_wp
  replace H_wta : hTold T m0 l0a l1a d0a d1a g0a g1a lna wta := H_wta
  replace H_z0_a : hLand T l0a z0_a := H_z0_a
  replace H_z1_a : hLand T l1a z1_a := H_z1_a
  replace H_wd0_a : hDay T d0a wd0_a := H_wd0_a
  replace H_wd1_a : hDay T d1a wd1_a := H_wd1_a
  replace H_wg0_a : hLog T g0a wg0_a := H_wg0_a
  replace H_wg1_a : hLog T g1a wg1_a := H_wg1_a
  replace H_wtb : hTold T m1 l0b l1b d0b d1b g0b g1b lnb wtb := H_wtb
  replace H_z0_b : hLand T l0b z0_b := H_z0_b
  replace H_z1_b : hLand T l1b z1_b := H_z1_b
  replace H_wd0_b : hDay T d0b wd0_b := H_wd0_b
  replace H_wd1_b : hDay T d1b wd1_b := H_wd1_b
  replace H_wg0_b : hLog T g0b wg0_b := H_wg0_b
  replace H_wg1_b : hLog T g1b wg1_b := H_wg1_b
  replace H_wtc : hTold T m2 l0c l1c d0c d1c g0c g1c lnc wtc := H_wtc
  replace H_z0_c : hLand T l0c z0_c := H_z0_c
  replace H_z1_c : hLand T l1c z1_c := H_z1_c
  replace H_wd0_c : hDay T d0c wd0_c := H_wd0_c
  replace H_wd1_c : hDay T d1c wd1_c := H_wd1_c
  replace H_wg0_c : hLog T g0c wg0_c := H_wg0_c
  replace H_wg1_c : hLog T g1c wg1_c := H_wg1_c
  replace hm0 : qi 0 = some m0 := hm0
  replace hm1 : qi 1 = some m1 := hm1
  replace hm2 : qi 2 = some m2 := hm2
  replace h56 : ((0 ≤ r5.toInt ∧ r5.toInt ≤ 600) ∧ 0 ≤ r6.toInt ∧ r6.toInt ≤ 1000) := h56
  replace hFI : (¬ e0f = 0 → e1f.toInt = 0 ∧ ¬ mdA = 0 ∨ e1f.toInt = 1 ∧ ¬ mdB = 0) := hFI
  replace hAI : zAI f_all := hAI
  replace hRl : zRl ln lna lnb lnc f_all := hRl
  replace hHs : zHs fmk f_has := hHs
  replace G : zS T A s.heap s [[(xo, .inr (10, [.ref t, .ref im, .ref mk, .ref rd, .ref po, .ref co, .ref tr, .ref wa, .ref wb_, .ref fi, .ref cd]))], wt, z0_, z1_, wd0_, wd1_, wg0_, wg1_, [(rd, .inr (7, [.ref rl, .ref rdd, .ref rg, .int r0, .int r1, .ref tq, .int r2, .int r3, .int r4, .int r5, .int r6, .int r7, .int r8]))], z, wd, wg, wwA, wwB, wff, wc, wcp, wr, wrp, wp, [(cd, .inl (T.2 0, 1000, .inl fcd))], wta, z0_a, z1_a, wd0_a, wd1_a, wg0_a, wg1_a, wtb, z0_b, z1_b, wd0_b, wd1_b, wg0_b, wg1_b, wtc, z0_c, z1_c, wd0_c, wd1_c, wg0_c, wg1_c, [(im, .inl (T.2 6, 3, .inr (.inr (.inr (.inr qi)))))], [(mk, .inl (T.2 2, 3, .inl fmk))], [(mo, .inr (11, [.ref m_all, .ref m_has, .int i_size, .int i_next, .int i_where, .int i_token, .int i_number, .int i_word, .int i_wrong, .int i_farCrossing, .ref m_read, .int i_z0, .int i_crossings, .int i_inns, .ref m_posts, .ref m_shut, .ref m_here, .int i_steps, .int i_done, .int i_at, .int i_gone, .ref m_was, .ref m_came, .ref m_seenAt, .ref m_rowWorth, .ref m_farBy, .ref m_used, .int i_everywhere, .int i_again0, .int i_d0, .int i_never, .int i_firstCame, .int i_longRun, .int i_moved, .int i_crowd, .int i_l0, .int i_fitMany, .int i_fitLeast, .int i_fitMost, .ref m_fitPost, .ref m_fitEnd, .ref m_keptPosts, .int i_x0]))], [(m_all, .inl (T.2 0, 3952, .inl f_all))], [(m_has, .inl (T.2 2, 3, .inl f_has))], [(m_read, .inl (T.2 0, 121, .inl f_read))], [(m_posts, .inl (T.2 0, 7, .inl f_posts))], [(m_shut, .inl (T.2 0, 7, .inl f_shut))], [(m_here, .inl (T.2 0, 7, .inl f_here))], [(m_was, .inl (T.2 0, 7, .inl f_was))], [(m_came, .inl (T.2 0, 7, .inl f_came))], [(m_seenAt, .inl (T.2 0, 16384, .inl f_seenAt))], [(m_rowWorth, .inl (T.2 0, 512, .inl f_rowWorth))], [(m_farBy, .inl (T.2 0, 49, .inl f_farBy))], [(m_used, .inl (T.2 0, 7, .inl f_used))], [(m_fitPost, .inl (T.2 0, 28, .inl f_fitPost))], [(m_fitEnd, .inl (T.2 0, 49, .inl f_fitEnd))], [(m_keptPosts, .inl (T.2 0, 7, .inl f_keptPosts))]] H locs := G
  have hB := zAI_0 hAI
  have hB4 := hB.1
  obtain ⟨hln, hlna, hlnb, hlnc⟩ := zRl_in hAI hRl
  refine lv_aload_n hx hb dL_law_363 rfl (lv_at hl 1 rfl) ?_
  refine lv_aload_n hx hb dL_law_364 rfl (lv_at hl 0 rfl) ?_
  refine lv_iload_n hx hb dL_law_365 rfl (lv_at hl 3 rfl) ?_
  refine lv_iconst (v := 1) hx hb dL_law_366 (by decide) ?_
  refine lv_iadd hx hb dL_law_367 ?_
  refine lv_topi (fun y_1 ey_1 => ?_)
  obtain rfl : y_1 = nI (i + 1) := ey_1.trans (z_iaddn i 1 rfl rfl)
  refine va_sld hx hb hX hbl hbA G.2.2.2.1 (vp_in_nI (by omega) (by omega)) dL_law_368 ?_
  refine lv_topi (fun v_2 ev_2 => ?_)
  rw [nI_clamp (by omega)] at ev_2
  have ev_2 : v_2 = xs (i + 1) := ev_2
  subst ev_2
  refine lv_aload_n hx hb dL_law_369 rfl (lv_at hl 0 rfl) ?_
  refine lv_iload_n hx hb dL_law_370 rfl (lv_at hl 3 rfl) ?_
  refine lv_iconst (v := 2) hx hb dL_law_371 (by decide) ?_
  refine lv_iadd hx hb dL_law_372 ?_
  refine lv_topi (fun y_3 ey_3 => ?_)
  obtain rfl : y_3 = nI (i + 2) := ey_3.trans (z_iaddn i 2 rfl rfl)
  refine va_sld hx hb hX hbl hbA G.2.2.2.1 (vp_in_nI (by omega) (by omega)) dL_law_373 ?_
  refine lv_topi (fun v_4 ev_4 => ?_)
  rw [nI_clamp (by omega)] at ev_4
  have ev_4 : v_4 = xs (i + 2) := ev_4
  subst ev_4
  refine lv_aload_n hx hb dL_law_374 rfl (lv_at hl 0 rfl) ?_
  refine lv_iload_n hx hb dL_law_375 rfl (lv_at hl 3 rfl) ?_
  refine lv_iconst (v := 3) hx hb dL_law_376 (by decide) ?_
  refine lv_iadd hx hb dL_law_377 ?_
  refine lv_topi (fun y_5 ey_5 => ?_)
  obtain rfl : y_5 = nI (i + 3) := ey_5.trans (z_iaddn i 3 rfl rfl)
  refine va_sld hx hb hX hbl hbA G.2.2.2.1 (vp_in_nI (by omega) (by omega)) dL_law_378 ?_
  refine lv_topi (fun v_6 ev_6 => ?_)
  rw [nI_clamp (by omega)] at ev_6
  have ev_6 : v_6 = xs (i + 3) := ev_6
  subst ev_6
  obtain ⟨v_7, v_8, v_9, v_10, h_11, h_12⟩ := H_wt
  have h_12 : zKT v_10 := h_12
  obtain ⟨v_13, v_14, v_15, v_16, h_17⟩ := H_wd0_
  obtain ⟨v_18, v_19, v_20, v_21, h_22⟩ := H_wd1_
  refine z_Vi (bc := [[(xo, .inr (10, [.ref t, .ref im, .ref mk, .ref rd, .ref po, .ref co, .ref tr, .ref wa, .ref wb_, .ref fi, .ref cd]))], wt, wd0_, wd1_]) (br := [z0_, z1_, wg0_, wg1_, [(rd, .inr (7, [.ref rl, .ref rdd, .ref rg, .int r0, .int r1, .ref tq, .int r2, .int r3, .int r4, .int r5, .int r6, .int r7, .int r8]))], z, wd, wg, wwA, wwB, wff, wc, wcp, wr, wrp, wp, [(cd, .inl (T.2 0, 1000, .inl fcd))], wta, z0_a, z1_a, wd0_a, wd1_a, wg0_a, wg1_a, wtb, z0_b, z1_b, wd0_b, wd1_b, wg0_b, wg1_b, wtc, z0_c, z1_c, wd0_c, wd1_c, wg0_c, wg1_c, [(im, .inl (T.2 6, 3, .inr (.inr (.inr (.inr qi)))))], [(mk, .inl (T.2 2, 3, .inl fmk))], [(mo, .inr (11, [.ref m_all, .ref m_has, .int i_size, .int i_next, .int i_where, .int i_token, .int i_number, .int i_word, .int i_wrong, .int i_farCrossing, .ref m_read, .int i_z0, .int i_crossings, .int i_inns, .ref m_posts, .ref m_shut, .ref m_here, .int i_steps, .int i_done, .int i_at, .int i_gone, .ref m_was, .ref m_came, .ref m_seenAt, .ref m_rowWorth, .ref m_farBy, .ref m_used, .int i_everywhere, .int i_again0, .int i_d0, .int i_never, .int i_firstCame, .int i_longRun, .int i_moved, .int i_crowd, .int i_l0, .int i_fitMany, .int i_fitLeast, .int i_fitMost, .ref m_fitPost, .ref m_fitEnd, .ref m_keptPosts, .int i_x0]))], [(m_all, .inl (T.2 0, 3952, .inl f_all))], [(m_has, .inl (T.2 2, 3, .inl f_has))], [(m_read, .inl (T.2 0, 121, .inl f_read))], [(m_posts, .inl (T.2 0, 7, .inl f_posts))], [(m_shut, .inl (T.2 0, 7, .inl f_shut))], [(m_here, .inl (T.2 0, 7, .inl f_here))], [(m_was, .inl (T.2 0, 7, .inl f_was))], [(m_came, .inl (T.2 0, 7, .inl f_came))], [(m_seenAt, .inl (T.2 0, 16384, .inl f_seenAt))], [(m_rowWorth, .inl (T.2 0, 512, .inl f_rowWorth))], [(m_farBy, .inl (T.2 0, 49, .inl f_farBy))], [(m_used, .inl (T.2 0, 7, .inl f_used))], [(m_fitPost, .inl (T.2 0, 28, .inl f_fitPost))], [(m_fitEnd, .inl (T.2 0, 49, .inl f_fitEnd))], [(m_keptPosts, .inl (T.2 0, 7, .inl f_keptPosts))]]) (As := [.int (xs (i + 1)), .int (xs (i + 2)), .int (xs (i + 3))]) (rest := []) C G (c_deed l T xo t im mk rd po co tr wa wb_ fi cd l0 l1 d0 d1 g0 g1 ln v_7 v_8 v_9 v_10 wt v_13 v_14 v_15 v_16 wd0_ v_18 v_19 v_20 v_21 wd1_ (xs (i + 1)) (xs (i + 2)) (xs (i + 3)) h_11 (by first | assumption | omega | rfl) h_17 h_22) (kV_RL_36 C.2.2.2.2 (Nat.le_of_ble_eq_true rfl) (Nat.le_of_ble_eq_true rfl)) [0, 1, 4, 5] [2, 3, 6, 7, 8, 9, 10, 11, 12, 13, 14, 15, 16, 17, 18, 19, 20, 21, 22, 23, 24, 25, 26, 27, 28, 29, 30, 31, 32, 33, 34, 35, 36, 37, 38, 39, 40, 41, 42, 43, 44, 45, 46, 47, 48, 49, 50, 51, 52, 53, 54, 55, 56, 57, 58, 59] rfl rfl (ci := 10) (qc := (RX11, TX11, 11)) rfl rfl (List.mem_flatten.mpr ⟨_, List.mem_of_getElem? (i := 0) rfl, List.mem_cons_self⟩) rfl rfl hl.1 dL_law_379 (by show _ + 0 ≤ 600000; omega) (by show _ + 0 ≤ 7302250; omega) (fun r_23 b1 H locs hw G => ?_)
  obtain rfl := hw
  have G : zS T A s.heap s [z0_, z1_, wg0_, wg1_, [(rd, .inr (7, [.ref rl, .ref rdd, .ref rg, .int r0, .int r1, .ref tq, .int r2, .int r3, .int r4, .int r5, .int r6, .int r7, .int r8]))], z, wd, wg, wwA, wwB, wff, wc, wcp, wr, wrp, wp, [(cd, .inl (T.2 0, 1000, .inl fcd))], wta, z0_a, z1_a, wd0_a, wd1_a, wg0_a, wg1_a, wtb, z0_b, z1_b, wd0_b, wd1_b, wg0_b, wg1_b, wtc, z0_c, z1_c, wd0_c, wd1_c, wg0_c, wg1_c, [(im, .inl (T.2 6, 3, .inr (.inr (.inr (.inr qi)))))], [(mk, .inl (T.2 2, 3, .inl fmk))], [(mo, .inr (11, [.ref m_all, .ref m_has, .int i_size, .int i_next, .int i_where, .int i_token, .int i_number, .int i_word, .int i_wrong, .int i_farCrossing, .ref m_read, .int i_z0, .int i_crossings, .int i_inns, .ref m_posts, .ref m_shut, .ref m_here, .int i_steps, .int i_done, .int i_at, .int i_gone, .ref m_was, .ref m_came, .ref m_seenAt, .ref m_rowWorth, .ref m_farBy, .ref m_used, .int i_everywhere, .int i_again0, .int i_d0, .int i_never, .int i_firstCame, .int i_longRun, .int i_moved, .int i_crowd, .int i_l0, .int i_fitMany, .int i_fitLeast, .int i_fitMost, .ref m_fitPost, .ref m_fitEnd, .ref m_keptPosts, .int i_x0]))], [(m_all, .inl (T.2 0, 3952, .inl f_all))], [(m_has, .inl (T.2 2, 3, .inl f_has))], [(m_read, .inl (T.2 0, 121, .inl f_read))], [(m_posts, .inl (T.2 0, 7, .inl f_posts))], [(m_shut, .inl (T.2 0, 7, .inl f_shut))], [(m_here, .inl (T.2 0, 7, .inl f_here))], [(m_was, .inl (T.2 0, 7, .inl f_was))], [(m_came, .inl (T.2 0, 7, .inl f_came))], [(m_seenAt, .inl (T.2 0, 16384, .inl f_seenAt))], [(m_rowWorth, .inl (T.2 0, 512, .inl f_rowWorth))], [(m_farBy, .inl (T.2 0, 49, .inl f_farBy))], [(m_used, .inl (T.2 0, 7, .inl f_used))], [(m_fitPost, .inl (T.2 0, 28, .inl f_fitPost))], [(m_fitEnd, .inl (T.2 0, 49, .inl f_fitEnd))], [(m_keptPosts, .inl (T.2 0, 7, .inl f_keptPosts))], [(xo, .inr (10, [.ref t, .ref im, .ref mk, .ref rd, .ref po, .ref co, .ref tr, .ref wa, .ref wb_, .ref fi, .ref cd]))], wt, wd0_, wd1_] _ _ := G
  refine lv_pop hx hb dL_law_382 rfl ?_
  refine lv_aload_n hx hb dL_law_383 rfl (lv_at hl 2 rfl) ?_
  refine lv_aload_n hx hb dL_law_384 rfl (lv_at hl 0 rfl) ?_
  refine lv_iload_n hx hb dL_law_385 rfl (lv_at hl 3 rfl) ?_
  refine lv_iconst (v := 1) hx hb dL_law_386 (by decide) ?_
  refine lv_iadd hx hb dL_law_387 ?_
  refine lv_topi (fun y_24 ey_24 => ?_)
  obtain rfl : y_24 = nI (i + 1) := ey_24.trans (z_iaddn i 1 rfl rfl)
  refine va_sld hx hb hX hbl hbA G.2.2.2.1 (vp_in_nI (by omega) (by omega)) dL_law_388 ?_
  refine lv_topi (fun v_25 ev_25 => ?_)
  rw [nI_clamp (by omega)] at ev_25
  have ev_25 : v_25 = xs (i + 1) := ev_25
  subst ev_25
  refine lv_aload_n hx hb dL_law_389 rfl (lv_at hl 0 rfl) ?_
  refine lv_iload_n hx hb dL_law_390 rfl (lv_at hl 3 rfl) ?_
  refine lv_iconst (v := 2) hx hb dL_law_391 (by decide) ?_
  refine lv_iadd hx hb dL_law_392 ?_
  refine lv_topi (fun y_26 ey_26 => ?_)
  obtain rfl : y_26 = nI (i + 2) := ey_26.trans (z_iaddn i 2 rfl rfl)
  refine va_sld hx hb hX hbl hbA G.2.2.2.1 (vp_in_nI (by omega) (by omega)) dL_law_393 ?_
  refine lv_topi (fun v_27 ev_27 => ?_)
  rw [nI_clamp (by omega)] at ev_27
  have ev_27 : v_27 = xs (i + 2) := ev_27
  subst ev_27
  refine lv_aload_n hx hb dL_law_394 rfl (lv_at hl 0 rfl) ?_
  refine lv_iload_n hx hb dL_law_395 rfl (lv_at hl 3 rfl) ?_
  refine lv_iconst (v := 3) hx hb dL_law_396 (by decide) ?_
  refine lv_iadd hx hb dL_law_397 ?_
  refine lv_topi (fun y_28 ey_28 => ?_)
  obtain rfl : y_28 = nI (i + 3) := ey_28.trans (z_iaddn i 3 rfl rfl)
  refine va_sld hx hb hX hbl hbA G.2.2.2.1 (vp_in_nI (by omega) (by omega)) dL_law_398 ?_
  refine lv_topi (fun v_29 ev_29 => ?_)
  rw [nI_clamp (by omega)] at ev_29
  have ev_29 : v_29 = xs (i + 3) := ev_29
  subst ev_29
  refine z_Vi (bc := [[(mo, .inr (11, [.ref m_all, .ref m_has, .int i_size, .int i_next, .int i_where, .int i_token, .int i_number, .int i_word, .int i_wrong, .int i_farCrossing, .ref m_read, .int i_z0, .int i_crossings, .int i_inns, .ref m_posts, .ref m_shut, .ref m_here, .int i_steps, .int i_done, .int i_at, .int i_gone, .ref m_was, .ref m_came, .ref m_seenAt, .ref m_rowWorth, .ref m_farBy, .ref m_used, .int i_everywhere, .int i_again0, .int i_d0, .int i_never, .int i_firstCame, .int i_longRun, .int i_moved, .int i_crowd, .int i_l0, .int i_fitMany, .int i_fitLeast, .int i_fitMost, .ref m_fitPost, .ref m_fitEnd, .ref m_keptPosts, .int i_x0]))], [(m_all, .inl (T.2 0, 3952, .inl f_all))]]) (br := [z0_, z1_, wg0_, wg1_, [(rd, .inr (7, [.ref rl, .ref rdd, .ref rg, .int r0, .int r1, .ref tq, .int r2, .int r3, .int r4, .int r5, .int r6, .int r7, .int r8]))], z, wd, wg, wwA, wwB, wff, wc, wcp, wr, wrp, wp, [(cd, .inl (T.2 0, 1000, .inl fcd))], wta, z0_a, z1_a, wd0_a, wd1_a, wg0_a, wg1_a, wtb, z0_b, z1_b, wd0_b, wd1_b, wg0_b, wg1_b, wtc, z0_c, z1_c, wd0_c, wd1_c, wg0_c, wg1_c, [(im, .inl (T.2 6, 3, .inr (.inr (.inr (.inr qi)))))], [(mk, .inl (T.2 2, 3, .inl fmk))], [(m_has, .inl (T.2 2, 3, .inl f_has))], [(m_read, .inl (T.2 0, 121, .inl f_read))], [(m_posts, .inl (T.2 0, 7, .inl f_posts))], [(m_shut, .inl (T.2 0, 7, .inl f_shut))], [(m_here, .inl (T.2 0, 7, .inl f_here))], [(m_was, .inl (T.2 0, 7, .inl f_was))], [(m_came, .inl (T.2 0, 7, .inl f_came))], [(m_seenAt, .inl (T.2 0, 16384, .inl f_seenAt))], [(m_rowWorth, .inl (T.2 0, 512, .inl f_rowWorth))], [(m_farBy, .inl (T.2 0, 49, .inl f_farBy))], [(m_used, .inl (T.2 0, 7, .inl f_used))], [(m_fitPost, .inl (T.2 0, 28, .inl f_fitPost))], [(m_fitEnd, .inl (T.2 0, 49, .inl f_fitEnd))], [(m_keptPosts, .inl (T.2 0, 7, .inl f_keptPosts))], [(xo, .inr (10, [.ref t, .ref im, .ref mk, .ref rd, .ref po, .ref co, .ref tr, .ref wa, .ref wb_, .ref fi, .ref cd]))], wt, wd0_, wd1_]) (As := [.int (xs (i + 1)), .int (xs (i + 2)), .int (xs (i + 3))]) (rest := []) C G (c_m_deed l T mo m_all m_has i_size i_next i_where i_token i_number i_word i_wrong i_farCrossing m_read i_z0 i_crossings i_inns m_posts m_shut m_here i_steps i_done i_at i_gone m_was m_came m_seenAt m_rowWorth m_farBy m_used i_everywhere i_again0 i_d0 i_never i_firstCame i_longRun i_moved i_crowd i_l0 i_fitMany i_fitLeast i_fitMost m_fitPost m_fitEnd m_keptPosts i_x0 f_all (xs (i + 1)) (xs (i + 2)) (xs (i + 3)) (by first | assumption | omega | rfl)) (kV_RL_40 C.2.2.2.2 (Nat.le_of_ble_eq_true rfl) (Nat.le_of_ble_eq_true rfl)) [40, 41] [0, 1, 2, 3, 4, 5, 6, 7, 8, 9, 10, 11, 12, 13, 14, 15, 16, 17, 18, 19, 20, 21, 22, 23, 24, 25, 26, 27, 28, 29, 30, 31, 32, 33, 34, 35, 36, 37, 38, 39, 42, 43, 44, 45, 46, 47, 48, 49, 50, 51, 52, 53, 54, 55, 56, 57, 58, 59] rfl rfl (ci := 11) (qc := (RX12, TX12, 43)) rfl rfl (List.mem_flatten.mpr ⟨_, List.mem_of_getElem? (i := 0) rfl, List.mem_cons_self⟩) rfl rfl hl.1 dL_law_399 (by show _ + 0 ≤ 600000; omega) (by show _ + 0 ≤ 7302250; omega) (fun r_31 b1 H locs hw G => ?_)
  obtain ⟨j_d0_30, rfl⟩ := hw
  have G : zS T A s.heap s [z0_, z1_, wg0_, wg1_, [(rd, .inr (7, [.ref rl, .ref rdd, .ref rg, .int r0, .int r1, .ref tq, .int r2, .int r3, .int r4, .int r5, .int r6, .int r7, .int r8]))], z, wd, wg, wwA, wwB, wff, wc, wcp, wr, wrp, wp, [(cd, .inl (T.2 0, 1000, .inl fcd))], wta, z0_a, z1_a, wd0_a, wd1_a, wg0_a, wg1_a, wtb, z0_b, z1_b, wd0_b, wd1_b, wg0_b, wg1_b, wtc, z0_c, z1_c, wd0_c, wd1_c, wg0_c, wg1_c, [(im, .inl (T.2 6, 3, .inr (.inr (.inr (.inr qi)))))], [(mk, .inl (T.2 2, 3, .inl fmk))], [(m_has, .inl (T.2 2, 3, .inl f_has))], [(m_read, .inl (T.2 0, 121, .inl f_read))], [(m_posts, .inl (T.2 0, 7, .inl f_posts))], [(m_shut, .inl (T.2 0, 7, .inl f_shut))], [(m_here, .inl (T.2 0, 7, .inl f_here))], [(m_was, .inl (T.2 0, 7, .inl f_was))], [(m_came, .inl (T.2 0, 7, .inl f_came))], [(m_seenAt, .inl (T.2 0, 16384, .inl f_seenAt))], [(m_rowWorth, .inl (T.2 0, 512, .inl f_rowWorth))], [(m_farBy, .inl (T.2 0, 49, .inl f_farBy))], [(m_used, .inl (T.2 0, 7, .inl f_used))], [(m_fitPost, .inl (T.2 0, 28, .inl f_fitPost))], [(m_fitEnd, .inl (T.2 0, 49, .inl f_fitEnd))], [(m_keptPosts, .inl (T.2 0, 7, .inl f_keptPosts))], [(xo, .inr (10, [.ref t, .ref im, .ref mk, .ref rd, .ref po, .ref co, .ref tr, .ref wa, .ref wb_, .ref fi, .ref cd]))], wt, wd0_, wd1_, [(mo, .inr (11, [.ref m_all, .ref m_has, .int i_size, .int i_next, .int i_where, .int i_token, .int i_number, .int i_word, .int i_wrong, .int i_farCrossing, .ref m_read, .int i_z0, .int i_crossings, .int i_inns, .ref m_posts, .ref m_shut, .ref m_here, .int i_steps, .int i_done, .int i_at, .int i_gone, .ref m_was, .ref m_came, .ref m_seenAt, .ref m_rowWorth, .ref m_farBy, .ref m_used, .int i_everywhere, .int i_again0, .int j_d0_30, .int i_never, .int i_firstCame, .int i_longRun, .int i_moved, .int i_crowd, .int i_l0, .int i_fitMany, .int i_fitLeast, .int i_fitMost, .ref m_fitPost, .ref m_fitEnd, .ref m_keptPosts, .int i_x0]))], [(m_all, .inl (T.2 0, 3952, .inl f_all))]] _ _ := G
  refine lv_pop hx hb dL_law_402 rfl ?_
  refine lv_goto (tgt := 1767) hx hb dL_law_403 (by decide) ?_
  have G := G.sub (bs' := [[(xo, .inr (10, [.ref t, .ref im, .ref mk, .ref rd, .ref po, .ref co, .ref tr, .ref wa, .ref wb_, .ref fi, .ref cd]))], wt, z0_, z1_, wd0_, wd1_, wg0_, wg1_, [(rd, .inr (7, [.ref rl, .ref rdd, .ref rg, .int r0, .int r1, .ref tq, .int r2, .int r3, .int r4, .int r5, .int r6, .int r7, .int r8]))], z, wd, wg, wwA, wwB, wff, wc, wcp, wr, wrp, wp, [(cd, .inl (T.2 0, 1000, .inl fcd))], wta, z0_a, z1_a, wd0_a, wd1_a, wg0_a, wg1_a, wtb, z0_b, z1_b, wd0_b, wd1_b, wg0_b, wg1_b, wtc, z0_c, z1_c, wd0_c, wd1_c, wg0_c, wg1_c, [(im, .inl (T.2 6, 3, .inr (.inr (.inr (.inr qi)))))], [(mk, .inl (T.2 2, 3, .inl fmk))], [(mo, .inr (11, [.ref m_all, .ref m_has, .int i_size, .int i_next, .int i_where, .int i_token, .int i_number, .int i_word, .int i_wrong, .int i_farCrossing, .ref m_read, .int i_z0, .int i_crossings, .int i_inns, .ref m_posts, .ref m_shut, .ref m_here, .int i_steps, .int i_done, .int i_at, .int i_gone, .ref m_was, .ref m_came, .ref m_seenAt, .ref m_rowWorth, .ref m_farBy, .ref m_used, .int i_everywhere, .int i_again0, .int j_d0_30, .int i_never, .int i_firstCame, .int i_longRun, .int i_moved, .int i_crowd, .int i_l0, .int i_fitMany, .int i_fitLeast, .int i_fitMost, .ref m_fitPost, .ref m_fitEnd, .ref m_keptPosts, .int i_x0]))], [(m_all, .inl (T.2 0, 3952, .inl f_all))], [(m_has, .inl (T.2 2, 3, .inl f_has))], [(m_read, .inl (T.2 0, 121, .inl f_read))], [(m_posts, .inl (T.2 0, 7, .inl f_posts))], [(m_shut, .inl (T.2 0, 7, .inl f_shut))], [(m_here, .inl (T.2 0, 7, .inl f_here))], [(m_was, .inl (T.2 0, 7, .inl f_was))], [(m_came, .inl (T.2 0, 7, .inl f_came))], [(m_seenAt, .inl (T.2 0, 16384, .inl f_seenAt))], [(m_rowWorth, .inl (T.2 0, 512, .inl f_rowWorth))], [(m_farBy, .inl (T.2 0, 49, .inl f_farBy))], [(m_used, .inl (T.2 0, 7, .inl f_used))], [(m_fitPost, .inl (T.2 0, 28, .inl f_fitPost))], [(m_fitEnd, .inl (T.2 0, 49, .inl f_fitEnd))], [(m_keptPosts, .inl (T.2 0, 7, .inl f_keptPosts))]]) [54, 55, 0, 1, 56, 57, 2, 3, 4, 5, 6, 7, 8, 9, 10, 11, 12, 13, 14, 15, 16, 17, 18, 19, 20, 21, 22, 23, 24, 25, 26, 27, 28, 29, 30, 31, 32, 33, 34, 35, 36, 37, 38, 39, 58, 59, 40, 41, 42, 43, 44, 45, 46, 47, 48, 49, 50, 51, 52, 53] rfl
  refine W.widen (k := 216 + 2 * i + 12) (n := 27000 + 6 * (n4A + n4B) + 2 * m1f) (by omega) (by omega) ?_
  exact kk n4A n4B m1f _ ⟨⟨t, im, mk, rd, po, co, tr, wa, wb_, fi, cd, wt, l0, l1, d0, d1, g0, g1, ln, z0_, z1_, wd0_, wd1_, wg0_, wg1_, rl, rdd, rg, r0, r1, tq, r2, r3, r4, r5, r6, r7, r8, z, wd, wg, wwA, mdA, wwB, mdB, wff, e0f, e1f, wc, cpo, wcp, wr, tpo, wrp, wp, fcd, m0, wta, l0a, l1a, d0a, d1a, g0a, g1a, lna, z0_a, z1_a, wd0_a, wd1_a, wg0_a, wg1_a, m1, wtb, l0b, l1b, d0b, d1b, g0b, g1b, lnb, z0_b, z1_b, wd0_b, wd1_b, wg0_b, wg1_b, m2, wtc, l0c, l1c, d0c, d1c, g0c, g1c, lnc, z0_c, z1_c, wd0_c, wd1_c, wg0_c, wg1_c, qi, fmk, m_all, m_has, i_size, i_next, i_where, i_token, i_number, i_word, i_wrong, i_farCrossing, m_read, i_z0, i_crossings, i_inns, m_posts, m_shut, m_here, i_steps, i_done, i_at, i_gone, m_was, m_came, m_seenAt, m_rowWorth, m_farBy, m_used, i_everywhere, i_again0, j_d0_30, i_never, i_firstCame, i_longRun, i_moved, i_crowd, i_l0, i_fitMany, i_fitLeast, i_fitMost, m_fitPost, m_fitEnd, m_keptPosts, i_x0, f_all, f_has, f_read, f_posts, f_shut, f_here, f_was, f_came, f_seenAt, f_rowWorth, f_farBy, f_used, f_fitPost, f_fitEnd, f_keptPosts⟩, rfl, ⟨v_7, v_8, v_9, v_10, h_11, (by first | assumption | omega)⟩, H_z0_, H_z1_, ⟨v_13, v_14, v_15, v_16, h_17⟩, ⟨v_18, v_19, v_20, v_21, h_22⟩, H_wg0_, H_wg1_, H_z, H_wd, H_wg, H_wwA, H_wwB, H_wff, H_wc, H_wcp, H_wr, H_wrp, H_wp, H_wta, H_z0_a, H_z1_a, H_wd0_a, H_wd1_a, H_wg0_a, H_wg1_a, H_wtb, H_z0_b, H_z1_b, H_wd0_b, H_wd1_b, H_wg0_b, H_wg1_b, H_wtc, H_z0_c, H_z1_c, H_wd0_c, H_wd1_c, H_wg0_c, H_wg1_c, (by first | assumption | omega), (by first | assumption | omega), (by first | assumption | omega), (by first | assumption | omega), (by first | assumption | omega), (by first | assumption | omega), (by first | assumption | omega), (by first | assumption | omega)⟩ _ _ ls G (lv_sub hl [0, 1, 2, 3] rfl)

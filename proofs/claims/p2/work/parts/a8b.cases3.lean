set_option maxHeartbeats 40000000 in
set_option maxRecDepth 100000 in
theorem z_case_set (l : Launch) {p : Program} {e : Env} {s : State} {m : MethodId} {b : Nat} {below : List Frame} {meth : Method} {c : Code} {Q : State → Prop} {T : zTy} {A : Nat → Prop} {L i : Nat} {xs : Nat → Int32} (hx : p.tables.exec = Jvm.exec) (hb : c.code = cL_law) (C : CallFix p m c cL_law 4 s #[Value.ref b] zT RL) (hX : va_X b L xs s s.heap) (hbl : b < s.heap.size) (hbA : ¬ A b) (hL : L ≤ 3072) (hi6 : i + 6 ≤ L) {xo mo n4A n4B m1f : Nat} (hnA : n4A ≤ 131072) (hnB : n4B ≤ 131072) (hmf : m1f ≤ 16384) {bs : List va_W} (hI : zInv T xo mo n4A n4B m1f bs) {H : Heap} {locs : List Loc} {ls : Array Slot} (G : zS T A s.heap s bs H locs) (hl : lv_has ls 4 [(0, .ref b), (1, .ref xo), (2, .ref mo), (3, .int (nI i))]) (kk : ∀ (n1 n2 n3 : Nat) (bs1 : List va_W), zInv T xo mo n1 n2 n3 bs1 → ∀ (H1 : Heap) (locs1 : List Loc) (ls1 : Array Slot), zS T A s.heap s bs1 H1 locs1 → lv_has ls1 4 [(0, .ref b), (1, .ref xo), (2, .ref mo), (3, .int (nI i))] → W p l e room_1 s m #[Value.ref b] below meth c H1 locs1 (216 + 2 * i + 12) (27000 + 6 * (n1 + n2) + 2 * n3) Q (F0 m 1767 ls1 [])) : W p l e room_1 s m #[Value.ref b] below meth c H locs (216 + 2 * i) (27000 + 6 * (n4A + n4B) + 2 * m1f) Q (F0 m 670 ls []) := by
  obtain ⟨⟨t, im, mk, rd, po, co, tr, wa, wb_, fi, cd, wt, l0, l1, d0, d1, g0, g1, ln, z0_, z1_, wd0_, wd1_, wg0_, wg1_, rl, rdd, rg, r0, r1, tq, r2, r3, r4, r5, r6, r7, r8, z, wd, wg, wwA, mdA, wwB, mdB, wff, e0f, e1f, wc, cpo, wcp, wr, tpo, wrp, wp, fcd, m0, wta, l0a, l1a, d0a, d1a, g0a, g1a, lna, z0_a, z1_a, wd0_a, wd1_a, wg0_a, wg1_a, m1, wtb, l0b, l1b, d0b, d1b, g0b, g1b, lnb, z0_b, z1_b, wd0_b, wd1_b, wg0_b, wg1_b, m2, wtc, l0c, l1c, d0c, d1c, g0c, g1c, lnc, z0_c, z1_c, wd0_c, wd1_c, wg0_c, wg1_c, qi, fmk, m_all, m_has, i_size, i_next, i_where, i_token, i_number, i_word, i_wrong, i_farCrossing, m_read, i_z0, i_crossings, i_inns, m_posts, m_shut, m_here, i_steps, i_done, i_at, i_gone, m_was, m_came, m_seenAt, m_rowWorth, m_farBy, m_used, i_everywhere, i_again0, i_d0, i_never, i_firstCame, i_longRun, i_moved, i_crowd, i_l0, i_fitMany, i_fitLeast, i_fitMost, m_fitPost, m_fitEnd, m_keptPosts, i_x0, f_all, f_has, f_read, f_posts, f_shut, f_here, f_was, f_came, f_seenAt, f_rowWorth, f_farBy, f_used, f_fitPost, f_fitEnd, f_keptPosts⟩, rfl, H_wt, H_z0_, H_z1_, H_wd0_, H_wd1_, H_wg0_, H_wg1_, H_z, H_wd, H_wg, H_wwA, H_wwB, H_wff, H_wc, H_wcp, H_wr, H_wrp, H_wp, H_wta, H_z0_a, H_z1_a, H_wd0_a, H_wd1_a, H_wg0_a, H_wg1_a, H_wtb, H_z0_b, H_z1_b, H_wd0_b, H_wd1_b, H_wg0_b, H_wg1_b, H_wtc, H_z0_c, H_z1_c, H_wd0_c, H_wd1_c, H_wg0_c, H_wg1_c, hm0, hm1, hm2, h56, hFI, hAI, hRl, hHs⟩ := hI
  replace H_wt : hTold T t l0 l1 d0 d1 g0 g1 ln wt := H_wt
  replace H_z0_ : hLand T l0 z0_ := H_z0_
  replace H_z1_ : hLand T l1 z1_ := H_z1_
  replace H_wd0_ : hDay T d0 wd0_ := H_wd0_
  replace H_wd1_ : hDay T d1 wd1_ := H_wd1_
  replace H_wg0_ : hLog T g0 wg0_ := H_wg0_
  replace H_wg1_ : hLog T g1 wg1_ := H_wg1_
  replace H_z : hLandR T rl z := H_z
  replace H_wd : hDay T rdd wd := H_wd
  replace H_wg : hLog T rg wg := H_wg
  replace H_wwA : hWays T wa mdA n4A l0 wwA := H_wwA
  replace H_wwB : hWays T wb_ mdB n4B l1 wwB := H_wwB
  replace H_wff : hFit T fi e0f e1f m1f wff := H_wff
  replace H_wc : hCourse T co cpo wc := H_wc
  replace H_wcp : hPosts T cpo wcp := H_wcp
  replace H_wr : hTrail T tr tpo wr := H_wr
  replace H_wrp : hPosts T tpo wrp := H_wrp
  replace H_wp : hPosts T po wp := H_wp
  replace H_wta : hTold T m0 l0a l1a d0a d1a g0a g1a lna wta := H_wta
  replace H_z0_a : hLand T l0a z0_a := H_z0_a
  replace H_z1_a : hLand T l1a z1_a := H_z1_a
  replace H_wd0_a : hDay T d0a wd0_a := H_wd0_a
  replace H_wd1_a : hDay T d1a wd1_a := H_wd1_a
  replace H_wg0_a : hLog T g0a wg0_a := H_wg0_a
  replace H_wg1_a : hLog T g1a wg1_a := H_wg1_a
  replace H_wtb : hTold T m1 l0b l1b d0b d1b g0b g1b lnb wtb := H_wtb
  replace H_z0_b : hLand T l0b z0_b := H_z0_b
  replace H_z1_b : hLand T l1b z1_b := H_z1_b
  replace H_wd0_b : hDay T d0b wd0_b := H_wd0_b
  replace H_wd1_b : hDay T d1b wd1_b := H_wd1_b
  replace H_wg0_b : hLog T g0b wg0_b := H_wg0_b
  replace H_wg1_b : hLog T g1b wg1_b := H_wg1_b
  replace H_wtc : hTold T m2 l0c l1c d0c d1c g0c g1c lnc wtc := H_wtc
  replace H_z0_c : hLand T l0c z0_c := H_z0_c
  replace H_z1_c : hLand T l1c z1_c := H_z1_c
  replace H_wd0_c : hDay T d0c wd0_c := H_wd0_c
  replace H_wd1_c : hDay T d1c wd1_c := H_wd1_c
  replace H_wg0_c : hLog T g0c wg0_c := H_wg0_c
  replace H_wg1_c : hLog T g1c wg1_c := H_wg1_c
  replace hm0 : qi 0 = some m0 := hm0
  replace hm1 : qi 1 = some m1 := hm1
  replace hm2 : qi 2 = some m2 := hm2
  replace h56 : ((0 ≤ r5.toInt ∧ r5.toInt ≤ 600) ∧ 0 ≤ r6.toInt ∧ r6.toInt ≤ 1000) := h56
  replace hFI : (¬ e0f = 0 → e1f.toInt = 0 ∧ ¬ mdA = 0 ∨ e1f.toInt = 1 ∧ ¬ mdB = 0) := hFI
  replace hAI : zAI f_all := hAI
  replace hRl : zRl ln lna lnb lnc f_all := hRl
  replace hHs : zHs fmk f_has := hHs
  replace G : zS T A s.heap s [[(xo, .inr (10, [.ref t, .ref im, .ref mk, .ref rd, .ref po, .ref co, .ref tr, .ref wa, .ref wb_, .ref fi, .ref cd]))], wt, z0_, z1_, wd0_, wd1_, wg0_, wg1_, [(rd, .inr (7, [.ref rl, .ref rdd, .ref rg, .int r0, .int r1, .ref tq, .int r2, .int r3, .int r4, .int r5, .int r6, .int r7, .int r8]))], z, wd, wg, wwA, wwB, wff, wc, wcp, wr, wrp, wp, [(cd, .inl (T.2 0, 1000, .inl fcd))], wta, z0_a, z1_a, wd0_a, wd1_a, wg0_a, wg1_a, wtb, z0_b, z1_b, wd0_b, wd1_b, wg0_b, wg1_b, wtc, z0_c, z1_c, wd0_c, wd1_c, wg0_c, wg1_c, [(im, .inl (T.2 6, 3, .inr (.inr (.inr (.inr qi)))))], [(mk, .inl (T.2 2, 3, .inl fmk))], [(mo, .inr (11, [.ref m_all, .ref m_has, .int i_size, .int i_next, .int i_where, .int i_token, .int i_number, .int i_word, .int i_wrong, .int i_farCrossing, .ref m_read, .int i_z0, .int i_crossings, .int i_inns, .ref m_posts, .ref m_shut, .ref m_here, .int i_steps, .int i_done, .int i_at, .int i_gone, .ref m_was, .ref m_came, .ref m_seenAt, .ref m_rowWorth, .ref m_farBy, .ref m_used, .int i_everywhere, .int i_again0, .int i_d0, .int i_never, .int i_firstCame, .int i_longRun, .int i_moved, .int i_crowd, .int i_l0, .int i_fitMany, .int i_fitLeast, .int i_fitMost, .ref m_fitPost, .ref m_fitEnd, .ref m_keptPosts, .int i_x0]))], [(m_all, .inl (T.2 0, 3952, .inl f_all))], [(m_has, .inl (T.2 2, 3, .inl f_has))], [(m_read, .inl (T.2 0, 121, .inl f_read))], [(m_posts, .inl (T.2 0, 7, .inl f_posts))], [(m_shut, .inl (T.2 0, 7, .inl f_shut))], [(m_here, .inl (T.2 0, 7, .inl f_here))], [(m_was, .inl (T.2 0, 7, .inl f_was))], [(m_came, .inl (T.2 0, 7, .inl f_came))], [(m_seenAt, .inl (T.2 0, 16384, .inl f_seenAt))], [(m_rowWorth, .inl (T.2 0, 512, .inl f_rowWorth))], [(m_farBy, .inl (T.2 0, 49, .inl f_farBy))], [(m_used, .inl (T.2 0, 7, .inl f_used))], [(m_fitPost, .inl (T.2 0, 28, .inl f_fitPost))], [(m_fitEnd, .inl (T.2 0, 49, .inl f_fitEnd))], [(m_keptPosts, .inl (T.2 0, 7, .inl f_keptPosts))]] H locs := G
  have hB := zAI_0 hAI
  have hB4 := hB.1
  obtain ⟨hln, hlna, hlnb, hlnc⟩ := zRl_in hAI hRl
  refine lv_aload_n hx hb dL_law_670 rfl (lv_at hl 1 rfl) ?_
  refine lv_aload_n hx hb dL_law_671 rfl (lv_at hl 0 rfl) ?_
  refine lv_iload_n hx hb dL_law_672 rfl (lv_at hl 3 rfl) ?_
  refine lv_iconst (v := 1) hx hb dL_law_673 (by decide) ?_
  refine lv_iadd hx hb dL_law_674 ?_
  refine lv_topi (fun y_1 ey_1 => ?_)
  obtain rfl : y_1 = nI (i + 1) := ey_1.trans (z_iaddn i 1 rfl rfl)
  refine va_sld hx hb hX hbl hbA G.2.2.2.1 (vp_in_nI (by omega) (by omega)) dL_law_675 ?_
  refine lv_topi (fun v_2 ev_2 => ?_)
  rw [nI_clamp (by omega)] at ev_2
  have ev_2 : v_2 = xs (i + 1) := ev_2
  subst ev_2
  refine lv_aload_n hx hb dL_law_676 rfl (lv_at hl 0 rfl) ?_
  refine lv_iload_n hx hb dL_law_677 rfl (lv_at hl 3 rfl) ?_
  refine lv_iconst (v := 2) hx hb dL_law_678 (by decide) ?_
  refine lv_iadd hx hb dL_law_679 ?_
  refine lv_topi (fun y_3 ey_3 => ?_)
  obtain rfl : y_3 = nI (i + 2) := ey_3.trans (z_iaddn i 2 rfl rfl)
  refine va_sld hx hb hX hbl hbA G.2.2.2.1 (vp_in_nI (by omega) (by omega)) dL_law_680 ?_
  refine lv_topi (fun v_4 ev_4 => ?_)
  rw [nI_clamp (by omega)] at ev_4
  have ev_4 : v_4 = xs (i + 2) := ev_4
  subst ev_4
  refine lv_aload_n hx hb dL_law_681 rfl (lv_at hl 0 rfl) ?_
  refine lv_iload_n hx hb dL_law_682 rfl (lv_at hl 3 rfl) ?_
  refine lv_iconst (v := 3) hx hb dL_law_683 (by decide) ?_
  refine lv_iadd hx hb dL_law_684 ?_
  refine lv_topi (fun y_5 ey_5 => ?_)
  obtain rfl : y_5 = nI (i + 3) := ey_5.trans (z_iaddn i 3 rfl rfl)
  refine va_sld hx hb hX hbl hbA G.2.2.2.1 (vp_in_nI (by omega) (by omega)) dL_law_685 ?_
  refine lv_topi (fun v_6 ev_6 => ?_)
  rw [nI_clamp (by omega)] at ev_6
  have ev_6 : v_6 = xs (i + 3) := ev_6
  subst ev_6
  refine lv_aload_n hx hb dL_law_686 rfl (lv_at hl 0 rfl) ?_
  refine lv_iload_n hx hb dL_law_687 rfl (lv_at hl 3 rfl) ?_
  refine lv_iconst (v := 4) hx hb dL_law_688 (by decide) ?_
  refine lv_iadd hx hb dL_law_689 ?_
  refine lv_topi (fun y_7 ey_7 => ?_)
  obtain rfl : y_7 = nI (i + 4) := ey_7.trans (z_iaddn i 4 rfl rfl)
  refine va_sld hx hb hX hbl hbA G.2.2.2.1 (vp_in_nI (by omega) (by omega)) dL_law_690 ?_
  refine lv_topi (fun v_8 ev_8 => ?_)
  rw [nI_clamp (by omega)] at ev_8
  have ev_8 : v_8 = xs (i + 4) := ev_8
  subst ev_8
  obtain ⟨v_9, v_10, v_11, v_12, h_13, h_14⟩ := H_wt
  have h_14 : zKT v_12 := h_14
  obtain ⟨v_15, v_16, v_17, v_18, v_19, v_20, h_21, h_22⟩ := H_z0_
  have h_22 : zLI v_15 v_17 v_19 := h_22
  obtain ⟨v_23, v_24, v_25, v_26, v_27, v_28, h_29, h_30⟩ := H_z1_
  have h_30 : zLI v_23 v_25 v_27 := h_30
  obtain ⟨v_31, v_32, v_33, v_34, v_35, v_36, v_37, v_38, v_39, h_40, h_41, h_42, h_43⟩ := H_wwA
  have h_41 : zPw n4A := h_41
  have h_42 : (mdA = 0 ∨ v_31 = l0) := h_42
  have h_43 : (0 ≤ v_32.toInt ∧ v_32.toInt ≤ 16384) := h_43
  obtain ⟨v_44, v_45, v_46, v_47, v_48, v_49, v_50, v_51, v_52, h_53, h_54, h_55, h_56⟩ := H_wwB
  have h_54 : zPw n4B := h_54
  have h_55 : (mdB = 0 ∨ v_44 = l1) := h_55
  have h_56 : (0 ≤ v_45.toInt ∧ v_45.toInt ≤ 16384) := h_56
  have hq0m := zNA_mono (c := ((xs (i + 1)).toInt = 0 ∧ 0 < (v_12 0).toInt ∧ 0 ≤ (xs (i + 2)).toInt ∧ (xs (i + 2)).toInt < v_15.toInt ∧ (xs (i + 2)).toInt < 7 ∧ 0 ≤ (xs (i + 3)).toInt ∧ (xs (i + 3)).toInt < v_15.toInt ∧ (xs (i + 3)).toInt < 7 ∧ ¬ zBit v_16 (xs (i + 3)) = 0)) (md := mdA) (cr := v_15) (inn := v_16) (k1 := v_17) h_41
  have hq0l := zPw_le (zNA_ge (c := ((xs (i + 1)).toInt = 0 ∧ 0 < (v_12 0).toInt ∧ 0 ≤ (xs (i + 2)).toInt ∧ (xs (i + 2)).toInt < v_15.toInt ∧ (xs (i + 2)).toInt < 7 ∧ 0 ≤ (xs (i + 3)).toInt ∧ (xs (i + 3)).toInt < v_15.toInt ∧ (xs (i + 3)).toInt < 7 ∧ ¬ zBit v_16 (xs (i + 3)) = 0)) (md := mdA) (pl := (zPl v_15 v_16 v_17)) h_41)
  have hq2m := zNA_mono (c := ((xs (i + 1)).toInt = 1 ∧ 1 < (v_12 0).toInt ∧ 0 ≤ (xs (i + 2)).toInt ∧ (xs (i + 2)).toInt < v_23.toInt ∧ (xs (i + 2)).toInt < 7 ∧ 0 ≤ (xs (i + 3)).toInt ∧ (xs (i + 3)).toInt < v_23.toInt ∧ (xs (i + 3)).toInt < 7 ∧ ¬ zBit v_24 (xs (i + 3)) = 0)) (md := mdB) (cr := v_23) (inn := v_24) (k1 := v_25) h_54
  have hq2l := zPw_le (zNA_ge (c := ((xs (i + 1)).toInt = 1 ∧ 1 < (v_12 0).toInt ∧ 0 ≤ (xs (i + 2)).toInt ∧ (xs (i + 2)).toInt < v_23.toInt ∧ (xs (i + 2)).toInt < 7 ∧ 0 ≤ (xs (i + 3)).toInt ∧ (xs (i + 3)).toInt < v_23.toInt ∧ (xs (i + 3)).toInt < 7 ∧ ¬ zBit v_24 (xs (i + 3)) = 0)) (md := mdB) (pl := (zPl v_23 v_24 v_25)) h_54)
  refine z_Vi (bc := [[(xo, .inr (10, [.ref t, .ref im, .ref mk, .ref rd, .ref po, .ref co, .ref tr, .ref wa, .ref wb_, .ref fi, .ref cd]))], wt, z0_, z1_, wwA, wwB]) (br := [wd0_, wd1_, wg0_, wg1_, [(rd, .inr (7, [.ref rl, .ref rdd, .ref rg, .int r0, .int r1, .ref tq, .int r2, .int r3, .int r4, .int r5, .int r6, .int r7, .int r8]))], z, wd, wg, wff, wc, wcp, wr, wrp, wp, [(cd, .inl (T.2 0, 1000, .inl fcd))], wta, z0_a, z1_a, wd0_a, wd1_a, wg0_a, wg1_a, wtb, z0_b, z1_b, wd0_b, wd1_b, wg0_b, wg1_b, wtc, z0_c, z1_c, wd0_c, wd1_c, wg0_c, wg1_c, [(im, .inl (T.2 6, 3, .inr (.inr (.inr (.inr qi)))))], [(mk, .inl (T.2 2, 3, .inl fmk))], [(mo, .inr (11, [.ref m_all, .ref m_has, .int i_size, .int i_next, .int i_where, .int i_token, .int i_number, .int i_word, .int i_wrong, .int i_farCrossing, .ref m_read, .int i_z0, .int i_crossings, .int i_inns, .ref m_posts, .ref m_shut, .ref m_here, .int i_steps, .int i_done, .int i_at, .int i_gone, .ref m_was, .ref m_came, .ref m_seenAt, .ref m_rowWorth, .ref m_farBy, .ref m_used, .int i_everywhere, .int i_again0, .int i_d0, .int i_never, .int i_firstCame, .int i_longRun, .int i_moved, .int i_crowd, .int i_l0, .int i_fitMany, .int i_fitLeast, .int i_fitMost, .ref m_fitPost, .ref m_fitEnd, .ref m_keptPosts, .int i_x0]))], [(m_all, .inl (T.2 0, 3952, .inl f_all))], [(m_has, .inl (T.2 2, 3, .inl f_has))], [(m_read, .inl (T.2 0, 121, .inl f_read))], [(m_posts, .inl (T.2 0, 7, .inl f_posts))], [(m_shut, .inl (T.2 0, 7, .inl f_shut))], [(m_here, .inl (T.2 0, 7, .inl f_here))], [(m_was, .inl (T.2 0, 7, .inl f_was))], [(m_came, .inl (T.2 0, 7, .inl f_came))], [(m_seenAt, .inl (T.2 0, 16384, .inl f_seenAt))], [(m_rowWorth, .inl (T.2 0, 512, .inl f_rowWorth))], [(m_farBy, .inl (T.2 0, 49, .inl f_farBy))], [(m_used, .inl (T.2 0, 7, .inl f_used))], [(m_fitPost, .inl (T.2 0, 28, .inl f_fitPost))], [(m_fitEnd, .inl (T.2 0, 49, .inl f_fitEnd))], [(m_keptPosts, .inl (T.2 0, 7, .inl f_keptPosts))]]) (As := [.int (xs (i + 1)), .int (xs (i + 2)), .int (xs (i + 3)), .int (xs (i + 4))]) (rest := []) C G (c_set l T xo t im mk rd po co tr wa wb_ fi cd l0 l1 d0 d1 g0 g1 ln v_9 v_10 v_11 v_12 wt v_15 v_16 v_17 v_18 v_19 v_20 z0_ v_23 v_24 v_25 v_26 v_27 v_28 z1_ v_31 mdA v_32 v_33 v_34 v_35 v_36 v_37 v_38 v_39 n4A wwA v_44 mdB v_45 v_46 v_47 v_48 v_49 v_50 v_51 v_52 n4B wwB (xs (i + 1)) (xs (i + 2)) (xs (i + 3)) (xs (i + 4)) h_13 (by first | assumption | omega | rfl) h_21 (by first | assumption | omega | rfl) h_29 (by first | assumption | omega | rfl) h_40 (by first | assumption | omega | rfl) (by first | assumption | omega | rfl) (by first | assumption | omega | rfl) h_53 (by first | assumption | omega | rfl) (by first | assumption | omega | rfl) (by first | assumption | omega | rfl)) (kV_RL_67 C.2.2.2.2 (Nat.le_of_ble_eq_true rfl) (Nat.le_of_ble_eq_true rfl)) [0, 1, 2, 3, 12, 13] [4, 5, 6, 7, 8, 9, 10, 11, 14, 15, 16, 17, 18, 19, 20, 21, 22, 23, 24, 25, 26, 27, 28, 29, 30, 31, 32, 33, 34, 35, 36, 37, 38, 39, 40, 41, 42, 43, 44, 45, 46, 47, 48, 49, 50, 51, 52, 53, 54, 55, 56, 57, 58, 59] rfl rfl (ci := 10) (qc := (RX11, TX11, 11)) rfl rfl (List.mem_flatten.mpr ⟨_, List.mem_of_getElem? (i := 0) rfl, List.mem_cons_self⟩) rfl rfl hl.1 dL_law_691 (by show _ + 3 ≤ 600000; omega) (by show _ + (6 * (zNA ((xs (i + 1)).toInt = 0 ∧ 0 < (v_12 0).toInt ∧ 0 ≤ (xs (i + 2)).toInt ∧ (xs (i + 2)).toInt < v_15.toInt ∧ (xs (i + 2)).toInt < 7 ∧ 0 ≤ (xs (i + 3)).toInt ∧ (xs (i + 3)).toInt < v_15.toInt ∧ (xs (i + 3)).toInt < 7 ∧ ¬ zBit v_16 (xs (i + 3)) = 0) mdA n4A (zPl v_15 v_16 v_17) - n4A) + 6 * (zNA ((xs (i + 1)).toInt = 1 ∧ 1 < (v_12 0).toInt ∧ 0 ≤ (xs (i + 2)).toInt ∧ (xs (i + 2)).toInt < v_23.toInt ∧ (xs (i + 2)).toInt < 7 ∧ 0 ≤ (xs (i + 3)).toInt ∧ (xs (i + 3)).toInt < v_23.toInt ∧ (xs (i + 3)).toInt < 7 ∧ ¬ zBit v_24 (xs (i + 3)) = 0) mdB n4B (zPl v_23 v_24 v_25) - n4B)) ≤ 7302250; omega) (fun r_93 b1 H locs hw G => ?_)
  obtain ⟨laA_57, mdA_58, wyA_59, pc_A_60, f1A_61, f2A_62, f3A_63, f4A_64, f5A_65, f6A_66, n4A_67, wwA_68, laB_69, mdB_70, wyB_71, pc_B_72, f1B_73, f2B_74, f3B_75, f4B_76, f5B_77, f6B_78, n4B_79, wwB_80, rfl, h_81, h_82, h_83, h_84, h_85, h_86, h_87, h_88, h_89, h_90, h_91, h_92⟩ := hw
  have G : zS T A s.heap s [wd0_, wd1_, wg0_, wg1_, [(rd, .inr (7, [.ref rl, .ref rdd, .ref rg, .int r0, .int r1, .ref tq, .int r2, .int r3, .int r4, .int r5, .int r6, .int r7, .int r8]))], z, wd, wg, wff, wc, wcp, wr, wrp, wp, [(cd, .inl (T.2 0, 1000, .inl fcd))], wta, z0_a, z1_a, wd0_a, wd1_a, wg0_a, wg1_a, wtb, z0_b, z1_b, wd0_b, wd1_b, wg0_b, wg1_b, wtc, z0_c, z1_c, wd0_c, wd1_c, wg0_c, wg1_c, [(im, .inl (T.2 6, 3, .inr (.inr (.inr (.inr qi)))))], [(mk, .inl (T.2 2, 3, .inl fmk))], [(mo, .inr (11, [.ref m_all, .ref m_has, .int i_size, .int i_next, .int i_where, .int i_token, .int i_number, .int i_word, .int i_wrong, .int i_farCrossing, .ref m_read, .int i_z0, .int i_crossings, .int i_inns, .ref m_posts, .ref m_shut, .ref m_here, .int i_steps, .int i_done, .int i_at, .int i_gone, .ref m_was, .ref m_came, .ref m_seenAt, .ref m_rowWorth, .ref m_farBy, .ref m_used, .int i_everywhere, .int i_again0, .int i_d0, .int i_never, .int i_firstCame, .int i_longRun, .int i_moved, .int i_crowd, .int i_l0, .int i_fitMany, .int i_fitLeast, .int i_fitMost, .ref m_fitPost, .ref m_fitEnd, .ref m_keptPosts, .int i_x0]))], [(m_all, .inl (T.2 0, 3952, .inl f_all))], [(m_has, .inl (T.2 2, 3, .inl f_has))], [(m_read, .inl (T.2 0, 121, .inl f_read))], [(m_posts, .inl (T.2 0, 7, .inl f_posts))], [(m_shut, .inl (T.2 0, 7, .inl f_shut))], [(m_here, .inl (T.2 0, 7, .inl f_here))], [(m_was, .inl (T.2 0, 7, .inl f_was))], [(m_came, .inl (T.2 0, 7, .inl f_came))], [(m_seenAt, .inl (T.2 0, 16384, .inl f_seenAt))], [(m_rowWorth, .inl (T.2 0, 512, .inl f_rowWorth))], [(m_farBy, .inl (T.2 0, 49, .inl f_farBy))], [(m_used, .inl (T.2 0, 7, .inl f_used))], [(m_fitPost, .inl (T.2 0, 28, .inl f_fitPost))], [(m_fitEnd, .inl (T.2 0, 49, .inl f_fitEnd))], [(m_keptPosts, .inl (T.2 0, 7, .inl f_keptPosts))], [(xo, .inr (10, [.ref t, .ref im, .ref mk, .ref rd, .ref po, .ref co, .ref tr, .ref wa, .ref wb_, .ref fi, .ref cd]))], wt, z0_, z1_, wwA_68, wwB_80] _ _ := G
  have hFI2 : (¬ e0f = 0 → e1f.toInt = 0 ∧ ¬ mdA_58 = 0 ∨ e1f.toInt = 1 ∧ ¬ mdB_70 = 0) := fun q => (hFI q).elim (fun z => Or.inl ⟨z.1, h_86 z.2⟩) (fun z => Or.inr ⟨z.1, h_92 z.2⟩)
  refine lv_pop hx hb dL_law_694 rfl ?_
  refine lv_aload_n hx hb dL_law_695 rfl (lv_at hl 2 rfl) ?_
  refine lv_aload_n hx hb dL_law_696 rfl (lv_at hl 0 rfl) ?_
  refine lv_iload_n hx hb dL_law_697 rfl (lv_at hl 3 rfl) ?_
  refine lv_iconst (v := 1) hx hb dL_law_698 (by decide) ?_
  refine lv_iadd hx hb dL_law_699 ?_
  refine lv_topi (fun y_94 ey_94 => ?_)
  obtain rfl : y_94 = nI (i + 1) := ey_94.trans (z_iaddn i 1 rfl rfl)
  refine va_sld hx hb hX hbl hbA G.2.2.2.1 (vp_in_nI (by omega) (by omega)) dL_law_700 ?_
  refine lv_topi (fun v_95 ev_95 => ?_)
  rw [nI_clamp (by omega)] at ev_95
  have ev_95 : v_95 = xs (i + 1) := ev_95
  subst ev_95
  refine lv_aload_n hx hb dL_law_701 rfl (lv_at hl 0 rfl) ?_
  refine lv_iload_n hx hb dL_law_702 rfl (lv_at hl 3 rfl) ?_
  refine lv_iconst (v := 2) hx hb dL_law_703 (by decide) ?_
  refine lv_iadd hx hb dL_law_704 ?_
  refine lv_topi (fun y_96 ey_96 => ?_)
  obtain rfl : y_96 = nI (i + 2) := ey_96.trans (z_iaddn i 2 rfl rfl)
  refine va_sld hx hb hX hbl hbA G.2.2.2.1 (vp_in_nI (by omega) (by omega)) dL_law_705 ?_
  refine lv_topi (fun v_97 ev_97 => ?_)
  rw [nI_clamp (by omega)] at ev_97
  have ev_97 : v_97 = xs (i + 2) := ev_97
  subst ev_97
  refine lv_aload_n hx hb dL_law_706 rfl (lv_at hl 0 rfl) ?_
  refine lv_iload_n hx hb dL_law_707 rfl (lv_at hl 3 rfl) ?_
  refine lv_iconst (v := 3) hx hb dL_law_708 (by decide) ?_
  refine lv_iadd hx hb dL_law_709 ?_
  refine lv_topi (fun y_98 ey_98 => ?_)
  obtain rfl : y_98 = nI (i + 3) := ey_98.trans (z_iaddn i 3 rfl rfl)
  refine va_sld hx hb hX hbl hbA G.2.2.2.1 (vp_in_nI (by omega) (by omega)) dL_law_710 ?_
  refine lv_topi (fun v_99 ev_99 => ?_)
  rw [nI_clamp (by omega)] at ev_99
  have ev_99 : v_99 = xs (i + 3) := ev_99
  subst ev_99
  refine lv_aload_n hx hb dL_law_711 rfl (lv_at hl 0 rfl) ?_
  refine lv_iload_n hx hb dL_law_712 rfl (lv_at hl 3 rfl) ?_
  refine lv_iconst (v := 4) hx hb dL_law_713 (by decide) ?_
  refine lv_iadd hx hb dL_law_714 ?_
  refine lv_topi (fun y_100 ey_100 => ?_)
  obtain rfl : y_100 = nI (i + 4) := ey_100.trans (z_iaddn i 4 rfl rfl)
  refine va_sld hx hb hX hbl hbA G.2.2.2.1 (vp_in_nI (by omega) (by omega)) dL_law_715 ?_
  refine lv_topi (fun v_101 ev_101 => ?_)
  rw [nI_clamp (by omega)] at ev_101
  have ev_101 : v_101 = xs (i + 4) := ev_101
  subst ev_101
  refine z_Vi (bc := [[(mo, .inr (11, [.ref m_all, .ref m_has, .int i_size, .int i_next, .int i_where, .int i_token, .int i_number, .int i_word, .int i_wrong, .int i_farCrossing, .ref m_read, .int i_z0, .int i_crossings, .int i_inns, .ref m_posts, .ref m_shut, .ref m_here, .int i_steps, .int i_done, .int i_at, .int i_gone, .ref m_was, .ref m_came, .ref m_seenAt, .ref m_rowWorth, .ref m_farBy, .ref m_used, .int i_everywhere, .int i_again0, .int i_d0, .int i_never, .int i_firstCame, .int i_longRun, .int i_moved, .int i_crowd, .int i_l0, .int i_fitMany, .int i_fitLeast, .int i_fitMost, .ref m_fitPost, .ref m_fitEnd, .ref m_keptPosts, .int i_x0]))], [(m_all, .inl (T.2 0, 3952, .inl f_all))], [(m_posts, .inl (T.2 0, 7, .inl f_posts))], [(m_shut, .inl (T.2 0, 7, .inl f_shut))], [(m_here, .inl (T.2 0, 7, .inl f_here))], [(m_was, .inl (T.2 0, 7, .inl f_was))]]) (br := [wd0_, wd1_, wg0_, wg1_, [(rd, .inr (7, [.ref rl, .ref rdd, .ref rg, .int r0, .int r1, .ref tq, .int r2, .int r3, .int r4, .int r5, .int r6, .int r7, .int r8]))], z, wd, wg, wff, wc, wcp, wr, wrp, wp, [(cd, .inl (T.2 0, 1000, .inl fcd))], wta, z0_a, z1_a, wd0_a, wd1_a, wg0_a, wg1_a, wtb, z0_b, z1_b, wd0_b, wd1_b, wg0_b, wg1_b, wtc, z0_c, z1_c, wd0_c, wd1_c, wg0_c, wg1_c, [(im, .inl (T.2 6, 3, .inr (.inr (.inr (.inr qi)))))], [(mk, .inl (T.2 2, 3, .inl fmk))], [(m_has, .inl (T.2 2, 3, .inl f_has))], [(m_read, .inl (T.2 0, 121, .inl f_read))], [(m_came, .inl (T.2 0, 7, .inl f_came))], [(m_seenAt, .inl (T.2 0, 16384, .inl f_seenAt))], [(m_rowWorth, .inl (T.2 0, 512, .inl f_rowWorth))], [(m_farBy, .inl (T.2 0, 49, .inl f_farBy))], [(m_used, .inl (T.2 0, 7, .inl f_used))], [(m_fitPost, .inl (T.2 0, 28, .inl f_fitPost))], [(m_fitEnd, .inl (T.2 0, 49, .inl f_fitEnd))], [(m_keptPosts, .inl (T.2 0, 7, .inl f_keptPosts))], [(xo, .inr (10, [.ref t, .ref im, .ref mk, .ref rd, .ref po, .ref co, .ref tr, .ref wa, .ref wb_, .ref fi, .ref cd]))], wt, z0_, z1_, wwA_68, wwB_80]) (As := [.int (xs (i + 1)), .int (xs (i + 2)), .int (xs (i + 3)), .int (xs (i + 4))]) (rest := []) C G (c_m_set l T mo m_all m_has i_size i_next i_where i_token i_number i_word i_wrong i_farCrossing m_read i_z0 i_crossings i_inns m_posts m_shut m_here i_steps i_done i_at i_gone m_was m_came m_seenAt m_rowWorth m_farBy m_used i_everywhere i_again0 i_d0 i_never i_firstCame i_longRun i_moved i_crowd i_l0 i_fitMany i_fitLeast i_fitMost m_fitPost m_fitEnd m_keptPosts i_x0 f_all f_posts f_shut f_here f_was (xs (i + 1)) (xs (i + 2)) (xs (i + 3)) (xs (i + 4)) (by first | assumption | omega | rfl)) (kV_RL_70 C.2.2.2.2 (Nat.le_of_ble_eq_true rfl) (Nat.le_of_ble_eq_true rfl)) [38, 39, 42, 43, 44, 45] [0, 1, 2, 3, 4, 5, 6, 7, 8, 9, 10, 11, 12, 13, 14, 15, 16, 17, 18, 19, 20, 21, 22, 23, 24, 25, 26, 27, 28, 29, 30, 31, 32, 33, 34, 35, 36, 37, 40, 41, 46, 47, 48, 49, 50, 51, 52, 53, 54, 55, 56, 57, 58, 59] rfl rfl (ci := 11) (qc := (RX12, TX12, 43)) rfl rfl (List.mem_flatten.mpr ⟨_, List.mem_of_getElem? (i := 0) rfl, List.mem_cons_self⟩) rfl rfl hl.1 dL_law_716 (by show _ + 0 ≤ 600000; omega) (by show _ + 0 ≤ 7302250; omega) (fun r_113 b1 H locs hw G => ?_)
  obtain ⟨j_z0_102, j_crossings_103, j_inns_104, j_steps_105, j_done_106, j_at_107, j_gone_108, g_posts_109, g_shut_110, g_here_111, g_was_112, rfl⟩ := hw
  have G : zS T A s.heap s [wd0_, wd1_, wg0_, wg1_, [(rd, .inr (7, [.ref rl, .ref rdd, .ref rg, .int r0, .int r1, .ref tq, .int r2, .int r3, .int r4, .int r5, .int r6, .int r7, .int r8]))], z, wd, wg, wff, wc, wcp, wr, wrp, wp, [(cd, .inl (T.2 0, 1000, .inl fcd))], wta, z0_a, z1_a, wd0_a, wd1_a, wg0_a, wg1_a, wtb, z0_b, z1_b, wd0_b, wd1_b, wg0_b, wg1_b, wtc, z0_c, z1_c, wd0_c, wd1_c, wg0_c, wg1_c, [(im, .inl (T.2 6, 3, .inr (.inr (.inr (.inr qi)))))], [(mk, .inl (T.2 2, 3, .inl fmk))], [(m_has, .inl (T.2 2, 3, .inl f_has))], [(m_read, .inl (T.2 0, 121, .inl f_read))], [(m_came, .inl (T.2 0, 7, .inl f_came))], [(m_seenAt, .inl (T.2 0, 16384, .inl f_seenAt))], [(m_rowWorth, .inl (T.2 0, 512, .inl f_rowWorth))], [(m_farBy, .inl (T.2 0, 49, .inl f_farBy))], [(m_used, .inl (T.2 0, 7, .inl f_used))], [(m_fitPost, .inl (T.2 0, 28, .inl f_fitPost))], [(m_fitEnd, .inl (T.2 0, 49, .inl f_fitEnd))], [(m_keptPosts, .inl (T.2 0, 7, .inl f_keptPosts))], [(xo, .inr (10, [.ref t, .ref im, .ref mk, .ref rd, .ref po, .ref co, .ref tr, .ref wa, .ref wb_, .ref fi, .ref cd]))], wt, z0_, z1_, wwA_68, wwB_80, [(mo, .inr (11, [.ref m_all, .ref m_has, .int i_size, .int i_next, .int i_where, .int i_token, .int i_number, .int i_word, .int i_wrong, .int i_farCrossing, .ref m_read, .int j_z0_102, .int j_crossings_103, .int j_inns_104, .ref m_posts, .ref m_shut, .ref m_here, .int j_steps_105, .int j_done_106, .int j_at_107, .int j_gone_108, .ref m_was, .ref m_came, .ref m_seenAt, .ref m_rowWorth, .ref m_farBy, .ref m_used, .int i_everywhere, .int i_again0, .int i_d0, .int i_never, .int i_firstCame, .int i_longRun, .int i_moved, .int i_crowd, .int i_l0, .int i_fitMany, .int i_fitLeast, .int i_fitMost, .ref m_fitPost, .ref m_fitEnd, .ref m_keptPosts, .int i_x0]))], [(m_all, .inl (T.2 0, 3952, .inl f_all))], [(m_posts, .inl (T.2 0, 7, .inl g_posts_109))], [(m_shut, .inl (T.2 0, 7, .inl g_shut_110))], [(m_here, .inl (T.2 0, 7, .inl g_here_111))], [(m_was, .inl (T.2 0, 7, .inl g_was_112))]] _ _ := G
  refine lv_pop hx hb dL_law_719 rfl ?_
  refine lv_goto (tgt := 1767) hx hb dL_law_720 (by decide) ?_
  have G := G.sub (bs' := [[(xo, .inr (10, [.ref t, .ref im, .ref mk, .ref rd, .ref po, .ref co, .ref tr, .ref wa, .ref wb_, .ref fi, .ref cd]))], wt, z0_, z1_, wd0_, wd1_, wg0_, wg1_, [(rd, .inr (7, [.ref rl, .ref rdd, .ref rg, .int r0, .int r1, .ref tq, .int r2, .int r3, .int r4, .int r5, .int r6, .int r7, .int r8]))], z, wd, wg, wwA_68, wwB_80, wff, wc, wcp, wr, wrp, wp, [(cd, .inl (T.2 0, 1000, .inl fcd))], wta, z0_a, z1_a, wd0_a, wd1_a, wg0_a, wg1_a, wtb, z0_b, z1_b, wd0_b, wd1_b, wg0_b, wg1_b, wtc, z0_c, z1_c, wd0_c, wd1_c, wg0_c, wg1_c, [(im, .inl (T.2 6, 3, .inr (.inr (.inr (.inr qi)))))], [(mk, .inl (T.2 2, 3, .inl fmk))], [(mo, .inr (11, [.ref m_all, .ref m_has, .int i_size, .int i_next, .int i_where, .int i_token, .int i_number, .int i_word, .int i_wrong, .int i_farCrossing, .ref m_read, .int j_z0_102, .int j_crossings_103, .int j_inns_104, .ref m_posts, .ref m_shut, .ref m_here, .int j_steps_105, .int j_done_106, .int j_at_107, .int j_gone_108, .ref m_was, .ref m_came, .ref m_seenAt, .ref m_rowWorth, .ref m_farBy, .ref m_used, .int i_everywhere, .int i_again0, .int i_d0, .int i_never, .int i_firstCame, .int i_longRun, .int i_moved, .int i_crowd, .int i_l0, .int i_fitMany, .int i_fitLeast, .int i_fitMost, .ref m_fitPost, .ref m_fitEnd, .ref m_keptPosts, .int i_x0]))], [(m_all, .inl (T.2 0, 3952, .inl f_all))], [(m_has, .inl (T.2 2, 3, .inl f_has))], [(m_read, .inl (T.2 0, 121, .inl f_read))], [(m_posts, .inl (T.2 0, 7, .inl g_posts_109))], [(m_shut, .inl (T.2 0, 7, .inl g_shut_110))], [(m_here, .inl (T.2 0, 7, .inl g_here_111))], [(m_was, .inl (T.2 0, 7, .inl g_was_112))], [(m_came, .inl (T.2 0, 7, .inl f_came))], [(m_seenAt, .inl (T.2 0, 16384, .inl f_seenAt))], [(m_rowWorth, .inl (T.2 0, 512, .inl f_rowWorth))], [(m_farBy, .inl (T.2 0, 49, .inl f_farBy))], [(m_used, .inl (T.2 0, 7, .inl f_used))], [(m_fitPost, .inl (T.2 0, 28, .inl f_fitPost))], [(m_fitEnd, .inl (T.2 0, 49, .inl f_fitEnd))], [(m_keptPosts, .inl (T.2 0, 7, .inl f_keptPosts))]]) [48, 49, 50, 51, 0, 1, 2, 3, 4, 5, 6, 7, 52, 53, 8, 9, 10, 11, 12, 13, 14, 15, 16, 17, 18, 19, 20, 21, 22, 23, 24, 25, 26, 27, 28, 29, 30, 31, 32, 33, 34, 35, 36, 37, 54, 55, 38, 39, 56, 57, 58, 59, 40, 41, 42, 43, 44, 45, 46, 47] rfl
  refine W.widen (k := 216 + 2 * i + 12) (n := 27000 + 6 * (n4A_67 + n4B_79) + 2 * m1f) (by omega) (by omega) ?_
  exact kk n4A_67 n4B_79 m1f _ ⟨⟨t, im, mk, rd, po, co, tr, wa, wb_, fi, cd, wt, l0, l1, d0, d1, g0, g1, ln, z0_, z1_, wd0_, wd1_, wg0_, wg1_, rl, rdd, rg, r0, r1, tq, r2, r3, r4, r5, r6, r7, r8, z, wd, wg, wwA_68, mdA_58, wwB_80, mdB_70, wff, e0f, e1f, wc, cpo, wcp, wr, tpo, wrp, wp, fcd, m0, wta, l0a, l1a, d0a, d1a, g0a, g1a, lna, z0_a, z1_a, wd0_a, wd1_a, wg0_a, wg1_a, m1, wtb, l0b, l1b, d0b, d1b, g0b, g1b, lnb, z0_b, z1_b, wd0_b, wd1_b, wg0_b, wg1_b, m2, wtc, l0c, l1c, d0c, d1c, g0c, g1c, lnc, z0_c, z1_c, wd0_c, wd1_c, wg0_c, wg1_c, qi, fmk, m_all, m_has, i_size, i_next, i_where, i_token, i_number, i_word, i_wrong, i_farCrossing, m_read, j_z0_102, j_crossings_103, j_inns_104, m_posts, m_shut, m_here, j_steps_105, j_done_106, j_at_107, j_gone_108, m_was, m_came, m_seenAt, m_rowWorth, m_farBy, m_used, i_everywhere, i_again0, i_d0, i_never, i_firstCame, i_longRun, i_moved, i_crowd, i_l0, i_fitMany, i_fitLeast, i_fitMost, m_fitPost, m_fitEnd, m_keptPosts, i_x0, f_all, f_has, f_read, g_posts_109, g_shut_110, g_here_111, g_was_112, f_came, f_seenAt, f_rowWorth, f_farBy, f_used, f_fitPost, f_fitEnd, f_keptPosts⟩, rfl, ⟨v_9, v_10, v_11, v_12, h_13, (by first | assumption | omega)⟩, ⟨v_15, v_16, v_17, v_18, v_19, v_20, h_21, (by first | assumption | omega)⟩, ⟨v_23, v_24, v_25, v_26, v_27, v_28, h_29, (by first | assumption | omega)⟩, H_wd0_, H_wd1_, H_wg0_, H_wg1_, H_z, H_wd, H_wg, ⟨laA_57, wyA_59, pc_A_60, f1A_61, f2A_62, f3A_63, f4A_64, f5A_65, f6A_66, h_81, (by first | assumption | omega), (by first | assumption | omega), (by first | assumption | omega)⟩, ⟨laB_69, wyB_71, pc_B_72, f1B_73, f2B_74, f3B_75, f4B_76, f5B_77, f6B_78, h_87, (by first | assumption | omega), (by first | assumption | omega), (by first | assumption | omega)⟩, H_wff, H_wc, H_wcp, H_wr, H_wrp, H_wp, H_wta, H_z0_a, H_z1_a, H_wd0_a, H_wd1_a, H_wg0_a, H_wg1_a, H_wtb, H_z0_b, H_z1_b, H_wd0_b, H_wd1_b, H_wg0_b, H_wg1_b, H_wtc, H_z0_c, H_z1_c, H_wd0_c, H_wd1_c, H_wg0_c, H_wg1_c, (by first | assumption | omega), (by first | assumption | omega), (by first | assumption | omega), (by first | assumption | omega), (by first | assumption | omega), (by first | assumption | omega), (by first | assumption | omega), (by first | assumption | omega)⟩ _ _ ls G (lv_sub hl [0, 1, 2, 3] rfl)
set_option maxHeartbeats 40000000 in
set_option maxRecDepth 100000 in
theorem z_case_lot (l : Launch) {p : Program} {e : Env} {s : State} {m : MethodId} {b : Nat} {below : List Frame} {meth : Method} {c : Code} {Q : State → Prop} {T : zTy} {A : Nat → Prop} {L i : Nat} {xs : Nat → Int32} (hx : p.tables.exec = Jvm.exec) (hb : c.code = cL_law) (C : CallFix p m c cL_law 4 s #[Value.ref b] zT RL) (hX : va_X b L xs s s.heap) (hbl : b < s.heap.size) (hbA : ¬ A b) (hL : L ≤ 3072) (hi6 : i + 6 ≤ L) {xo mo n4A n4B m1f : Nat} (hnA : n4A ≤ 131072) (hnB : n4B ≤ 131072) (hmf : m1f ≤ 16384) {bs : List va_W} (hI : zInv T xo mo n4A n4B m1f bs) {H : Heap} {locs : List Loc} {ls : Array Slot} (G : zS T A s.heap s bs H locs) (hl : lv_has ls 4 [(0, .ref b), (1, .ref xo), (2, .ref mo), (3, .int (nI i))]) (kk : ∀ (n1 n2 n3 : Nat) (bs1 : List va_W), zInv T xo mo n1 n2 n3 bs1 → ∀ (H1 : Heap) (locs1 : List Loc) (ls1 : Array Slot), zS T A s.heap s bs1 H1 locs1 → lv_has ls1 4 [(0, .ref b), (1, .ref xo), (2, .ref mo), (3, .int (nI i))] → W p l e room_1 s m #[Value.ref b] below meth c H1 locs1 (216 + 2 * i + 12) (27000 + 6 * (n1 + n2) + 2 * n3) Q (F0 m 1767 ls1 [])) : W p l e room_1 s m #[Value.ref b] below meth c H locs (216 + 2 * i) (27000 + 6 * (n4A + n4B) + 2 * m1f) Q (F0 m 723 ls []) := by
  obtain ⟨⟨t, im, mk, rd, po, co, tr, wa, wb_, fi, cd, wt, l0, l1, d0, d1, g0, g1, ln, z0_, z1_, wd0_, wd1_, wg0_, wg1_, rl, rdd, rg, r0, r1, tq, r2, r3, r4, r5, r6, r7, r8, z, wd, wg, wwA, mdA, wwB, mdB, wff, e0f, e1f, wc, cpo, wcp, wr, tpo, wrp, wp, fcd, m0, wta, l0a, l1a, d0a, d1a, g0a, g1a, lna, z0_a, z1_a, wd0_a, wd1_a, wg0_a, wg1_a, m1, wtb, l0b, l1b, d0b, d1b, g0b, g1b, lnb, z0_b, z1_b, wd0_b, wd1_b, wg0_b, wg1_b, m2, wtc, l0c, l1c, d0c, d1c, g0c, g1c, lnc, z0_c, z1_c, wd0_c, wd1_c, wg0_c, wg1_c, qi, fmk, m_all, m_has, i_size, i_next, i_where, i_token, i_number, i_word, i_wrong, i_farCrossing, m_read, i_z0, i_crossings, i_inns, m_posts, m_shut, m_here, i_steps, i_done, i_at, i_gone, m_was, m_came, m_seenAt, m_rowWorth, m_farBy, m_used, i_everywhere, i_again0, i_d0, i_never, i_firstCame, i_longRun, i_moved, i_crowd, i_l0, i_fitMany, i_fitLeast, i_fitMost, m_fitPost, m_fitEnd, m_keptPosts, i_x0, f_all, f_has, f_read, f_posts, f_shut, f_here, f_was, f_came, f_seenAt, f_rowWorth, f_farBy, f_used, f_fitPost, f_fitEnd, f_keptPosts⟩, rfl, H_wt, H_z0_, H_z1_, H_wd0_, H_wd1_, H_wg0_, H_wg1_, H_z, H_wd, H_wg, H_wwA, H_wwB, H_wff, H_wc, H_wcp, H_wr, H_wrp, H_wp, H_wta, H_z0_a, H_z1_a, H_wd0_a, H_wd1_a, H_wg0_a, H_wg1_a, H_wtb, H_z0_b, H_z1_b, H_wd0_b, H_wd1_b, H_wg0_b, H_wg1_b, H_wtc, H_z0_c, H_z1_c, H_wd0_c, H_wd1_c, H_wg0_c, H_wg1_c, hm0, hm1, hm2, h56, hFI, hAI, hRl, hHs⟩ := hI
  replace H_wt : hTold T t l0 l1 d0 d1 g0 g1 ln wt := H_wt
  replace H_z0_ : hLand T l0 z0_ := H_z0_
  replace H_z1_ : hLand T l1 z1_ := H_z1_
  replace H_wd0_ : hDay T d0 wd0_ := H_wd0_
  replace H_wd1_ : hDay T d1 wd1_ := H_wd1_
  replace H_wg0_ : hLog T g0 wg0_ := H_wg0_
  replace H_wg1_ : hLog T g1 wg1_ := H_wg1_
  replace H_z : hLandR T rl z := H_z
  replace H_wd : hDay T rdd wd := H_wd
  replace H_wg : hLog T rg wg := H_wg
  replace H_wwA : hWays T wa mdA n4A l0 wwA := H_wwA
  replace H_wwB : hWays T wb_ mdB n4B l1 wwB := H_wwB
  replace H_wff : hFit T fi e0f e1f m1f wff := H_wff
  replace H_wc : hCourse T co cpo wc := H_wc
  replace H_wcp : hPosts T cpo wcp := H_wcp
  replace H_wr : hTrail T tr tpo wr := H_wr
  replace H_wrp : hPosts T tpo wrp := H_wrp
  replace H_wp : hPosts T po wp := H_wp
  replace H_wta : hTold T m0 l0a l1a d0a d1a g0a g1a lna wta := H_wta
  replace H_z0_a : hLand T l0a z0_a := H_z0_a
  replace H_z1_a : hLand T l1a z1_a := H_z1_a
  replace H_wd0_a : hDay T d0a wd0_a := H_wd0_a
  replace H_wd1_a : hDay T d1a wd1_a := H_wd1_a
  replace H_wg0_a : hLog T g0a wg0_a := H_wg0_a
  replace H_wg1_a : hLog T g1a wg1_a := H_wg1_a
  replace H_wtb : hTold T m1 l0b l1b d0b d1b g0b g1b lnb wtb := H_wtb
  replace H_z0_b : hLand T l0b z0_b := H_z0_b
  replace H_z1_b : hLand T l1b z1_b := H_z1_b
  replace H_wd0_b : hDay T d0b wd0_b := H_wd0_b
  replace H_wd1_b : hDay T d1b wd1_b := H_wd1_b
  replace H_wg0_b : hLog T g0b wg0_b := H_wg0_b
  replace H_wg1_b : hLog T g1b wg1_b := H_wg1_b
  replace H_wtc : hTold T m2 l0c l1c d0c d1c g0c g1c lnc wtc := H_wtc
  replace H_z0_c : hLand T l0c z0_c := H_z0_c
  replace H_z1_c : hLand T l1c z1_c := H_z1_c
  replace H_wd0_c : hDay T d0c wd0_c := H_wd0_c
  replace H_wd1_c : hDay T d1c wd1_c := H_wd1_c
  replace H_wg0_c : hLog T g0c wg0_c := H_wg0_c
  replace H_wg1_c : hLog T g1c wg1_c := H_wg1_c
  replace hm0 : qi 0 = some m0 := hm0
  replace hm1 : qi 1 = some m1 := hm1
  replace hm2 : qi 2 = some m2 := hm2
  replace h56 : ((0 ≤ r5.toInt ∧ r5.toInt ≤ 600) ∧ 0 ≤ r6.toInt ∧ r6.toInt ≤ 1000) := h56
  replace hFI : (¬ e0f = 0 → e1f.toInt = 0 ∧ ¬ mdA = 0 ∨ e1f.toInt = 1 ∧ ¬ mdB = 0) := hFI
  replace hAI : zAI f_all := hAI
  replace hRl : zRl ln lna lnb lnc f_all := hRl
  replace hHs : zHs fmk f_has := hHs
  replace G : zS T A s.heap s [[(xo, .inr (10, [.ref t, .ref im, .ref mk, .ref rd, .ref po, .ref co, .ref tr, .ref wa, .ref wb_, .ref fi, .ref cd]))], wt, z0_, z1_, wd0_, wd1_, wg0_, wg1_, [(rd, .inr (7, [.ref rl, .ref rdd, .ref rg, .int r0, .int r1, .ref tq, .int r2, .int r3, .int r4, .int r5, .int r6, .int r7, .int r8]))], z, wd, wg, wwA, wwB, wff, wc, wcp, wr, wrp, wp, [(cd, .inl (T.2 0, 1000, .inl fcd))], wta, z0_a, z1_a, wd0_a, wd1_a, wg0_a, wg1_a, wtb, z0_b, z1_b, wd0_b, wd1_b, wg0_b, wg1_b, wtc, z0_c, z1_c, wd0_c, wd1_c, wg0_c, wg1_c, [(im, .inl (T.2 6, 3, .inr (.inr (.inr (.inr qi)))))], [(mk, .inl (T.2 2, 3, .inl fmk))], [(mo, .inr (11, [.ref m_all, .ref m_has, .int i_size, .int i_next, .int i_where, .int i_token, .int i_number, .int i_word, .int i_wrong, .int i_farCrossing, .ref m_read, .int i_z0, .int i_crossings, .int i_inns, .ref m_posts, .ref m_shut, .ref m_here, .int i_steps, .int i_done, .int i_at, .int i_gone, .ref m_was, .ref m_came, .ref m_seenAt, .ref m_rowWorth, .ref m_farBy, .ref m_used, .int i_everywhere, .int i_again0, .int i_d0, .int i_never, .int i_firstCame, .int i_longRun, .int i_moved, .int i_crowd, .int i_l0, .int i_fitMany, .int i_fitLeast, .int i_fitMost, .ref m_fitPost, .ref m_fitEnd, .ref m_keptPosts, .int i_x0]))], [(m_all, .inl (T.2 0, 3952, .inl f_all))], [(m_has, .inl (T.2 2, 3, .inl f_has))], [(m_read, .inl (T.2 0, 121, .inl f_read))], [(m_posts, .inl (T.2 0, 7, .inl f_posts))], [(m_shut, .inl (T.2 0, 7, .inl f_shut))], [(m_here, .inl (T.2 0, 7, .inl f_here))], [(m_was, .inl (T.2 0, 7, .inl f_was))], [(m_came, .inl (T.2 0, 7, .inl f_came))], [(m_seenAt, .inl (T.2 0, 16384, .inl f_seenAt))], [(m_rowWorth, .inl (T.2 0, 512, .inl f_rowWorth))], [(m_farBy, .inl (T.2 0, 49, .inl f_farBy))], [(m_used, .inl (T.2 0, 7, .inl f_used))], [(m_fitPost, .inl (T.2 0, 28, .inl f_fitPost))], [(m_fitEnd, .inl (T.2 0, 49, .inl f_fitEnd))], [(m_keptPosts, .inl (T.2 0, 7, .inl f_keptPosts))]] H locs := G
  have hB := zAI_0 hAI
  have hB4 := hB.1
  obtain ⟨hln, hlna, hlnb, hlnc⟩ := zRl_in hAI hRl
  refine lv_aload_n hx hb dL_law_723 rfl (lv_at hl 1 rfl) ?_
  refine lv_aload_n hx hb dL_law_724 rfl (lv_at hl 0 rfl) ?_
  refine lv_iload_n hx hb dL_law_725 rfl (lv_at hl 3 rfl) ?_
  refine lv_iconst (v := 1) hx hb dL_law_726 (by decide) ?_
  refine lv_iadd hx hb dL_law_727 ?_
  refine lv_topi (fun y_1 ey_1 => ?_)
  obtain rfl : y_1 = nI (i + 1) := ey_1.trans (z_iaddn i 1 rfl rfl)
  refine va_sld hx hb hX hbl hbA G.2.2.2.1 (vp_in_nI (by omega) (by omega)) dL_law_728 ?_
  refine lv_topi (fun v_2 ev_2 => ?_)
  rw [nI_clamp (by omega)] at ev_2
  have ev_2 : v_2 = xs (i + 1) := ev_2
  subst ev_2
  refine lv_aload_n hx hb dL_law_729 rfl (lv_at hl 0 rfl) ?_
  refine lv_iload_n hx hb dL_law_730 rfl (lv_at hl 3 rfl) ?_
  refine lv_iconst (v := 2) hx hb dL_law_731 (by decide) ?_
  refine lv_iadd hx hb dL_law_732 ?_
  refine lv_topi (fun y_3 ey_3 => ?_)
  obtain rfl : y_3 = nI (i + 2) := ey_3.trans (z_iaddn i 2 rfl rfl)
  refine va_sld hx hb hX hbl hbA G.2.2.2.1 (vp_in_nI (by omega) (by omega)) dL_law_733 ?_
  refine lv_topi (fun v_4 ev_4 => ?_)
  rw [nI_clamp (by omega)] at ev_4
  have ev_4 : v_4 = xs (i + 2) := ev_4
  subst ev_4
  refine lv_aload_n hx hb dL_law_734 rfl (lv_at hl 0 rfl) ?_
  refine lv_iload_n hx hb dL_law_735 rfl (lv_at hl 3 rfl) ?_
  refine lv_iconst (v := 3) hx hb dL_law_736 (by decide) ?_
  refine lv_iadd hx hb dL_law_737 ?_
  refine lv_topi (fun y_5 ey_5 => ?_)
  obtain rfl : y_5 = nI (i + 3) := ey_5.trans (z_iaddn i 3 rfl rfl)
  refine va_sld hx hb hX hbl hbA G.2.2.2.1 (vp_in_nI (by omega) (by omega)) dL_law_738 ?_
  refine lv_topi (fun v_6 ev_6 => ?_)
  rw [nI_clamp (by omega)] at ev_6
  have ev_6 : v_6 = xs (i + 3) := ev_6
  subst ev_6
  refine lv_aload_n hx hb dL_law_739 rfl (lv_at hl 0 rfl) ?_
  refine lv_iload_n hx hb dL_law_740 rfl (lv_at hl 3 rfl) ?_
  refine lv_iconst (v := 4) hx hb dL_law_741 (by decide) ?_
  refine lv_iadd hx hb dL_law_742 ?_
  refine lv_topi (fun y_7 ey_7 => ?_)
  obtain rfl : y_7 = nI (i + 4) := ey_7.trans (z_iaddn i 4 rfl rfl)
  refine va_sld hx hb hX hbl hbA G.2.2.2.1 (vp_in_nI (by omega) (by omega)) dL_law_743 ?_
  refine lv_topi (fun v_8 ev_8 => ?_)
  rw [nI_clamp (by omega)] at ev_8
  have ev_8 : v_8 = xs (i + 4) := ev_8
  subst ev_8
  refine lv_if_eq (tgt := 751) hx hb dL_law_744 (by decide) (fun c_9 => ?_) (fun c_9 => ?_)
  · have c_9n : (xs (i + 4)).toInt = (0 : Int) := (fa_eq _ _).mp c_9
    refine lv_iconst (v := 0) hx hb dL_law_751 (by decide) ?_
    obtain ⟨v_10, v_11, v_12, v_13, h_14, h_15⟩ := H_wt
    have h_15 : zKT v_13 := h_15
    obtain ⟨v_16, v_17, v_18, v_19, v_20, v_21, h_22, h_23⟩ := H_z0_
    have h_23 : zLI v_16 v_18 v_20 := h_23
    obtain ⟨v_24, v_25, v_26, v_27, v_28, v_29, h_30, h_31⟩ := H_z1_
    have h_31 : zLI v_24 v_26 v_28 := h_31
    obtain ⟨v_32, v_33, v_34, v_35, v_36, v_37, v_38, v_39, v_40, h_41, h_42, h_43, h_44⟩ := H_wwA
    have h_42 : zPw n4A := h_42
    have h_43 : (mdA = 0 ∨ v_32 = l0) := h_43
    have h_44 : (0 ≤ v_33.toInt ∧ v_33.toInt ≤ 16384) := h_44
    obtain ⟨v_45, v_46, v_47, v_48, v_49, v_50, v_51, v_52, v_53, h_54, h_55, h_56, h_57⟩ := H_wwB
    have h_55 : zPw n4B := h_55
    have h_56 : (mdB = 0 ∨ v_45 = l1) := h_56
    have h_57 : (0 ≤ v_46.toInt ∧ v_46.toInt ≤ 16384) := h_57
    have hq0m := zNA_mono (c := ((xs (i + 1)).toInt = 0 ∧ 0 < (v_13 0).toInt ∧ 0 ≤ (xs (i + 2)).toInt ∧ (xs (i + 2)).toInt < v_16.toInt ∧ (xs (i + 2)).toInt < 7 ∧ 0 ≤ (xs (i + 3)).toInt ∧ (xs (i + 3)).toInt < v_16.toInt ∧ (xs (i + 3)).toInt < 7 ∧ ¬ zBit v_17 (xs (i + 3)) = 0)) (md := mdA) (cr := v_16) (inn := v_17) (k1 := v_18) h_42
    have hq0l := zPw_le (zNA_ge (c := ((xs (i + 1)).toInt = 0 ∧ 0 < (v_13 0).toInt ∧ 0 ≤ (xs (i + 2)).toInt ∧ (xs (i + 2)).toInt < v_16.toInt ∧ (xs (i + 2)).toInt < 7 ∧ 0 ≤ (xs (i + 3)).toInt ∧ (xs (i + 3)).toInt < v_16.toInt ∧ (xs (i + 3)).toInt < 7 ∧ ¬ zBit v_17 (xs (i + 3)) = 0)) (md := mdA) (pl := (zPl v_16 v_17 v_18)) h_42)
    have hq2m := zNA_mono (c := ((xs (i + 1)).toInt = 1 ∧ 1 < (v_13 0).toInt ∧ 0 ≤ (xs (i + 2)).toInt ∧ (xs (i + 2)).toInt < v_24.toInt ∧ (xs (i + 2)).toInt < 7 ∧ 0 ≤ (xs (i + 3)).toInt ∧ (xs (i + 3)).toInt < v_24.toInt ∧ (xs (i + 3)).toInt < 7 ∧ ¬ zBit v_25 (xs (i + 3)) = 0)) (md := mdB) (cr := v_24) (inn := v_25) (k1 := v_26) h_55
    have hq2l := zPw_le (zNA_ge (c := ((xs (i + 1)).toInt = 1 ∧ 1 < (v_13 0).toInt ∧ 0 ≤ (xs (i + 2)).toInt ∧ (xs (i + 2)).toInt < v_24.toInt ∧ (xs (i + 2)).toInt < 7 ∧ 0 ≤ (xs (i + 3)).toInt ∧ (xs (i + 3)).toInt < v_24.toInt ∧ (xs (i + 3)).toInt < 7 ∧ ¬ zBit v_25 (xs (i + 3)) = 0)) (md := mdB) (pl := (zPl v_24 v_25 v_26)) h_55)
    refine z_Vi (bc := [[(xo, .inr (10, [.ref t, .ref im, .ref mk, .ref rd, .ref po, .ref co, .ref tr, .ref wa, .ref wb_, .ref fi, .ref cd]))], wt, z0_, z1_, wwA, wwB]) (br := [wd0_, wd1_, wg0_, wg1_, [(rd, .inr (7, [.ref rl, .ref rdd, .ref rg, .int r0, .int r1, .ref tq, .int r2, .int r3, .int r4, .int r5, .int r6, .int r7, .int r8]))], z, wd, wg, wff, wc, wcp, wr, wrp, wp, [(cd, .inl (T.2 0, 1000, .inl fcd))], wta, z0_a, z1_a, wd0_a, wd1_a, wg0_a, wg1_a, wtb, z0_b, z1_b, wd0_b, wd1_b, wg0_b, wg1_b, wtc, z0_c, z1_c, wd0_c, wd1_c, wg0_c, wg1_c, [(im, .inl (T.2 6, 3, .inr (.inr (.inr (.inr qi)))))], [(mk, .inl (T.2 2, 3, .inl fmk))], [(mo, .inr (11, [.ref m_all, .ref m_has, .int i_size, .int i_next, .int i_where, .int i_token, .int i_number, .int i_word, .int i_wrong, .int i_farCrossing, .ref m_read, .int i_z0, .int i_crossings, .int i_inns, .ref m_posts, .ref m_shut, .ref m_here, .int i_steps, .int i_done, .int i_at, .int i_gone, .ref m_was, .ref m_came, .ref m_seenAt, .ref m_rowWorth, .ref m_farBy, .ref m_used, .int i_everywhere, .int i_again0, .int i_d0, .int i_never, .int i_firstCame, .int i_longRun, .int i_moved, .int i_crowd, .int i_l0, .int i_fitMany, .int i_fitLeast, .int i_fitMost, .ref m_fitPost, .ref m_fitEnd, .ref m_keptPosts, .int i_x0]))], [(m_all, .inl (T.2 0, 3952, .inl f_all))], [(m_has, .inl (T.2 2, 3, .inl f_has))], [(m_read, .inl (T.2 0, 121, .inl f_read))], [(m_posts, .inl (T.2 0, 7, .inl f_posts))], [(m_shut, .inl (T.2 0, 7, .inl f_shut))], [(m_here, .inl (T.2 0, 7, .inl f_here))], [(m_was, .inl (T.2 0, 7, .inl f_was))], [(m_came, .inl (T.2 0, 7, .inl f_came))], [(m_seenAt, .inl (T.2 0, 16384, .inl f_seenAt))], [(m_rowWorth, .inl (T.2 0, 512, .inl f_rowWorth))], [(m_farBy, .inl (T.2 0, 49, .inl f_farBy))], [(m_used, .inl (T.2 0, 7, .inl f_used))], [(m_fitPost, .inl (T.2 0, 28, .inl f_fitPost))], [(m_fitEnd, .inl (T.2 0, 49, .inl f_fitEnd))], [(m_keptPosts, .inl (T.2 0, 7, .inl f_keptPosts))]]) (As := [.int (xs (i + 1)), .int (xs (i + 2)), .int (xs (i + 3)), .int 0]) (rest := []) C G (c_lot l T xo t im mk rd po co tr wa wb_ fi cd l0 l1 d0 d1 g0 g1 ln v_10 v_11 v_12 v_13 wt v_16 v_17 v_18 v_19 v_20 v_21 z0_ v_24 v_25 v_26 v_27 v_28 v_29 z1_ v_32 mdA v_33 v_34 v_35 v_36 v_37 v_38 v_39 v_40 n4A wwA v_45 mdB v_46 v_47 v_48 v_49 v_50 v_51 v_52 v_53 n4B wwB (xs (i + 1)) (xs (i + 2)) (xs (i + 3)) 0 h_14 (by first | assumption | omega | rfl) h_22 (by first | assumption | omega | rfl) h_30 (by first | assumption | omega | rfl) h_41 (by first | assumption | omega | rfl) (by first | assumption | omega | rfl) (by first | assumption | omega | rfl) h_54 (by first | assumption | omega | rfl) (by first | assumption | omega | rfl) (by first | assumption | omega | rfl)) (kV_RL_71 C.2.2.2.2 (Nat.le_of_ble_eq_true rfl) (Nat.le_of_ble_eq_true rfl)) [0, 1, 2, 3, 12, 13] [4, 5, 6, 7, 8, 9, 10, 11, 14, 15, 16, 17, 18, 19, 20, 21, 22, 23, 24, 25, 26, 27, 28, 29, 30, 31, 32, 33, 34, 35, 36, 37, 38, 39, 40, 41, 42, 43, 44, 45, 46, 47, 48, 49, 50, 51, 52, 53, 54, 55, 56, 57, 58, 59] rfl rfl (ci := 10) (qc := (RX11, TX11, 11)) rfl rfl (List.mem_flatten.mpr ⟨_, List.mem_of_getElem? (i := 0) rfl, List.mem_cons_self⟩) rfl rfl hl.1 dL_law_752 (by show _ + 3 ≤ 600000; omega) (by show _ + (6 * (zNA ((xs (i + 1)).toInt = 0 ∧ 0 < (v_13 0).toInt ∧ 0 ≤ (xs (i + 2)).toInt ∧ (xs (i + 2)).toInt < v_16.toInt ∧ (xs (i + 2)).toInt < 7 ∧ 0 ≤ (xs (i + 3)).toInt ∧ (xs (i + 3)).toInt < v_16.toInt ∧ (xs (i + 3)).toInt < 7 ∧ ¬ zBit v_17 (xs (i + 3)) = 0) mdA n4A (zPl v_16 v_17 v_18) - n4A) + 6 * (zNA ((xs (i + 1)).toInt = 1 ∧ 1 < (v_13 0).toInt ∧ 0 ≤ (xs (i + 2)).toInt ∧ (xs (i + 2)).toInt < v_24.toInt ∧ (xs (i + 2)).toInt < 7 ∧ 0 ≤ (xs (i + 3)).toInt ∧ (xs (i + 3)).toInt < v_24.toInt ∧ (xs (i + 3)).toInt < 7 ∧ ¬ zBit v_25 (xs (i + 3)) = 0) mdB n4B (zPl v_24 v_25 v_26) - n4B)) ≤ 7302250; omega) (fun r_94 b1 H locs hw G => ?_)
    obtain ⟨laA_58, mdA_59, wyA_60, pc_A_61, f1A_62, f2A_63, f3A_64, f4A_65, f5A_66, f6A_67, n4A_68, wwA_69, laB_70, mdB_71, wyB_72, pc_B_73, f1B_74, f2B_75, f3B_76, f4B_77, f5B_78, f6B_79, n4B_80, wwB_81, rfl, h_82, h_83, h_84, h_85, h_86, h_87, h_88, h_89, h_90, h_91, h_92, h_93⟩ := hw
    have G : zS T A s.heap s [wd0_, wd1_, wg0_, wg1_, [(rd, .inr (7, [.ref rl, .ref rdd, .ref rg, .int r0, .int r1, .ref tq, .int r2, .int r3, .int r4, .int r5, .int r6, .int r7, .int r8]))], z, wd, wg, wff, wc, wcp, wr, wrp, wp, [(cd, .inl (T.2 0, 1000, .inl fcd))], wta, z0_a, z1_a, wd0_a, wd1_a, wg0_a, wg1_a, wtb, z0_b, z1_b, wd0_b, wd1_b, wg0_b, wg1_b, wtc, z0_c, z1_c, wd0_c, wd1_c, wg0_c, wg1_c, [(im, .inl (T.2 6, 3, .inr (.inr (.inr (.inr qi)))))], [(mk, .inl (T.2 2, 3, .inl fmk))], [(mo, .inr (11, [.ref m_all, .ref m_has, .int i_size, .int i_next, .int i_where, .int i_token, .int i_number, .int i_word, .int i_wrong, .int i_farCrossing, .ref m_read, .int i_z0, .int i_crossings, .int i_inns, .ref m_posts, .ref m_shut, .ref m_here, .int i_steps, .int i_done, .int i_at, .int i_gone, .ref m_was, .ref m_came, .ref m_seenAt, .ref m_rowWorth, .ref m_farBy, .ref m_used, .int i_everywhere, .int i_again0, .int i_d0, .int i_never, .int i_firstCame, .int i_longRun, .int i_moved, .int i_crowd, .int i_l0, .int i_fitMany, .int i_fitLeast, .int i_fitMost, .ref m_fitPost, .ref m_fitEnd, .ref m_keptPosts, .int i_x0]))], [(m_all, .inl (T.2 0, 3952, .inl f_all))], [(m_has, .inl (T.2 2, 3, .inl f_has))], [(m_read, .inl (T.2 0, 121, .inl f_read))], [(m_posts, .inl (T.2 0, 7, .inl f_posts))], [(m_shut, .inl (T.2 0, 7, .inl f_shut))], [(m_here, .inl (T.2 0, 7, .inl f_here))], [(m_was, .inl (T.2 0, 7, .inl f_was))], [(m_came, .inl (T.2 0, 7, .inl f_came))], [(m_seenAt, .inl (T.2 0, 16384, .inl f_seenAt))], [(m_rowWorth, .inl (T.2 0, 512, .inl f_rowWorth))], [(m_farBy, .inl (T.2 0, 49, .inl f_farBy))], [(m_used, .inl (T.2 0, 7, .inl f_used))], [(m_fitPost, .inl (T.2 0, 28, .inl f_fitPost))], [(m_fitEnd, .inl (T.2 0, 49, .inl f_fitEnd))], [(m_keptPosts, .inl (T.2 0, 7, .inl f_keptPosts))], [(xo, .inr (10, [.ref t, .ref im, .ref mk, .ref rd, .ref po, .ref co, .ref tr, .ref wa, .ref wb_, .ref fi, .ref cd]))], wt, z0_, z1_, wwA_69, wwB_81] _ _ := G
    have hFI2 : (¬ e0f = 0 → e1f.toInt = 0 ∧ ¬ mdA_59 = 0 ∨ e1f.toInt = 1 ∧ ¬ mdB_71 = 0) := fun q => (hFI q).elim (fun z => Or.inl ⟨z.1, h_87 z.2⟩) (fun z => Or.inr ⟨z.1, h_93 z.2⟩)
    refine lv_pop hx hb dL_law_755 rfl ?_
    refine lv_aload_n hx hb dL_law_756 rfl (lv_at hl 2 rfl) ?_
    refine lv_aload_n hx hb dL_law_757 rfl (lv_at hl 0 rfl) ?_
    refine lv_iload_n hx hb dL_law_758 rfl (lv_at hl 3 rfl) ?_
    refine lv_iconst (v := 1) hx hb dL_law_759 (by decide) ?_
    refine lv_iadd hx hb dL_law_760 ?_
    refine lv_topi (fun y_95 ey_95 => ?_)
    obtain rfl : y_95 = nI (i + 1) := ey_95.trans (z_iaddn i 1 rfl rfl)
    refine va_sld hx hb hX hbl hbA G.2.2.2.1 (vp_in_nI (by omega) (by omega)) dL_law_761 ?_
    refine lv_topi (fun v_96 ev_96 => ?_)
    rw [nI_clamp (by omega)] at ev_96
    have ev_96 : v_96 = xs (i + 1) := ev_96
    subst ev_96
    refine lv_aload_n hx hb dL_law_762 rfl (lv_at hl 0 rfl) ?_
    refine lv_iload_n hx hb dL_law_763 rfl (lv_at hl 3 rfl) ?_
    refine lv_iconst (v := 2) hx hb dL_law_764 (by decide) ?_
    refine lv_iadd hx hb dL_law_765 ?_
    refine lv_topi (fun y_97 ey_97 => ?_)
    obtain rfl : y_97 = nI (i + 2) := ey_97.trans (z_iaddn i 2 rfl rfl)
    refine va_sld hx hb hX hbl hbA G.2.2.2.1 (vp_in_nI (by omega) (by omega)) dL_law_766 ?_
    refine lv_topi (fun v_98 ev_98 => ?_)
    rw [nI_clamp (by omega)] at ev_98
    have ev_98 : v_98 = xs (i + 2) := ev_98
    subst ev_98
    refine lv_aload_n hx hb dL_law_767 rfl (lv_at hl 0 rfl) ?_
    refine lv_iload_n hx hb dL_law_768 rfl (lv_at hl 3 rfl) ?_
    refine lv_iconst (v := 3) hx hb dL_law_769 (by decide) ?_
    refine lv_iadd hx hb dL_law_770 ?_
    refine lv_topi (fun y_99 ey_99 => ?_)
    obtain rfl : y_99 = nI (i + 3) := ey_99.trans (z_iaddn i 3 rfl rfl)
    refine va_sld hx hb hX hbl hbA G.2.2.2.1 (vp_in_nI (by omega) (by omega)) dL_law_771 ?_
    refine lv_topi (fun v_100 ev_100 => ?_)
    rw [nI_clamp (by omega)] at ev_100
    have ev_100 : v_100 = xs (i + 3) := ev_100
    subst ev_100
    refine lv_aload_n hx hb dL_law_772 rfl (lv_at hl 0 rfl) ?_
    refine lv_iload_n hx hb dL_law_773 rfl (lv_at hl 3 rfl) ?_
    refine lv_iconst (v := 4) hx hb dL_law_774 (by decide) ?_
    refine lv_iadd hx hb dL_law_775 ?_
    refine lv_topi (fun y_101 ey_101 => ?_)
    obtain rfl : y_101 = nI (i + 4) := ey_101.trans (z_iaddn i 4 rfl rfl)
    refine va_sld hx hb hX hbl hbA G.2.2.2.1 (vp_in_nI (by omega) (by omega)) dL_law_776 ?_
    refine lv_topi (fun v_102 ev_102 => ?_)
    rw [nI_clamp (by omega)] at ev_102
    have ev_102 : v_102 = xs (i + 4) := ev_102
    subst ev_102
    refine lv_if_eq (tgt := 784) hx hb dL_law_777 (by decide) (fun _ => ?_) (fun q => absurd c_9 q)
    refine lv_iconst (v := 0) hx hb dL_law_784 (by decide) ?_
    refine z_Vi (bc := [[(mo, .inr (11, [.ref m_all, .ref m_has, .int i_size, .int i_next, .int i_where, .int i_token, .int i_number, .int i_word, .int i_wrong, .int i_farCrossing, .ref m_read, .int i_z0, .int i_crossings, .int i_inns, .ref m_posts, .ref m_shut, .ref m_here, .int i_steps, .int i_done, .int i_at, .int i_gone, .ref m_was, .ref m_came, .ref m_seenAt, .ref m_rowWorth, .ref m_farBy, .ref m_used, .int i_everywhere, .int i_again0, .int i_d0, .int i_never, .int i_firstCame, .int i_longRun, .int i_moved, .int i_crowd, .int i_l0, .int i_fitMany, .int i_fitLeast, .int i_fitMost, .ref m_fitPost, .ref m_fitEnd, .ref m_keptPosts, .int i_x0]))], [(m_all, .inl (T.2 0, 3952, .inl f_all))], [(m_posts, .inl (T.2 0, 7, .inl f_posts))], [(m_shut, .inl (T.2 0, 7, .inl f_shut))], [(m_here, .inl (T.2 0, 7, .inl f_here))], [(m_was, .inl (T.2 0, 7, .inl f_was))]]) (br := [wd0_, wd1_, wg0_, wg1_, [(rd, .inr (7, [.ref rl, .ref rdd, .ref rg, .int r0, .int r1, .ref tq, .int r2, .int r3, .int r4, .int r5, .int r6, .int r7, .int r8]))], z, wd, wg, wff, wc, wcp, wr, wrp, wp, [(cd, .inl (T.2 0, 1000, .inl fcd))], wta, z0_a, z1_a, wd0_a, wd1_a, wg0_a, wg1_a, wtb, z0_b, z1_b, wd0_b, wd1_b, wg0_b, wg1_b, wtc, z0_c, z1_c, wd0_c, wd1_c, wg0_c, wg1_c, [(im, .inl (T.2 6, 3, .inr (.inr (.inr (.inr qi)))))], [(mk, .inl (T.2 2, 3, .inl fmk))], [(m_has, .inl (T.2 2, 3, .inl f_has))], [(m_read, .inl (T.2 0, 121, .inl f_read))], [(m_came, .inl (T.2 0, 7, .inl f_came))], [(m_seenAt, .inl (T.2 0, 16384, .inl f_seenAt))], [(m_rowWorth, .inl (T.2 0, 512, .inl f_rowWorth))], [(m_farBy, .inl (T.2 0, 49, .inl f_farBy))], [(m_used, .inl (T.2 0, 7, .inl f_used))], [(m_fitPost, .inl (T.2 0, 28, .inl f_fitPost))], [(m_fitEnd, .inl (T.2 0, 49, .inl f_fitEnd))], [(m_keptPosts, .inl (T.2 0, 7, .inl f_keptPosts))], [(xo, .inr (10, [.ref t, .ref im, .ref mk, .ref rd, .ref po, .ref co, .ref tr, .ref wa, .ref wb_, .ref fi, .ref cd]))], wt, z0_, z1_, wwA_69, wwB_81]) (As := [.int (xs (i + 1)), .int (xs (i + 2)), .int (xs (i + 3)), .int 0]) (rest := []) C G (c_m_lot l T mo m_all m_has i_size i_next i_where i_token i_number i_word i_wrong i_farCrossing m_read i_z0 i_crossings i_inns m_posts m_shut m_here i_steps i_done i_at i_gone m_was m_came m_seenAt m_rowWorth m_farBy m_used i_everywhere i_again0 i_d0 i_never i_firstCame i_longRun i_moved i_crowd i_l0 i_fitMany i_fitLeast i_fitMost m_fitPost m_fitEnd m_keptPosts i_x0 f_all f_posts f_shut f_here f_was (xs (i + 1)) (xs (i + 2)) (xs (i + 3)) 0 (by first | assumption | omega | rfl)) (kV_RL_75 C.2.2.2.2 (Nat.le_of_ble_eq_true rfl) (Nat.le_of_ble_eq_true rfl)) [38, 39, 42, 43, 44, 45] [0, 1, 2, 3, 4, 5, 6, 7, 8, 9, 10, 11, 12, 13, 14, 15, 16, 17, 18, 19, 20, 21, 22, 23, 24, 25, 26, 27, 28, 29, 30, 31, 32, 33, 34, 35, 36, 37, 40, 41, 46, 47, 48, 49, 50, 51, 52, 53, 54, 55, 56, 57, 58, 59] rfl rfl (ci := 11) (qc := (RX12, TX12, 43)) rfl rfl (List.mem_flatten.mpr ⟨_, List.mem_of_getElem? (i := 0) rfl, List.mem_cons_self⟩) rfl rfl hl.1 dL_law_785 (by show _ + 0 ≤ 600000; omega) (by show _ + 0 ≤ 7302250; omega) (fun r_114 b1 H locs hw G => ?_)
    obtain ⟨j_z0_103, j_crossings_104, j_inns_105, j_steps_106, j_done_107, j_at_108, j_gone_109, g_posts_110, g_shut_111, g_here_112, g_was_113, rfl⟩ := hw
    have G : zS T A s.heap s [wd0_, wd1_, wg0_, wg1_, [(rd, .inr (7, [.ref rl, .ref rdd, .ref rg, .int r0, .int r1, .ref tq, .int r2, .int r3, .int r4, .int r5, .int r6, .int r7, .int r8]))], z, wd, wg, wff, wc, wcp, wr, wrp, wp, [(cd, .inl (T.2 0, 1000, .inl fcd))], wta, z0_a, z1_a, wd0_a, wd1_a, wg0_a, wg1_a, wtb, z0_b, z1_b, wd0_b, wd1_b, wg0_b, wg1_b, wtc, z0_c, z1_c, wd0_c, wd1_c, wg0_c, wg1_c, [(im, .inl (T.2 6, 3, .inr (.inr (.inr (.inr qi)))))], [(mk, .inl (T.2 2, 3, .inl fmk))], [(m_has, .inl (T.2 2, 3, .inl f_has))], [(m_read, .inl (T.2 0, 121, .inl f_read))], [(m_came, .inl (T.2 0, 7, .inl f_came))], [(m_seenAt, .inl (T.2 0, 16384, .inl f_seenAt))], [(m_rowWorth, .inl (T.2 0, 512, .inl f_rowWorth))], [(m_farBy, .inl (T.2 0, 49, .inl f_farBy))], [(m_used, .inl (T.2 0, 7, .inl f_used))], [(m_fitPost, .inl (T.2 0, 28, .inl f_fitPost))], [(m_fitEnd, .inl (T.2 0, 49, .inl f_fitEnd))], [(m_keptPosts, .inl (T.2 0, 7, .inl f_keptPosts))], [(xo, .inr (10, [.ref t, .ref im, .ref mk, .ref rd, .ref po, .ref co, .ref tr, .ref wa, .ref wb_, .ref fi, .ref cd]))], wt, z0_, z1_, wwA_69, wwB_81, [(mo, .inr (11, [.ref m_all, .ref m_has, .int i_size, .int i_next, .int i_where, .int i_token, .int i_number, .int i_word, .int i_wrong, .int i_farCrossing, .ref m_read, .int j_z0_103, .int j_crossings_104, .int j_inns_105, .ref m_posts, .ref m_shut, .ref m_here, .int j_steps_106, .int j_done_107, .int j_at_108, .int j_gone_109, .ref m_was, .ref m_came, .ref m_seenAt, .ref m_rowWorth, .ref m_farBy, .ref m_used, .int i_everywhere, .int i_again0, .int i_d0, .int i_never, .int i_firstCame, .int i_longRun, .int i_moved, .int i_crowd, .int i_l0, .int i_fitMany, .int i_fitLeast, .int i_fitMost, .ref m_fitPost, .ref m_fitEnd, .ref m_keptPosts, .int i_x0]))], [(m_all, .inl (T.2 0, 3952, .inl f_all))], [(m_posts, .inl (T.2 0, 7, .inl g_posts_110))], [(m_shut, .inl (T.2 0, 7, .inl g_shut_111))], [(m_here, .inl (T.2 0, 7, .inl g_here_112))], [(m_was, .inl (T.2 0, 7, .inl g_was_113))]] _ _ := G
    refine lv_pop hx hb dL_law_788 rfl ?_
    refine lv_goto (tgt := 1767) hx hb dL_law_789 (by decide) ?_
    have G := G.sub (bs' := [[(xo, .inr (10, [.ref t, .ref im, .ref mk, .ref rd, .ref po, .ref co, .ref tr, .ref wa, .ref wb_, .ref fi, .ref cd]))], wt, z0_, z1_, wd0_, wd1_, wg0_, wg1_, [(rd, .inr (7, [.ref rl, .ref rdd, .ref rg, .int r0, .int r1, .ref tq, .int r2, .int r3, .int r4, .int r5, .int r6, .int r7, .int r8]))], z, wd, wg, wwA_69, wwB_81, wff, wc, wcp, wr, wrp, wp, [(cd, .inl (T.2 0, 1000, .inl fcd))], wta, z0_a, z1_a, wd0_a, wd1_a, wg0_a, wg1_a, wtb, z0_b, z1_b, wd0_b, wd1_b, wg0_b, wg1_b, wtc, z0_c, z1_c, wd0_c, wd1_c, wg0_c, wg1_c, [(im, .inl (T.2 6, 3, .inr (.inr (.inr (.inr qi)))))], [(mk, .inl (T.2 2, 3, .inl fmk))], [(mo, .inr (11, [.ref m_all, .ref m_has, .int i_size, .int i_next, .int i_where, .int i_token, .int i_number, .int i_word, .int i_wrong, .int i_farCrossing, .ref m_read, .int j_z0_103, .int j_crossings_104, .int j_inns_105, .ref m_posts, .ref m_shut, .ref m_here, .int j_steps_106, .int j_done_107, .int j_at_108, .int j_gone_109, .ref m_was, .ref m_came, .ref m_seenAt, .ref m_rowWorth, .ref m_farBy, .ref m_used, .int i_everywhere, .int i_again0, .int i_d0, .int i_never, .int i_firstCame, .int i_longRun, .int i_moved, .int i_crowd, .int i_l0, .int i_fitMany, .int i_fitLeast, .int i_fitMost, .ref m_fitPost, .ref m_fitEnd, .ref m_keptPosts, .int i_x0]))], [(m_all, .inl (T.2 0, 3952, .inl f_all))], [(m_has, .inl (T.2 2, 3, .inl f_has))], [(m_read, .inl (T.2 0, 121, .inl f_read))], [(m_posts, .inl (T.2 0, 7, .inl g_posts_110))], [(m_shut, .inl (T.2 0, 7, .inl g_shut_111))], [(m_here, .inl (T.2 0, 7, .inl g_here_112))], [(m_was, .inl (T.2 0, 7, .inl g_was_113))], [(m_came, .inl (T.2 0, 7, .inl f_came))], [(m_seenAt, .inl (T.2 0, 16384, .inl f_seenAt))], [(m_rowWorth, .inl (T.2 0, 512, .inl f_rowWorth))], [(m_farBy, .inl (T.2 0, 49, .inl f_farBy))], [(m_used, .inl (T.2 0, 7, .inl f_used))], [(m_fitPost, .inl (T.2 0, 28, .inl f_fitPost))], [(m_fitEnd, .inl (T.2 0, 49, .inl f_fitEnd))], [(m_keptPosts, .inl (T.2 0, 7, .inl f_keptPosts))]]) [48, 49, 50, 51, 0, 1, 2, 3, 4, 5, 6, 7, 52, 53, 8, 9, 10, 11, 12, 13, 14, 15, 16, 17, 18, 19, 20, 21, 22, 23, 24, 25, 26, 27, 28, 29, 30, 31, 32, 33, 34, 35, 36, 37, 54, 55, 38, 39, 56, 57, 58, 59, 40, 41, 42, 43, 44, 45, 46, 47] rfl
    refine W.widen (k := 216 + 2 * i + 12) (n := 27000 + 6 * (n4A_68 + n4B_80) + 2 * m1f) (by omega) (by omega) ?_
    exact kk n4A_68 n4B_80 m1f _ ⟨⟨t, im, mk, rd, po, co, tr, wa, wb_, fi, cd, wt, l0, l1, d0, d1, g0, g1, ln, z0_, z1_, wd0_, wd1_, wg0_, wg1_, rl, rdd, rg, r0, r1, tq, r2, r3, r4, r5, r6, r7, r8, z, wd, wg, wwA_69, mdA_59, wwB_81, mdB_71, wff, e0f, e1f, wc, cpo, wcp, wr, tpo, wrp, wp, fcd, m0, wta, l0a, l1a, d0a, d1a, g0a, g1a, lna, z0_a, z1_a, wd0_a, wd1_a, wg0_a, wg1_a, m1, wtb, l0b, l1b, d0b, d1b, g0b, g1b, lnb, z0_b, z1_b, wd0_b, wd1_b, wg0_b, wg1_b, m2, wtc, l0c, l1c, d0c, d1c, g0c, g1c, lnc, z0_c, z1_c, wd0_c, wd1_c, wg0_c, wg1_c, qi, fmk, m_all, m_has, i_size, i_next, i_where, i_token, i_number, i_word, i_wrong, i_farCrossing, m_read, j_z0_103, j_crossings_104, j_inns_105, m_posts, m_shut, m_here, j_steps_106, j_done_107, j_at_108, j_gone_109, m_was, m_came, m_seenAt, m_rowWorth, m_farBy, m_used, i_everywhere, i_again0, i_d0, i_never, i_firstCame, i_longRun, i_moved, i_crowd, i_l0, i_fitMany, i_fitLeast, i_fitMost, m_fitPost, m_fitEnd, m_keptPosts, i_x0, f_all, f_has, f_read, g_posts_110, g_shut_111, g_here_112, g_was_113, f_came, f_seenAt, f_rowWorth, f_farBy, f_used, f_fitPost, f_fitEnd, f_keptPosts⟩, rfl, ⟨v_10, v_11, v_12, v_13, h_14, (by first | assumption | omega)⟩, ⟨v_16, v_17, v_18, v_19, v_20, v_21, h_22, (by first | assumption | omega)⟩, ⟨v_24, v_25, v_26, v_27, v_28, v_29, h_30, (by first | assumption | omega)⟩, H_wd0_, H_wd1_, H_wg0_, H_wg1_, H_z, H_wd, H_wg, ⟨laA_58, wyA_60, pc_A_61, f1A_62, f2A_63, f3A_64, f4A_65, f5A_66, f6A_67, h_82, (by first | assumption | omega), (by first | assumption | omega), (by first | assumption | omega)⟩, ⟨laB_70, wyB_72, pc_B_73, f1B_74, f2B_75, f3B_76, f4B_77, f5B_78, f6B_79, h_88, (by first | assumption | omega), (by first | assumption | omega), (by first | assumption | omega)⟩, H_wff, H_wc, H_wcp, H_wr, H_wrp, H_wp, H_wta, H_z0_a, H_z1_a, H_wd0_a, H_wd1_a, H_wg0_a, H_wg1_a, H_wtb, H_z0_b, H_z1_b, H_wd0_b, H_wd1_b, H_wg0_b, H_wg1_b, H_wtc, H_z0_c, H_z1_c, H_wd0_c, H_wd1_c, H_wg0_c, H_wg1_c, (by first | assumption | omega), (by first | assumption | omega), (by first | assumption | omega), (by first | assumption | omega), (by first | assumption | omega), (by first | assumption | omega), (by first | assumption | omega), (by first | assumption | omega)⟩ _ _ ls G (lv_sub hl [0, 1, 2, 3] rfl)
  · have c_9n : ¬ (xs (i + 4)).toInt = (0 : Int) := fun q => c_9 ((fa_eq _ _).mpr q)
    refine lv_iconst (v := 1) hx hb dL_law_747 (by decide) ?_
    refine lv_goto (tgt := 752) hx hb dL_law_748 (by decide) ?_
    obtain ⟨v_115, v_116, v_117, v_118, h_119, h_120⟩ := H_wt
    have h_120 : zKT v_118 := h_120
    obtain ⟨v_121, v_122, v_123, v_124, v_125, v_126, h_127, h_128⟩ := H_z0_
    have h_128 : zLI v_121 v_123 v_125 := h_128
    obtain ⟨v_129, v_130, v_131, v_132, v_133, v_134, h_135, h_136⟩ := H_z1_
    have h_136 : zLI v_129 v_131 v_133 := h_136
    obtain ⟨v_137, v_138, v_139, v_140, v_141, v_142, v_143, v_144, v_145, h_146, h_147, h_148, h_149⟩ := H_wwA
    have h_147 : zPw n4A := h_147
    have h_148 : (mdA = 0 ∨ v_137 = l0) := h_148
    have h_149 : (0 ≤ v_138.toInt ∧ v_138.toInt ≤ 16384) := h_149
    obtain ⟨v_150, v_151, v_152, v_153, v_154, v_155, v_156, v_157, v_158, h_159, h_160, h_161, h_162⟩ := H_wwB
    have h_160 : zPw n4B := h_160
    have h_161 : (mdB = 0 ∨ v_150 = l1) := h_161
    have h_162 : (0 ≤ v_151.toInt ∧ v_151.toInt ≤ 16384) := h_162
    have hq0m := zNA_mono (c := ((xs (i + 1)).toInt = 0 ∧ 0 < (v_118 0).toInt ∧ 0 ≤ (xs (i + 2)).toInt ∧ (xs (i + 2)).toInt < v_121.toInt ∧ (xs (i + 2)).toInt < 7 ∧ 0 ≤ (xs (i + 3)).toInt ∧ (xs (i + 3)).toInt < v_121.toInt ∧ (xs (i + 3)).toInt < 7 ∧ ¬ zBit v_122 (xs (i + 3)) = 0)) (md := mdA) (cr := v_121) (inn := v_122) (k1 := v_123) h_147
    have hq0l := zPw_le (zNA_ge (c := ((xs (i + 1)).toInt = 0 ∧ 0 < (v_118 0).toInt ∧ 0 ≤ (xs (i + 2)).toInt ∧ (xs (i + 2)).toInt < v_121.toInt ∧ (xs (i + 2)).toInt < 7 ∧ 0 ≤ (xs (i + 3)).toInt ∧ (xs (i + 3)).toInt < v_121.toInt ∧ (xs (i + 3)).toInt < 7 ∧ ¬ zBit v_122 (xs (i + 3)) = 0)) (md := mdA) (pl := (zPl v_121 v_122 v_123)) h_147)
    have hq2m := zNA_mono (c := ((xs (i + 1)).toInt = 1 ∧ 1 < (v_118 0).toInt ∧ 0 ≤ (xs (i + 2)).toInt ∧ (xs (i + 2)).toInt < v_129.toInt ∧ (xs (i + 2)).toInt < 7 ∧ 0 ≤ (xs (i + 3)).toInt ∧ (xs (i + 3)).toInt < v_129.toInt ∧ (xs (i + 3)).toInt < 7 ∧ ¬ zBit v_130 (xs (i + 3)) = 0)) (md := mdB) (cr := v_129) (inn := v_130) (k1 := v_131) h_160
    have hq2l := zPw_le (zNA_ge (c := ((xs (i + 1)).toInt = 1 ∧ 1 < (v_118 0).toInt ∧ 0 ≤ (xs (i + 2)).toInt ∧ (xs (i + 2)).toInt < v_129.toInt ∧ (xs (i + 2)).toInt < 7 ∧ 0 ≤ (xs (i + 3)).toInt ∧ (xs (i + 3)).toInt < v_129.toInt ∧ (xs (i + 3)).toInt < 7 ∧ ¬ zBit v_130 (xs (i + 3)) = 0)) (md := mdB) (pl := (zPl v_129 v_130 v_131)) h_160)
    refine z_Vi (bc := [[(xo, .inr (10, [.ref t, .ref im, .ref mk, .ref rd, .ref po, .ref co, .ref tr, .ref wa, .ref wb_, .ref fi, .ref cd]))], wt, z0_, z1_, wwA, wwB]) (br := [wd0_, wd1_, wg0_, wg1_, [(rd, .inr (7, [.ref rl, .ref rdd, .ref rg, .int r0, .int r1, .ref tq, .int r2, .int r3, .int r4, .int r5, .int r6, .int r7, .int r8]))], z, wd, wg, wff, wc, wcp, wr, wrp, wp, [(cd, .inl (T.2 0, 1000, .inl fcd))], wta, z0_a, z1_a, wd0_a, wd1_a, wg0_a, wg1_a, wtb, z0_b, z1_b, wd0_b, wd1_b, wg0_b, wg1_b, wtc, z0_c, z1_c, wd0_c, wd1_c, wg0_c, wg1_c, [(im, .inl (T.2 6, 3, .inr (.inr (.inr (.inr qi)))))], [(mk, .inl (T.2 2, 3, .inl fmk))], [(mo, .inr (11, [.ref m_all, .ref m_has, .int i_size, .int i_next, .int i_where, .int i_token, .int i_number, .int i_word, .int i_wrong, .int i_farCrossing, .ref m_read, .int i_z0, .int i_crossings, .int i_inns, .ref m_posts, .ref m_shut, .ref m_here, .int i_steps, .int i_done, .int i_at, .int i_gone, .ref m_was, .ref m_came, .ref m_seenAt, .ref m_rowWorth, .ref m_farBy, .ref m_used, .int i_everywhere, .int i_again0, .int i_d0, .int i_never, .int i_firstCame, .int i_longRun, .int i_moved, .int i_crowd, .int i_l0, .int i_fitMany, .int i_fitLeast, .int i_fitMost, .ref m_fitPost, .ref m_fitEnd, .ref m_keptPosts, .int i_x0]))], [(m_all, .inl (T.2 0, 3952, .inl f_all))], [(m_has, .inl (T.2 2, 3, .inl f_has))], [(m_read, .inl (T.2 0, 121, .inl f_read))], [(m_posts, .inl (T.2 0, 7, .inl f_posts))], [(m_shut, .inl (T.2 0, 7, .inl f_shut))], [(m_here, .inl (T.2 0, 7, .inl f_here))], [(m_was, .inl (T.2 0, 7, .inl f_was))], [(m_came, .inl (T.2 0, 7, .inl f_came))], [(m_seenAt, .inl (T.2 0, 16384, .inl f_seenAt))], [(m_rowWorth, .inl (T.2 0, 512, .inl f_rowWorth))], [(m_farBy, .inl (T.2 0, 49, .inl f_farBy))], [(m_used, .inl (T.2 0, 7, .inl f_used))], [(m_fitPost, .inl (T.2 0, 28, .inl f_fitPost))], [(m_fitEnd, .inl (T.2 0, 49, .inl f_fitEnd))], [(m_keptPosts, .inl (T.2 0, 7, .inl f_keptPosts))]]) (As := [.int (xs (i + 1)), .int (xs (i + 2)), .int (xs (i + 3)), .int 1]) (rest := []) C G (c_lot l T xo t im mk rd po co tr wa wb_ fi cd l0 l1 d0 d1 g0 g1 ln v_115 v_116 v_117 v_118 wt v_121 v_122 v_123 v_124 v_125 v_126 z0_ v_129 v_130 v_131 v_132 v_133 v_134 z1_ v_137 mdA v_138 v_139 v_140 v_141 v_142 v_143 v_144 v_145 n4A wwA v_150 mdB v_151 v_152 v_153 v_154 v_155 v_156 v_157 v_158 n4B wwB (xs (i + 1)) (xs (i + 2)) (xs (i + 3)) 1 h_119 (by first | assumption | omega | rfl) h_127 (by first | assumption | omega | rfl) h_135 (by first | assumption | omega | rfl) h_146 (by first | assumption | omega | rfl) (by first | assumption | omega | rfl) (by first | assumption | omega | rfl) h_159 (by first | assumption | omega | rfl) (by first | assumption | omega | rfl) (by first | assumption | omega | rfl)) (kV_RL_71 C.2.2.2.2 (Nat.le_of_ble_eq_true rfl) (Nat.le_of_ble_eq_true rfl)) [0, 1, 2, 3, 12, 13] [4, 5, 6, 7, 8, 9, 10, 11, 14, 15, 16, 17, 18, 19, 20, 21, 22, 23, 24, 25, 26, 27, 28, 29, 30, 31, 32, 33, 34, 35, 36, 37, 38, 39, 40, 41, 42, 43, 44, 45, 46, 47, 48, 49, 50, 51, 52, 53, 54, 55, 56, 57, 58, 59] rfl rfl (ci := 10) (qc := (RX11, TX11, 11)) rfl rfl (List.mem_flatten.mpr ⟨_, List.mem_of_getElem? (i := 0) rfl, List.mem_cons_self⟩) rfl rfl hl.1 dL_law_752 (by show _ + 3 ≤ 600000; omega) (by show _ + (6 * (zNA ((xs (i + 1)).toInt = 0 ∧ 0 < (v_118 0).toInt ∧ 0 ≤ (xs (i + 2)).toInt ∧ (xs (i + 2)).toInt < v_121.toInt ∧ (xs (i + 2)).toInt < 7 ∧ 0 ≤ (xs (i + 3)).toInt ∧ (xs (i + 3)).toInt < v_121.toInt ∧ (xs (i + 3)).toInt < 7 ∧ ¬ zBit v_122 (xs (i + 3)) = 0) mdA n4A (zPl v_121 v_122 v_123) - n4A) + 6 * (zNA ((xs (i + 1)).toInt = 1 ∧ 1 < (v_118 0).toInt ∧ 0 ≤ (xs (i + 2)).toInt ∧ (xs (i + 2)).toInt < v_129.toInt ∧ (xs (i + 2)).toInt < 7 ∧ 0 ≤ (xs (i + 3)).toInt ∧ (xs (i + 3)).toInt < v_129.toInt ∧ (xs (i + 3)).toInt < 7 ∧ ¬ zBit v_130 (xs (i + 3)) = 0) mdB n4B (zPl v_129 v_130 v_131) - n4B)) ≤ 7302250; omega) (fun r_199 b1 H locs hw G => ?_)
    obtain ⟨laA_163, mdA_164, wyA_165, pc_A_166, f1A_167, f2A_168, f3A_169, f4A_170, f5A_171, f6A_172, n4A_173, wwA_174, laB_175, mdB_176, wyB_177, pc_B_178, f1B_179, f2B_180, f3B_181, f4B_182, f5B_183, f6B_184, n4B_185, wwB_186, rfl, h_187, h_188, h_189, h_190, h_191, h_192, h_193, h_194, h_195, h_196, h_197, h_198⟩ := hw
    have G : zS T A s.heap s [wd0_, wd1_, wg0_, wg1_, [(rd, .inr (7, [.ref rl, .ref rdd, .ref rg, .int r0, .int r1, .ref tq, .int r2, .int r3, .int r4, .int r5, .int r6, .int r7, .int r8]))], z, wd, wg, wff, wc, wcp, wr, wrp, wp, [(cd, .inl (T.2 0, 1000, .inl fcd))], wta, z0_a, z1_a, wd0_a, wd1_a, wg0_a, wg1_a, wtb, z0_b, z1_b, wd0_b, wd1_b, wg0_b, wg1_b, wtc, z0_c, z1_c, wd0_c, wd1_c, wg0_c, wg1_c, [(im, .inl (T.2 6, 3, .inr (.inr (.inr (.inr qi)))))], [(mk, .inl (T.2 2, 3, .inl fmk))], [(mo, .inr (11, [.ref m_all, .ref m_has, .int i_size, .int i_next, .int i_where, .int i_token, .int i_number, .int i_word, .int i_wrong, .int i_farCrossing, .ref m_read, .int i_z0, .int i_crossings, .int i_inns, .ref m_posts, .ref m_shut, .ref m_here, .int i_steps, .int i_done, .int i_at, .int i_gone, .ref m_was, .ref m_came, .ref m_seenAt, .ref m_rowWorth, .ref m_farBy, .ref m_used, .int i_everywhere, .int i_again0, .int i_d0, .int i_never, .int i_firstCame, .int i_longRun, .int i_moved, .int i_crowd, .int i_l0, .int i_fitMany, .int i_fitLeast, .int i_fitMost, .ref m_fitPost, .ref m_fitEnd, .ref m_keptPosts, .int i_x0]))], [(m_all, .inl (T.2 0, 3952, .inl f_all))], [(m_has, .inl (T.2 2, 3, .inl f_has))], [(m_read, .inl (T.2 0, 121, .inl f_read))], [(m_posts, .inl (T.2 0, 7, .inl f_posts))], [(m_shut, .inl (T.2 0, 7, .inl f_shut))], [(m_here, .inl (T.2 0, 7, .inl f_here))], [(m_was, .inl (T.2 0, 7, .inl f_was))], [(m_came, .inl (T.2 0, 7, .inl f_came))], [(m_seenAt, .inl (T.2 0, 16384, .inl f_seenAt))], [(m_rowWorth, .inl (T.2 0, 512, .inl f_rowWorth))], [(m_farBy, .inl (T.2 0, 49, .inl f_farBy))], [(m_used, .inl (T.2 0, 7, .inl f_used))], [(m_fitPost, .inl (T.2 0, 28, .inl f_fitPost))], [(m_fitEnd, .inl (T.2 0, 49, .inl f_fitEnd))], [(m_keptPosts, .inl (T.2 0, 7, .inl f_keptPosts))], [(xo, .inr (10, [.ref t, .ref im, .ref mk, .ref rd, .ref po, .ref co, .ref tr, .ref wa, .ref wb_, .ref fi, .ref cd]))], wt, z0_, z1_, wwA_174, wwB_186] _ _ := G
    have hFI2 : (¬ e0f = 0 → e1f.toInt = 0 ∧ ¬ mdA_164 = 0 ∨ e1f.toInt = 1 ∧ ¬ mdB_176 = 0) := fun q => (hFI q).elim (fun z => Or.inl ⟨z.1, h_192 z.2⟩) (fun z => Or.inr ⟨z.1, h_198 z.2⟩)
    refine lv_pop hx hb dL_law_755 rfl ?_
    refine lv_aload_n hx hb dL_law_756 rfl (lv_at hl 2 rfl) ?_
    refine lv_aload_n hx hb dL_law_757 rfl (lv_at hl 0 rfl) ?_
    refine lv_iload_n hx hb dL_law_758 rfl (lv_at hl 3 rfl) ?_
    refine lv_iconst (v := 1) hx hb dL_law_759 (by decide) ?_
    refine lv_iadd hx hb dL_law_760 ?_
    refine lv_topi (fun y_200 ey_200 => ?_)
    obtain rfl : y_200 = nI (i + 1) := ey_200.trans (z_iaddn i 1 rfl rfl)
    refine va_sld hx hb hX hbl hbA G.2.2.2.1 (vp_in_nI (by omega) (by omega)) dL_law_761 ?_
    refine lv_topi (fun v_201 ev_201 => ?_)
    rw [nI_clamp (by omega)] at ev_201
    have ev_201 : v_201 = xs (i + 1) := ev_201
    subst ev_201
    refine lv_aload_n hx hb dL_law_762 rfl (lv_at hl 0 rfl) ?_
    refine lv_iload_n hx hb dL_law_763 rfl (lv_at hl 3 rfl) ?_
    refine lv_iconst (v := 2) hx hb dL_law_764 (by decide) ?_
    refine lv_iadd hx hb dL_law_765 ?_
    refine lv_topi (fun y_202 ey_202 => ?_)
    obtain rfl : y_202 = nI (i + 2) := ey_202.trans (z_iaddn i 2 rfl rfl)
    refine va_sld hx hb hX hbl hbA G.2.2.2.1 (vp_in_nI (by omega) (by omega)) dL_law_766 ?_
    refine lv_topi (fun v_203 ev_203 => ?_)
    rw [nI_clamp (by omega)] at ev_203
    have ev_203 : v_203 = xs (i + 2) := ev_203
    subst ev_203
    refine lv_aload_n hx hb dL_law_767 rfl (lv_at hl 0 rfl) ?_
    refine lv_iload_n hx hb dL_law_768 rfl (lv_at hl 3 rfl) ?_
    refine lv_iconst (v := 3) hx hb dL_law_769 (by decide) ?_
    refine lv_iadd hx hb dL_law_770 ?_
    refine lv_topi (fun y_204 ey_204 => ?_)
    obtain rfl : y_204 = nI (i + 3) := ey_204.trans (z_iaddn i 3 rfl rfl)
    refine va_sld hx hb hX hbl hbA G.2.2.2.1 (vp_in_nI (by omega) (by omega)) dL_law_771 ?_
    refine lv_topi (fun v_205 ev_205 => ?_)
    rw [nI_clamp (by omega)] at ev_205
    have ev_205 : v_205 = xs (i + 3) := ev_205
    subst ev_205
    refine lv_aload_n hx hb dL_law_772 rfl (lv_at hl 0 rfl) ?_
    refine lv_iload_n hx hb dL_law_773 rfl (lv_at hl 3 rfl) ?_
    refine lv_iconst (v := 4) hx hb dL_law_774 (by decide) ?_
    refine lv_iadd hx hb dL_law_775 ?_
    refine lv_topi (fun y_206 ey_206 => ?_)
    obtain rfl : y_206 = nI (i + 4) := ey_206.trans (z_iaddn i 4 rfl rfl)
    refine va_sld hx hb hX hbl hbA G.2.2.2.1 (vp_in_nI (by omega) (by omega)) dL_law_776 ?_
    refine lv_topi (fun v_207 ev_207 => ?_)
    rw [nI_clamp (by omega)] at ev_207
    have ev_207 : v_207 = xs (i + 4) := ev_207
    subst ev_207
    refine lv_if_eq (tgt := 784) hx hb dL_law_777 (by decide) (fun q => absurd q c_9) (fun _ => ?_)
    refine lv_iconst (v := 1) hx hb dL_law_780 (by decide) ?_
    refine lv_goto (tgt := 785) hx hb dL_law_781 (by decide) ?_
    refine z_Vi (bc := [[(mo, .inr (11, [.ref m_all, .ref m_has, .int i_size, .int i_next, .int i_where, .int i_token, .int i_number, .int i_word, .int i_wrong, .int i_farCrossing, .ref m_read, .int i_z0, .int i_crossings, .int i_inns, .ref m_posts, .ref m_shut, .ref m_here, .int i_steps, .int i_done, .int i_at, .int i_gone, .ref m_was, .ref m_came, .ref m_seenAt, .ref m_rowWorth, .ref m_farBy, .ref m_used, .int i_everywhere, .int i_again0, .int i_d0, .int i_never, .int i_firstCame, .int i_longRun, .int i_moved, .int i_crowd, .int i_l0, .int i_fitMany, .int i_fitLeast, .int i_fitMost, .ref m_fitPost, .ref m_fitEnd, .ref m_keptPosts, .int i_x0]))], [(m_all, .inl (T.2 0, 3952, .inl f_all))], [(m_posts, .inl (T.2 0, 7, .inl f_posts))], [(m_shut, .inl (T.2 0, 7, .inl f_shut))], [(m_here, .inl (T.2 0, 7, .inl f_here))], [(m_was, .inl (T.2 0, 7, .inl f_was))]]) (br := [wd0_, wd1_, wg0_, wg1_, [(rd, .inr (7, [.ref rl, .ref rdd, .ref rg, .int r0, .int r1, .ref tq, .int r2, .int r3, .int r4, .int r5, .int r6, .int r7, .int r8]))], z, wd, wg, wff, wc, wcp, wr, wrp, wp, [(cd, .inl (T.2 0, 1000, .inl fcd))], wta, z0_a, z1_a, wd0_a, wd1_a, wg0_a, wg1_a, wtb, z0_b, z1_b, wd0_b, wd1_b, wg0_b, wg1_b, wtc, z0_c, z1_c, wd0_c, wd1_c, wg0_c, wg1_c, [(im, .inl (T.2 6, 3, .inr (.inr (.inr (.inr qi)))))], [(mk, .inl (T.2 2, 3, .inl fmk))], [(m_has, .inl (T.2 2, 3, .inl f_has))], [(m_read, .inl (T.2 0, 121, .inl f_read))], [(m_came, .inl (T.2 0, 7, .inl f_came))], [(m_seenAt, .inl (T.2 0, 16384, .inl f_seenAt))], [(m_rowWorth, .inl (T.2 0, 512, .inl f_rowWorth))], [(m_farBy, .inl (T.2 0, 49, .inl f_farBy))], [(m_used, .inl (T.2 0, 7, .inl f_used))], [(m_fitPost, .inl (T.2 0, 28, .inl f_fitPost))], [(m_fitEnd, .inl (T.2 0, 49, .inl f_fitEnd))], [(m_keptPosts, .inl (T.2 0, 7, .inl f_keptPosts))], [(xo, .inr (10, [.ref t, .ref im, .ref mk, .ref rd, .ref po, .ref co, .ref tr, .ref wa, .ref wb_, .ref fi, .ref cd]))], wt, z0_, z1_, wwA_174, wwB_186]) (As := [.int (xs (i + 1)), .int (xs (i + 2)), .int (xs (i + 3)), .int 1]) (rest := []) C G (c_m_lot l T mo m_all m_has i_size i_next i_where i_token i_number i_word i_wrong i_farCrossing m_read i_z0 i_crossings i_inns m_posts m_shut m_here i_steps i_done i_at i_gone m_was m_came m_seenAt m_rowWorth m_farBy m_used i_everywhere i_again0 i_d0 i_never i_firstCame i_longRun i_moved i_crowd i_l0 i_fitMany i_fitLeast i_fitMost m_fitPost m_fitEnd m_keptPosts i_x0 f_all f_posts f_shut f_here f_was (xs (i + 1)) (xs (i + 2)) (xs (i + 3)) 1 (by first | assumption | omega | rfl)) (kV_RL_75 C.2.2.2.2 (Nat.le_of_ble_eq_true rfl) (Nat.le_of_ble_eq_true rfl)) [38, 39, 42, 43, 44, 45] [0, 1, 2, 3, 4, 5, 6, 7, 8, 9, 10, 11, 12, 13, 14, 15, 16, 17, 18, 19, 20, 21, 22, 23, 24, 25, 26, 27, 28, 29, 30, 31, 32, 33, 34, 35, 36, 37, 40, 41, 46, 47, 48, 49, 50, 51, 52, 53, 54, 55, 56, 57, 58, 59] rfl rfl (ci := 11) (qc := (RX12, TX12, 43)) rfl rfl (List.mem_flatten.mpr ⟨_, List.mem_of_getElem? (i := 0) rfl, List.mem_cons_self⟩) rfl rfl hl.1 dL_law_785 (by show _ + 0 ≤ 600000; omega) (by show _ + 0 ≤ 7302250; omega) (fun r_219 b1 H locs hw G => ?_)
    obtain ⟨j_z0_208, j_crossings_209, j_inns_210, j_steps_211, j_done_212, j_at_213, j_gone_214, g_posts_215, g_shut_216, g_here_217, g_was_218, rfl⟩ := hw
    have G : zS T A s.heap s [wd0_, wd1_, wg0_, wg1_, [(rd, .inr (7, [.ref rl, .ref rdd, .ref rg, .int r0, .int r1, .ref tq, .int r2, .int r3, .int r4, .int r5, .int r6, .int r7, .int r8]))], z, wd, wg, wff, wc, wcp, wr, wrp, wp, [(cd, .inl (T.2 0, 1000, .inl fcd))], wta, z0_a, z1_a, wd0_a, wd1_a, wg0_a, wg1_a, wtb, z0_b, z1_b, wd0_b, wd1_b, wg0_b, wg1_b, wtc, z0_c, z1_c, wd0_c, wd1_c, wg0_c, wg1_c, [(im, .inl (T.2 6, 3, .inr (.inr (.inr (.inr qi)))))], [(mk, .inl (T.2 2, 3, .inl fmk))], [(m_has, .inl (T.2 2, 3, .inl f_has))], [(m_read, .inl (T.2 0, 121, .inl f_read))], [(m_came, .inl (T.2 0, 7, .inl f_came))], [(m_seenAt, .inl (T.2 0, 16384, .inl f_seenAt))], [(m_rowWorth, .inl (T.2 0, 512, .inl f_rowWorth))], [(m_farBy, .inl (T.2 0, 49, .inl f_farBy))], [(m_used, .inl (T.2 0, 7, .inl f_used))], [(m_fitPost, .inl (T.2 0, 28, .inl f_fitPost))], [(m_fitEnd, .inl (T.2 0, 49, .inl f_fitEnd))], [(m_keptPosts, .inl (T.2 0, 7, .inl f_keptPosts))], [(xo, .inr (10, [.ref t, .ref im, .ref mk, .ref rd, .ref po, .ref co, .ref tr, .ref wa, .ref wb_, .ref fi, .ref cd]))], wt, z0_, z1_, wwA_174, wwB_186, [(mo, .inr (11, [.ref m_all, .ref m_has, .int i_size, .int i_next, .int i_where, .int i_token, .int i_number, .int i_word, .int i_wrong, .int i_farCrossing, .ref m_read, .int j_z0_208, .int j_crossings_209, .int j_inns_210, .ref m_posts, .ref m_shut, .ref m_here, .int j_steps_211, .int j_done_212, .int j_at_213, .int j_gone_214, .ref m_was, .ref m_came, .ref m_seenAt, .ref m_rowWorth, .ref m_farBy, .ref m_used, .int i_everywhere, .int i_again0, .int i_d0, .int i_never, .int i_firstCame, .int i_longRun, .int i_moved, .int i_crowd, .int i_l0, .int i_fitMany, .int i_fitLeast, .int i_fitMost, .ref m_fitPost, .ref m_fitEnd, .ref m_keptPosts, .int i_x0]))], [(m_all, .inl (T.2 0, 3952, .inl f_all))], [(m_posts, .inl (T.2 0, 7, .inl g_posts_215))], [(m_shut, .inl (T.2 0, 7, .inl g_shut_216))], [(m_here, .inl (T.2 0, 7, .inl g_here_217))], [(m_was, .inl (T.2 0, 7, .inl g_was_218))]] _ _ := G
    refine lv_pop hx hb dL_law_788 rfl ?_
    refine lv_goto (tgt := 1767) hx hb dL_law_789 (by decide) ?_
    have G := G.sub (bs' := [[(xo, .inr (10, [.ref t, .ref im, .ref mk, .ref rd, .ref po, .ref co, .ref tr, .ref wa, .ref wb_, .ref fi, .ref cd]))], wt, z0_, z1_, wd0_, wd1_, wg0_, wg1_, [(rd, .inr (7, [.ref rl, .ref rdd, .ref rg, .int r0, .int r1, .ref tq, .int r2, .int r3, .int r4, .int r5, .int r6, .int r7, .int r8]))], z, wd, wg, wwA_174, wwB_186, wff, wc, wcp, wr, wrp, wp, [(cd, .inl (T.2 0, 1000, .inl fcd))], wta, z0_a, z1_a, wd0_a, wd1_a, wg0_a, wg1_a, wtb, z0_b, z1_b, wd0_b, wd1_b, wg0_b, wg1_b, wtc, z0_c, z1_c, wd0_c, wd1_c, wg0_c, wg1_c, [(im, .inl (T.2 6, 3, .inr (.inr (.inr (.inr qi)))))], [(mk, .inl (T.2 2, 3, .inl fmk))], [(mo, .inr (11, [.ref m_all, .ref m_has, .int i_size, .int i_next, .int i_where, .int i_token, .int i_number, .int i_word, .int i_wrong, .int i_farCrossing, .ref m_read, .int j_z0_208, .int j_crossings_209, .int j_inns_210, .ref m_posts, .ref m_shut, .ref m_here, .int j_steps_211, .int j_done_212, .int j_at_213, .int j_gone_214, .ref m_was, .ref m_came, .ref m_seenAt, .ref m_rowWorth, .ref m_farBy, .ref m_used, .int i_everywhere, .int i_again0, .int i_d0, .int i_never, .int i_firstCame, .int i_longRun, .int i_moved, .int i_crowd, .int i_l0, .int i_fitMany, .int i_fitLeast, .int i_fitMost, .ref m_fitPost, .ref m_fitEnd, .ref m_keptPosts, .int i_x0]))], [(m_all, .inl (T.2 0, 3952, .inl f_all))], [(m_has, .inl (T.2 2, 3, .inl f_has))], [(m_read, .inl (T.2 0, 121, .inl f_read))], [(m_posts, .inl (T.2 0, 7, .inl g_posts_215))], [(m_shut, .inl (T.2 0, 7, .inl g_shut_216))], [(m_here, .inl (T.2 0, 7, .inl g_here_217))], [(m_was, .inl (T.2 0, 7, .inl g_was_218))], [(m_came, .inl (T.2 0, 7, .inl f_came))], [(m_seenAt, .inl (T.2 0, 16384, .inl f_seenAt))], [(m_rowWorth, .inl (T.2 0, 512, .inl f_rowWorth))], [(m_farBy, .inl (T.2 0, 49, .inl f_farBy))], [(m_used, .inl (T.2 0, 7, .inl f_used))], [(m_fitPost, .inl (T.2 0, 28, .inl f_fitPost))], [(m_fitEnd, .inl (T.2 0, 49, .inl f_fitEnd))], [(m_keptPosts, .inl (T.2 0, 7, .inl f_keptPosts))]]) [48, 49, 50, 51, 0, 1, 2, 3, 4, 5, 6, 7, 52, 53, 8, 9, 10, 11, 12, 13, 14, 15, 16, 17, 18, 19, 20, 21, 22, 23, 24, 25, 26, 27, 28, 29, 30, 31, 32, 33, 34, 35, 36, 37, 54, 55, 38, 39, 56, 57, 58, 59, 40, 41, 42, 43, 44, 45, 46, 47] rfl
    refine W.widen (k := 216 + 2 * i + 12) (n := 27000 + 6 * (n4A_173 + n4B_185) + 2 * m1f) (by omega) (by omega) ?_
    exact kk n4A_173 n4B_185 m1f _ ⟨⟨t, im, mk, rd, po, co, tr, wa, wb_, fi, cd, wt, l0, l1, d0, d1, g0, g1, ln, z0_, z1_, wd0_, wd1_, wg0_, wg1_, rl, rdd, rg, r0, r1, tq, r2, r3, r4, r5, r6, r7, r8, z, wd, wg, wwA_174, mdA_164, wwB_186, mdB_176, wff, e0f, e1f, wc, cpo, wcp, wr, tpo, wrp, wp, fcd, m0, wta, l0a, l1a, d0a, d1a, g0a, g1a, lna, z0_a, z1_a, wd0_a, wd1_a, wg0_a, wg1_a, m1, wtb, l0b, l1b, d0b, d1b, g0b, g1b, lnb, z0_b, z1_b, wd0_b, wd1_b, wg0_b, wg1_b, m2, wtc, l0c, l1c, d0c, d1c, g0c, g1c, lnc, z0_c, z1_c, wd0_c, wd1_c, wg0_c, wg1_c, qi, fmk, m_all, m_has, i_size, i_next, i_where, i_token, i_number, i_word, i_wrong, i_farCrossing, m_read, j_z0_208, j_crossings_209, j_inns_210, m_posts, m_shut, m_here, j_steps_211, j_done_212, j_at_213, j_gone_214, m_was, m_came, m_seenAt, m_rowWorth, m_farBy, m_used, i_everywhere, i_again0, i_d0, i_never, i_firstCame, i_longRun, i_moved, i_crowd, i_l0, i_fitMany, i_fitLeast, i_fitMost, m_fitPost, m_fitEnd, m_keptPosts, i_x0, f_all, f_has, f_read, g_posts_215, g_shut_216, g_here_217, g_was_218, f_came, f_seenAt, f_rowWorth, f_farBy, f_used, f_fitPost, f_fitEnd, f_keptPosts⟩, rfl, ⟨v_115, v_116, v_117, v_118, h_119, (by first | assumption | omega)⟩, ⟨v_121, v_122, v_123, v_124, v_125, v_126, h_127, (by first | assumption | omega)⟩, ⟨v_129, v_130, v_131, v_132, v_133, v_134, h_135, (by first | assumption | omega)⟩, H_wd0_, H_wd1_, H_wg0_, H_wg1_, H_z, H_wd, H_wg, ⟨laA_163, wyA_165, pc_A_166, f1A_167, f2A_168, f3A_169, f4A_170, f5A_171, f6A_172, h_187, (by first | assumption | omega), (by first | assumption | omega), (by first | assumption | omega)⟩, ⟨laB_175, wyB_177, pc_B_178, f1B_179, f2B_180, f3B_181, f4B_182, f5B_183, f6B_184, h_193, (by first | assumption | omega), (by first | assumption | omega), (by first | assumption | omega)⟩, H_wff, H_wc, H_wcp, H_wr, H_wrp, H_wp, H_wta, H_z0_a, H_z1_a, H_wd0_a, H_wd1_a, H_wg0_a, H_wg1_a, H_wtb, H_z0_b, H_z1_b, H_wd0_b, H_wd1_b, H_wg0_b, H_wg1_b, H_wtc, H_z0_c, H_z1_c, H_wd0_c, H_wd1_c, H_wg0_c, H_wg1_c, (by first | assumption | omega), (by first | assumption | omega), (by first | assumption | omega), (by first | assumption | omega), (by first | assumption | omega), (by first | assumption | omega), (by first | assumption | omega), (by first | assumption | omega)⟩ _ _ ls G (lv_sub hl [0, 1, 2, 3] rfl)
set_option maxHeartbeats 40000000 in
set_option maxRecDepth 100000 in
theorem z_case_mean (l : Launch) {p : Program} {e : Env} {s : State} {m : MethodId} {b : Nat} {below : List Frame} {meth : Method} {c : Code} {Q : State → Prop} {T : zTy} {A : Nat → Prop} {L i : Nat} {xs : Nat → Int32} (hx : p.tables.exec = Jvm.exec) (hb : c.code = cL_law) (C : CallFix p m c cL_law 4 s #[Value.ref b] zT RL) (hX : va_X b L xs s s.heap) (hbl : b < s.heap.size) (hbA : ¬ A b) (hL : L ≤ 3072) (hi6 : i + 6 ≤ L) {xo mo n4A n4B m1f : Nat} (hnA : n4A ≤ 131072) (hnB : n4B ≤ 131072) (hmf : m1f ≤ 16384) {bs : List va_W} (hI : zInv T xo mo n4A n4B m1f bs) {H : Heap} {locs : List Loc} {ls : Array Slot} (G : zS T A s.heap s bs H locs) (hl : lv_has ls 4 [(0, .ref b), (1, .ref xo), (2, .ref mo), (3, .int (nI i))]) (kk : ∀ (n1 n2 n3 : Nat) (bs1 : List va_W), zInv T xo mo n1 n2 n3 bs1 → ∀ (H1 : Heap) (locs1 : List Loc) (ls1 : Array Slot), zS T A s.heap s bs1 H1 locs1 → lv_has ls1 4 [(0, .ref b), (1, .ref xo), (2, .ref mo), (3, .int (nI i))] → W p l e room_1 s m #[Value.ref b] below meth c H1 locs1 (216 + 2 * i + 12) (27000 + 6 * (n1 + n2) + 2 * n3) Q (F0 m 1767 ls1 [])) : W p l e room_1 s m #[Value.ref b] below meth c H locs (216 + 2 * i) (27000 + 6 * (n4A + n4B) + 2 * m1f) Q (F0 m 792 ls []) := by
  obtain ⟨⟨t, im, mk, rd, po, co, tr, wa, wb_, fi, cd, wt, l0, l1, d0, d1, g0, g1, ln, z0_, z1_, wd0_, wd1_, wg0_, wg1_, rl, rdd, rg, r0, r1, tq, r2, r3, r4, r5, r6, r7, r8, z, wd, wg, wwA, mdA, wwB, mdB, wff, e0f, e1f, wc, cpo, wcp, wr, tpo, wrp, wp, fcd, m0, wta, l0a, l1a, d0a, d1a, g0a, g1a, lna, z0_a, z1_a, wd0_a, wd1_a, wg0_a, wg1_a, m1, wtb, l0b, l1b, d0b, d1b, g0b, g1b, lnb, z0_b, z1_b, wd0_b, wd1_b, wg0_b, wg1_b, m2, wtc, l0c, l1c, d0c, d1c, g0c, g1c, lnc, z0_c, z1_c, wd0_c, wd1_c, wg0_c, wg1_c, qi, fmk, m_all, m_has, i_size, i_next, i_where, i_token, i_number, i_word, i_wrong, i_farCrossing, m_read, i_z0, i_crossings, i_inns, m_posts, m_shut, m_here, i_steps, i_done, i_at, i_gone, m_was, m_came, m_seenAt, m_rowWorth, m_farBy, m_used, i_everywhere, i_again0, i_d0, i_never, i_firstCame, i_longRun, i_moved, i_crowd, i_l0, i_fitMany, i_fitLeast, i_fitMost, m_fitPost, m_fitEnd, m_keptPosts, i_x0, f_all, f_has, f_read, f_posts, f_shut, f_here, f_was, f_came, f_seenAt, f_rowWorth, f_farBy, f_used, f_fitPost, f_fitEnd, f_keptPosts⟩, rfl, H_wt, H_z0_, H_z1_, H_wd0_, H_wd1_, H_wg0_, H_wg1_, H_z, H_wd, H_wg, H_wwA, H_wwB, H_wff, H_wc, H_wcp, H_wr, H_wrp, H_wp, H_wta, H_z0_a, H_z1_a, H_wd0_a, H_wd1_a, H_wg0_a, H_wg1_a, H_wtb, H_z0_b, H_z1_b, H_wd0_b, H_wd1_b, H_wg0_b, H_wg1_b, H_wtc, H_z0_c, H_z1_c, H_wd0_c, H_wd1_c, H_wg0_c, H_wg1_c, hm0, hm1, hm2, h56, hFI, hAI, hRl, hHs⟩ := hI
  replace H_wt : hTold T t l0 l1 d0 d1 g0 g1 ln wt := H_wt
  replace H_z0_ : hLand T l0 z0_ := H_z0_
  replace H_z1_ : hLand T l1 z1_ := H_z1_
  replace H_wd0_ : hDay T d0 wd0_ := H_wd0_
  replace H_wd1_ : hDay T d1 wd1_ := H_wd1_
  replace H_wg0_ : hLog T g0 wg0_ := H_wg0_
  replace H_wg1_ : hLog T g1 wg1_ := H_wg1_
  replace H_z : hLandR T rl z := H_z
  replace H_wd : hDay T rdd wd := H_wd
  replace H_wg : hLog T rg wg := H_wg
  replace H_wwA : hWays T wa mdA n4A l0 wwA := H_wwA
  replace H_wwB : hWays T wb_ mdB n4B l1 wwB := H_wwB
  replace H_wff : hFit T fi e0f e1f m1f wff := H_wff
  replace H_wc : hCourse T co cpo wc := H_wc
  replace H_wcp : hPosts T cpo wcp := H_wcp
  replace H_wr : hTrail T tr tpo wr := H_wr
  replace H_wrp : hPosts T tpo wrp := H_wrp
  replace H_wp : hPosts T po wp := H_wp
  replace H_wta : hTold T m0 l0a l1a d0a d1a g0a g1a lna wta := H_wta
  replace H_z0_a : hLand T l0a z0_a := H_z0_a
  replace H_z1_a : hLand T l1a z1_a := H_z1_a
  replace H_wd0_a : hDay T d0a wd0_a := H_wd0_a
  replace H_wd1_a : hDay T d1a wd1_a := H_wd1_a
  replace H_wg0_a : hLog T g0a wg0_a := H_wg0_a
  replace H_wg1_a : hLog T g1a wg1_a := H_wg1_a
  replace H_wtb : hTold T m1 l0b l1b d0b d1b g0b g1b lnb wtb := H_wtb
  replace H_z0_b : hLand T l0b z0_b := H_z0_b
  replace H_z1_b : hLand T l1b z1_b := H_z1_b
  replace H_wd0_b : hDay T d0b wd0_b := H_wd0_b
  replace H_wd1_b : hDay T d1b wd1_b := H_wd1_b
  replace H_wg0_b : hLog T g0b wg0_b := H_wg0_b
  replace H_wg1_b : hLog T g1b wg1_b := H_wg1_b
  replace H_wtc : hTold T m2 l0c l1c d0c d1c g0c g1c lnc wtc := H_wtc
  replace H_z0_c : hLand T l0c z0_c := H_z0_c
  replace H_z1_c : hLand T l1c z1_c := H_z1_c
  replace H_wd0_c : hDay T d0c wd0_c := H_wd0_c
  replace H_wd1_c : hDay T d1c wd1_c := H_wd1_c
  replace H_wg0_c : hLog T g0c wg0_c := H_wg0_c
  replace H_wg1_c : hLog T g1c wg1_c := H_wg1_c
  replace hm0 : qi 0 = some m0 := hm0
  replace hm1 : qi 1 = some m1 := hm1
  replace hm2 : qi 2 = some m2 := hm2
  replace h56 : ((0 ≤ r5.toInt ∧ r5.toInt ≤ 600) ∧ 0 ≤ r6.toInt ∧ r6.toInt ≤ 1000) := h56
  replace hFI : (¬ e0f = 0 → e1f.toInt = 0 ∧ ¬ mdA = 0 ∨ e1f.toInt = 1 ∧ ¬ mdB = 0) := hFI
  replace hAI : zAI f_all := hAI
  replace hRl : zRl ln lna lnb lnc f_all := hRl
  replace hHs : zHs fmk f_has := hHs
  replace G : zS T A s.heap s [[(xo, .inr (10, [.ref t, .ref im, .ref mk, .ref rd, .ref po, .ref co, .ref tr, .ref wa, .ref wb_, .ref fi, .ref cd]))], wt, z0_, z1_, wd0_, wd1_, wg0_, wg1_, [(rd, .inr (7, [.ref rl, .ref rdd, .ref rg, .int r0, .int r1, .ref tq, .int r2, .int r3, .int r4, .int r5, .int r6, .int r7, .int r8]))], z, wd, wg, wwA, wwB, wff, wc, wcp, wr, wrp, wp, [(cd, .inl (T.2 0, 1000, .inl fcd))], wta, z0_a, z1_a, wd0_a, wd1_a, wg0_a, wg1_a, wtb, z0_b, z1_b, wd0_b, wd1_b, wg0_b, wg1_b, wtc, z0_c, z1_c, wd0_c, wd1_c, wg0_c, wg1_c, [(im, .inl (T.2 6, 3, .inr (.inr (.inr (.inr qi)))))], [(mk, .inl (T.2 2, 3, .inl fmk))], [(mo, .inr (11, [.ref m_all, .ref m_has, .int i_size, .int i_next, .int i_where, .int i_token, .int i_number, .int i_word, .int i_wrong, .int i_farCrossing, .ref m_read, .int i_z0, .int i_crossings, .int i_inns, .ref m_posts, .ref m_shut, .ref m_here, .int i_steps, .int i_done, .int i_at, .int i_gone, .ref m_was, .ref m_came, .ref m_seenAt, .ref m_rowWorth, .ref m_farBy, .ref m_used, .int i_everywhere, .int i_again0, .int i_d0, .int i_never, .int i_firstCame, .int i_longRun, .int i_moved, .int i_crowd, .int i_l0, .int i_fitMany, .int i_fitLeast, .int i_fitMost, .ref m_fitPost, .ref m_fitEnd, .ref m_keptPosts, .int i_x0]))], [(m_all, .inl (T.2 0, 3952, .inl f_all))], [(m_has, .inl (T.2 2, 3, .inl f_has))], [(m_read, .inl (T.2 0, 121, .inl f_read))], [(m_posts, .inl (T.2 0, 7, .inl f_posts))], [(m_shut, .inl (T.2 0, 7, .inl f_shut))], [(m_here, .inl (T.2 0, 7, .inl f_here))], [(m_was, .inl (T.2 0, 7, .inl f_was))], [(m_came, .inl (T.2 0, 7, .inl f_came))], [(m_seenAt, .inl (T.2 0, 16384, .inl f_seenAt))], [(m_rowWorth, .inl (T.2 0, 512, .inl f_rowWorth))], [(m_farBy, .inl (T.2 0, 49, .inl f_farBy))], [(m_used, .inl (T.2 0, 7, .inl f_used))], [(m_fitPost, .inl (T.2 0, 28, .inl f_fitPost))], [(m_fitEnd, .inl (T.2 0, 49, .inl f_fitEnd))], [(m_keptPosts, .inl (T.2 0, 7, .inl f_keptPosts))]] H locs := G
  have hB := zAI_0 hAI
  have hB4 := hB.1
  obtain ⟨hln, hlna, hlnb, hlnc⟩ := zRl_in hAI hRl
  refine lv_aload_n hx hb dL_law_792 rfl (lv_at hl 1 rfl) ?_
  refine lv_aload_n hx hb dL_law_793 rfl (lv_at hl 0 rfl) ?_
  refine lv_iload_n hx hb dL_law_794 rfl (lv_at hl 3 rfl) ?_
  refine lv_iconst (v := 1) hx hb dL_law_795 (by decide) ?_
  refine lv_iadd hx hb dL_law_796 ?_
  refine lv_topi (fun y_1 ey_1 => ?_)
  obtain rfl : y_1 = nI (i + 1) := ey_1.trans (z_iaddn i 1 rfl rfl)
  refine va_sld hx hb hX hbl hbA G.2.2.2.1 (vp_in_nI (by omega) (by omega)) dL_law_797 ?_
  refine lv_topi (fun v_2 ev_2 => ?_)
  rw [nI_clamp (by omega)] at ev_2
  have ev_2 : v_2 = xs (i + 1) := ev_2
  subst ev_2
  refine lv_aload_n hx hb dL_law_798 rfl (lv_at hl 0 rfl) ?_
  refine lv_iload_n hx hb dL_law_799 rfl (lv_at hl 3 rfl) ?_
  refine lv_iconst (v := 2) hx hb dL_law_800 (by decide) ?_
  refine lv_iadd hx hb dL_law_801 ?_
  refine lv_topi (fun y_3 ey_3 => ?_)
  obtain rfl : y_3 = nI (i + 2) := ey_3.trans (z_iaddn i 2 rfl rfl)
  refine va_sld hx hb hX hbl hbA G.2.2.2.1 (vp_in_nI (by omega) (by omega)) dL_law_802 ?_
  refine lv_topi (fun v_4 ev_4 => ?_)
  rw [nI_clamp (by omega)] at ev_4
  have ev_4 : v_4 = xs (i + 2) := ev_4
  subst ev_4
  refine lv_aload_n hx hb dL_law_803 rfl (lv_at hl 0 rfl) ?_
  refine lv_iload_n hx hb dL_law_804 rfl (lv_at hl 3 rfl) ?_
  refine lv_iconst (v := 3) hx hb dL_law_805 (by decide) ?_
  refine lv_iadd hx hb dL_law_806 ?_
  refine lv_topi (fun y_5 ey_5 => ?_)
  obtain rfl : y_5 = nI (i + 3) := ey_5.trans (z_iaddn i 3 rfl rfl)
  refine va_sld hx hb hX hbl hbA G.2.2.2.1 (vp_in_nI (by omega) (by omega)) dL_law_807 ?_
  refine lv_topi (fun v_6 ev_6 => ?_)
  rw [nI_clamp (by omega)] at ev_6
  have ev_6 : v_6 = xs (i + 3) := ev_6
  subst ev_6
  refine lv_if_eq (tgt := 815) hx hb dL_law_808 (by decide) (fun c_7 => ?_) (fun c_7 => ?_)
  · have c_7n : (xs (i + 3)).toInt = (0 : Int) := (fa_eq _ _).mp c_7
    refine lv_iconst (v := 0) hx hb dL_law_815 (by decide) ?_
    obtain ⟨v_8, v_9, v_10, v_11, h_12, h_13⟩ := H_wt
    have h_13 : zKT v_11 := h_13
    obtain ⟨v_14, v_15, v_16, v_17, v_18, v_19, h_20, h_21⟩ := H_z0_
    have h_21 : zLI v_14 v_16 v_18 := h_21
    obtain ⟨v_22, v_23, v_24, v_25, v_26, v_27, h_28, h_29⟩ := H_z1_
    have h_29 : zLI v_22 v_24 v_26 := h_29
    obtain ⟨v_30, v_31, v_32, v_33, v_34, v_35, v_36, v_37, v_38, h_39, h_40, h_41, h_42⟩ := H_wwA
    have h_40 : zPw n4A := h_40
    have h_41 : (mdA = 0 ∨ v_30 = l0) := h_41
    have h_42 : (0 ≤ v_31.toInt ∧ v_31.toInt ≤ 16384) := h_42
    obtain ⟨v_43, v_44, v_45, v_46, v_47, v_48, v_49, v_50, v_51, h_52, h_53, h_54, h_55⟩ := H_wwB
    have h_53 : zPw n4B := h_53
    have h_54 : (mdB = 0 ∨ v_43 = l1) := h_54
    have h_55 : (0 ≤ v_44.toInt ∧ v_44.toInt ≤ 16384) := h_55
    have hq0m := zNA_mono (c := ((xs (i + 1)).toInt = 0 ∧ 0 < (v_11 0).toInt ∧ 0 ≤ (xs (i + 2)).toInt ∧ (xs (i + 2)).toInt < v_14.toInt ∧ (xs (i + 2)).toInt < 7)) (md := mdA) (cr := v_14) (inn := v_15) (k1 := v_16) h_40
    have hq0l := zPw_le (zNA_ge (c := ((xs (i + 1)).toInt = 0 ∧ 0 < (v_11 0).toInt ∧ 0 ≤ (xs (i + 2)).toInt ∧ (xs (i + 2)).toInt < v_14.toInt ∧ (xs (i + 2)).toInt < 7)) (md := mdA) (pl := (zPl v_14 v_15 v_16)) h_40)
    have hq2m := zNA_mono (c := ((xs (i + 1)).toInt = 1 ∧ 1 < (v_11 0).toInt ∧ 0 ≤ (xs (i + 2)).toInt ∧ (xs (i + 2)).toInt < v_22.toInt ∧ (xs (i + 2)).toInt < 7)) (md := mdB) (cr := v_22) (inn := v_23) (k1 := v_24) h_53
    have hq2l := zPw_le (zNA_ge (c := ((xs (i + 1)).toInt = 1 ∧ 1 < (v_11 0).toInt ∧ 0 ≤ (xs (i + 2)).toInt ∧ (xs (i + 2)).toInt < v_22.toInt ∧ (xs (i + 2)).toInt < 7)) (md := mdB) (pl := (zPl v_22 v_23 v_24)) h_53)
    refine z_Vi (bc := [[(xo, .inr (10, [.ref t, .ref im, .ref mk, .ref rd, .ref po, .ref co, .ref tr, .ref wa, .ref wb_, .ref fi, .ref cd]))], wt, z0_, z1_, wwA, wwB]) (br := [wd0_, wd1_, wg0_, wg1_, [(rd, .inr (7, [.ref rl, .ref rdd, .ref rg, .int r0, .int r1, .ref tq, .int r2, .int r3, .int r4, .int r5, .int r6, .int r7, .int r8]))], z, wd, wg, wff, wc, wcp, wr, wrp, wp, [(cd, .inl (T.2 0, 1000, .inl fcd))], wta, z0_a, z1_a, wd0_a, wd1_a, wg0_a, wg1_a, wtb, z0_b, z1_b, wd0_b, wd1_b, wg0_b, wg1_b, wtc, z0_c, z1_c, wd0_c, wd1_c, wg0_c, wg1_c, [(im, .inl (T.2 6, 3, .inr (.inr (.inr (.inr qi)))))], [(mk, .inl (T.2 2, 3, .inl fmk))], [(mo, .inr (11, [.ref m_all, .ref m_has, .int i_size, .int i_next, .int i_where, .int i_token, .int i_number, .int i_word, .int i_wrong, .int i_farCrossing, .ref m_read, .int i_z0, .int i_crossings, .int i_inns, .ref m_posts, .ref m_shut, .ref m_here, .int i_steps, .int i_done, .int i_at, .int i_gone, .ref m_was, .ref m_came, .ref m_seenAt, .ref m_rowWorth, .ref m_farBy, .ref m_used, .int i_everywhere, .int i_again0, .int i_d0, .int i_never, .int i_firstCame, .int i_longRun, .int i_moved, .int i_crowd, .int i_l0, .int i_fitMany, .int i_fitLeast, .int i_fitMost, .ref m_fitPost, .ref m_fitEnd, .ref m_keptPosts, .int i_x0]))], [(m_all, .inl (T.2 0, 3952, .inl f_all))], [(m_has, .inl (T.2 2, 3, .inl f_has))], [(m_read, .inl (T.2 0, 121, .inl f_read))], [(m_posts, .inl (T.2 0, 7, .inl f_posts))], [(m_shut, .inl (T.2 0, 7, .inl f_shut))], [(m_here, .inl (T.2 0, 7, .inl f_here))], [(m_was, .inl (T.2 0, 7, .inl f_was))], [(m_came, .inl (T.2 0, 7, .inl f_came))], [(m_seenAt, .inl (T.2 0, 16384, .inl f_seenAt))], [(m_rowWorth, .inl (T.2 0, 512, .inl f_rowWorth))], [(m_farBy, .inl (T.2 0, 49, .inl f_farBy))], [(m_used, .inl (T.2 0, 7, .inl f_used))], [(m_fitPost, .inl (T.2 0, 28, .inl f_fitPost))], [(m_fitEnd, .inl (T.2 0, 49, .inl f_fitEnd))], [(m_keptPosts, .inl (T.2 0, 7, .inl f_keptPosts))]]) (As := [.int (xs (i + 1)), .int (xs (i + 2)), .int 0]) (rest := []) C G (c_mean l T xo t im mk rd po co tr wa wb_ fi cd l0 l1 d0 d1 g0 g1 ln v_8 v_9 v_10 v_11 wt v_14 v_15 v_16 v_17 v_18 v_19 z0_ v_22 v_23 v_24 v_25 v_26 v_27 z1_ v_30 mdA v_31 v_32 v_33 v_34 v_35 v_36 v_37 v_38 n4A wwA v_43 mdB v_44 v_45 v_46 v_47 v_48 v_49 v_50 v_51 n4B wwB (xs (i + 1)) (xs (i + 2)) 0 h_12 (by first | assumption | omega | rfl) h_20 (by first | assumption | omega | rfl) h_28 (by first | assumption | omega | rfl) h_39 (by first | assumption | omega | rfl) (by first | assumption | omega | rfl) (by first | assumption | omega | rfl) h_52 (by first | assumption | omega | rfl) (by first | assumption | omega | rfl) (by first | assumption | omega | rfl)) (kV_RL_76 C.2.2.2.2 (Nat.le_of_ble_eq_true rfl) (Nat.le_of_ble_eq_true rfl)) [0, 1, 2, 3, 12, 13] [4, 5, 6, 7, 8, 9, 10, 11, 14, 15, 16, 17, 18, 19, 20, 21, 22, 23, 24, 25, 26, 27, 28, 29, 30, 31, 32, 33, 34, 35, 36, 37, 38, 39, 40, 41, 42, 43, 44, 45, 46, 47, 48, 49, 50, 51, 52, 53, 54, 55, 56, 57, 58, 59] rfl rfl (ci := 10) (qc := (RX11, TX11, 11)) rfl rfl (List.mem_flatten.mpr ⟨_, List.mem_of_getElem? (i := 0) rfl, List.mem_cons_self⟩) rfl rfl hl.1 dL_law_816 (by show _ + 3 ≤ 600000; omega) (by show _ + (6 * (zNA ((xs (i + 1)).toInt = 0 ∧ 0 < (v_11 0).toInt ∧ 0 ≤ (xs (i + 2)).toInt ∧ (xs (i + 2)).toInt < v_14.toInt ∧ (xs (i + 2)).toInt < 7) mdA n4A (zPl v_14 v_15 v_16) - n4A) + 6 * (zNA ((xs (i + 1)).toInt = 1 ∧ 1 < (v_11 0).toInt ∧ 0 ≤ (xs (i + 2)).toInt ∧ (xs (i + 2)).toInt < v_22.toInt ∧ (xs (i + 2)).toInt < 7) mdB n4B (zPl v_22 v_23 v_24) - n4B)) ≤ 7302250; omega) (fun r_92 b1 H locs hw G => ?_)
    obtain ⟨laA_56, mdA_57, wyA_58, pc_A_59, f1A_60, f2A_61, f3A_62, f4A_63, f5A_64, f6A_65, n4A_66, wwA_67, laB_68, mdB_69, wyB_70, pc_B_71, f1B_72, f2B_73, f3B_74, f4B_75, f5B_76, f6B_77, n4B_78, wwB_79, rfl, h_80, h_81, h_82, h_83, h_84, h_85, h_86, h_87, h_88, h_89, h_90, h_91⟩ := hw
    have G : zS T A s.heap s [wd0_, wd1_, wg0_, wg1_, [(rd, .inr (7, [.ref rl, .ref rdd, .ref rg, .int r0, .int r1, .ref tq, .int r2, .int r3, .int r4, .int r5, .int r6, .int r7, .int r8]))], z, wd, wg, wff, wc, wcp, wr, wrp, wp, [(cd, .inl (T.2 0, 1000, .inl fcd))], wta, z0_a, z1_a, wd0_a, wd1_a, wg0_a, wg1_a, wtb, z0_b, z1_b, wd0_b, wd1_b, wg0_b, wg1_b, wtc, z0_c, z1_c, wd0_c, wd1_c, wg0_c, wg1_c, [(im, .inl (T.2 6, 3, .inr (.inr (.inr (.inr qi)))))], [(mk, .inl (T.2 2, 3, .inl fmk))], [(mo, .inr (11, [.ref m_all, .ref m_has, .int i_size, .int i_next, .int i_where, .int i_token, .int i_number, .int i_word, .int i_wrong, .int i_farCrossing, .ref m_read, .int i_z0, .int i_crossings, .int i_inns, .ref m_posts, .ref m_shut, .ref m_here, .int i_steps, .int i_done, .int i_at, .int i_gone, .ref m_was, .ref m_came, .ref m_seenAt, .ref m_rowWorth, .ref m_farBy, .ref m_used, .int i_everywhere, .int i_again0, .int i_d0, .int i_never, .int i_firstCame, .int i_longRun, .int i_moved, .int i_crowd, .int i_l0, .int i_fitMany, .int i_fitLeast, .int i_fitMost, .ref m_fitPost, .ref m_fitEnd, .ref m_keptPosts, .int i_x0]))], [(m_all, .inl (T.2 0, 3952, .inl f_all))], [(m_has, .inl (T.2 2, 3, .inl f_has))], [(m_read, .inl (T.2 0, 121, .inl f_read))], [(m_posts, .inl (T.2 0, 7, .inl f_posts))], [(m_shut, .inl (T.2 0, 7, .inl f_shut))], [(m_here, .inl (T.2 0, 7, .inl f_here))], [(m_was, .inl (T.2 0, 7, .inl f_was))], [(m_came, .inl (T.2 0, 7, .inl f_came))], [(m_seenAt, .inl (T.2 0, 16384, .inl f_seenAt))], [(m_rowWorth, .inl (T.2 0, 512, .inl f_rowWorth))], [(m_farBy, .inl (T.2 0, 49, .inl f_farBy))], [(m_used, .inl (T.2 0, 7, .inl f_used))], [(m_fitPost, .inl (T.2 0, 28, .inl f_fitPost))], [(m_fitEnd, .inl (T.2 0, 49, .inl f_fitEnd))], [(m_keptPosts, .inl (T.2 0, 7, .inl f_keptPosts))], [(xo, .inr (10, [.ref t, .ref im, .ref mk, .ref rd, .ref po, .ref co, .ref tr, .ref wa, .ref wb_, .ref fi, .ref cd]))], wt, z0_, z1_, wwA_67, wwB_79] _ _ := G
    have hFI2 : (¬ e0f = 0 → e1f.toInt = 0 ∧ ¬ mdA_57 = 0 ∨ e1f.toInt = 1 ∧ ¬ mdB_69 = 0) := fun q => (hFI q).elim (fun z => Or.inl ⟨z.1, h_85 z.2⟩) (fun z => Or.inr ⟨z.1, h_91 z.2⟩)
    refine lv_pop hx hb dL_law_819 rfl ?_
    refine lv_aload_n hx hb dL_law_820 rfl (lv_at hl 2 rfl) ?_
    refine lv_aload_n hx hb dL_law_821 rfl (lv_at hl 0 rfl) ?_
    refine lv_iload_n hx hb dL_law_822 rfl (lv_at hl 3 rfl) ?_
    refine lv_iconst (v := 1) hx hb dL_law_823 (by decide) ?_
    refine lv_iadd hx hb dL_law_824 ?_
    refine lv_topi (fun y_93 ey_93 => ?_)
    obtain rfl : y_93 = nI (i + 1) := ey_93.trans (z_iaddn i 1 rfl rfl)
    refine va_sld hx hb hX hbl hbA G.2.2.2.1 (vp_in_nI (by omega) (by omega)) dL_law_825 ?_
    refine lv_topi (fun v_94 ev_94 => ?_)
    rw [nI_clamp (by omega)] at ev_94
    have ev_94 : v_94 = xs (i + 1) := ev_94
    subst ev_94
    refine lv_aload_n hx hb dL_law_826 rfl (lv_at hl 0 rfl) ?_
    refine lv_iload_n hx hb dL_law_827 rfl (lv_at hl 3 rfl) ?_
    refine lv_iconst (v := 2) hx hb dL_law_828 (by decide) ?_
    refine lv_iadd hx hb dL_law_829 ?_
    refine lv_topi (fun y_95 ey_95 => ?_)
    obtain rfl : y_95 = nI (i + 2) := ey_95.trans (z_iaddn i 2 rfl rfl)
    refine va_sld hx hb hX hbl hbA G.2.2.2.1 (vp_in_nI (by omega) (by omega)) dL_law_830 ?_
    refine lv_topi (fun v_96 ev_96 => ?_)
    rw [nI_clamp (by omega)] at ev_96
    have ev_96 : v_96 = xs (i + 2) := ev_96
    subst ev_96
    refine lv_aload_n hx hb dL_law_831 rfl (lv_at hl 0 rfl) ?_
    refine lv_iload_n hx hb dL_law_832 rfl (lv_at hl 3 rfl) ?_
    refine lv_iconst (v := 3) hx hb dL_law_833 (by decide) ?_
    refine lv_iadd hx hb dL_law_834 ?_
    refine lv_topi (fun y_97 ey_97 => ?_)
    obtain rfl : y_97 = nI (i + 3) := ey_97.trans (z_iaddn i 3 rfl rfl)
    refine va_sld hx hb hX hbl hbA G.2.2.2.1 (vp_in_nI (by omega) (by omega)) dL_law_835 ?_
    refine lv_topi (fun v_98 ev_98 => ?_)
    rw [nI_clamp (by omega)] at ev_98
    have ev_98 : v_98 = xs (i + 3) := ev_98
    subst ev_98
    refine lv_if_eq (tgt := 843) hx hb dL_law_836 (by decide) (fun _ => ?_) (fun q => absurd c_7 q)
    refine lv_iconst (v := 0) hx hb dL_law_843 (by decide) ?_
    refine z_Vi (bc := [[(mo, .inr (11, [.ref m_all, .ref m_has, .int i_size, .int i_next, .int i_where, .int i_token, .int i_number, .int i_word, .int i_wrong, .int i_farCrossing, .ref m_read, .int i_z0, .int i_crossings, .int i_inns, .ref m_posts, .ref m_shut, .ref m_here, .int i_steps, .int i_done, .int i_at, .int i_gone, .ref m_was, .ref m_came, .ref m_seenAt, .ref m_rowWorth, .ref m_farBy, .ref m_used, .int i_everywhere, .int i_again0, .int i_d0, .int i_never, .int i_firstCame, .int i_longRun, .int i_moved, .int i_crowd, .int i_l0, .int i_fitMany, .int i_fitLeast, .int i_fitMost, .ref m_fitPost, .ref m_fitEnd, .ref m_keptPosts, .int i_x0]))], [(m_all, .inl (T.2 0, 3952, .inl f_all))], [(m_posts, .inl (T.2 0, 7, .inl f_posts))], [(m_shut, .inl (T.2 0, 7, .inl f_shut))], [(m_here, .inl (T.2 0, 7, .inl f_here))], [(m_was, .inl (T.2 0, 7, .inl f_was))]]) (br := [wd0_, wd1_, wg0_, wg1_, [(rd, .inr (7, [.ref rl, .ref rdd, .ref rg, .int r0, .int r1, .ref tq, .int r2, .int r3, .int r4, .int r5, .int r6, .int r7, .int r8]))], z, wd, wg, wff, wc, wcp, wr, wrp, wp, [(cd, .inl (T.2 0, 1000, .inl fcd))], wta, z0_a, z1_a, wd0_a, wd1_a, wg0_a, wg1_a, wtb, z0_b, z1_b, wd0_b, wd1_b, wg0_b, wg1_b, wtc, z0_c, z1_c, wd0_c, wd1_c, wg0_c, wg1_c, [(im, .inl (T.2 6, 3, .inr (.inr (.inr (.inr qi)))))], [(mk, .inl (T.2 2, 3, .inl fmk))], [(m_has, .inl (T.2 2, 3, .inl f_has))], [(m_read, .inl (T.2 0, 121, .inl f_read))], [(m_came, .inl (T.2 0, 7, .inl f_came))], [(m_seenAt, .inl (T.2 0, 16384, .inl f_seenAt))], [(m_rowWorth, .inl (T.2 0, 512, .inl f_rowWorth))], [(m_farBy, .inl (T.2 0, 49, .inl f_farBy))], [(m_used, .inl (T.2 0, 7, .inl f_used))], [(m_fitPost, .inl (T.2 0, 28, .inl f_fitPost))], [(m_fitEnd, .inl (T.2 0, 49, .inl f_fitEnd))], [(m_keptPosts, .inl (T.2 0, 7, .inl f_keptPosts))], [(xo, .inr (10, [.ref t, .ref im, .ref mk, .ref rd, .ref po, .ref co, .ref tr, .ref wa, .ref wb_, .ref fi, .ref cd]))], wt, z0_, z1_, wwA_67, wwB_79]) (As := [.int (xs (i + 1)), .int (xs (i + 2)), .int 0]) (rest := []) C G (c_m_mean l T mo m_all m_has i_size i_next i_where i_token i_number i_word i_wrong i_farCrossing m_read i_z0 i_crossings i_inns m_posts m_shut m_here i_steps i_done i_at i_gone m_was m_came m_seenAt m_rowWorth m_farBy m_used i_everywhere i_again0 i_d0 i_never i_firstCame i_longRun i_moved i_crowd i_l0 i_fitMany i_fitLeast i_fitMost m_fitPost m_fitEnd m_keptPosts i_x0 f_all f_posts f_shut f_here f_was (xs (i + 1)) (xs (i + 2)) 0 (by first | assumption | omega | rfl)) (kV_RL_79 C.2.2.2.2 (Nat.le_of_ble_eq_true rfl) (Nat.le_of_ble_eq_true rfl)) [38, 39, 42, 43, 44, 45] [0, 1, 2, 3, 4, 5, 6, 7, 8, 9, 10, 11, 12, 13, 14, 15, 16, 17, 18, 19, 20, 21, 22, 23, 24, 25, 26, 27, 28, 29, 30, 31, 32, 33, 34, 35, 36, 37, 40, 41, 46, 47, 48, 49, 50, 51, 52, 53, 54, 55, 56, 57, 58, 59] rfl rfl (ci := 11) (qc := (RX12, TX12, 43)) rfl rfl (List.mem_flatten.mpr ⟨_, List.mem_of_getElem? (i := 0) rfl, List.mem_cons_self⟩) rfl rfl hl.1 dL_law_844 (by show _ + 0 ≤ 600000; omega) (by show _ + 0 ≤ 7302250; omega) (fun r_110 b1 H locs hw G => ?_)
    obtain ⟨j_z0_99, j_crossings_100, j_inns_101, j_steps_102, j_done_103, j_at_104, j_gone_105, g_posts_106, g_shut_107, g_here_108, g_was_109, rfl⟩ := hw
    have G : zS T A s.heap s [wd0_, wd1_, wg0_, wg1_, [(rd, .inr (7, [.ref rl, .ref rdd, .ref rg, .int r0, .int r1, .ref tq, .int r2, .int r3, .int r4, .int r5, .int r6, .int r7, .int r8]))], z, wd, wg, wff, wc, wcp, wr, wrp, wp, [(cd, .inl (T.2 0, 1000, .inl fcd))], wta, z0_a, z1_a, wd0_a, wd1_a, wg0_a, wg1_a, wtb, z0_b, z1_b, wd0_b, wd1_b, wg0_b, wg1_b, wtc, z0_c, z1_c, wd0_c, wd1_c, wg0_c, wg1_c, [(im, .inl (T.2 6, 3, .inr (.inr (.inr (.inr qi)))))], [(mk, .inl (T.2 2, 3, .inl fmk))], [(m_has, .inl (T.2 2, 3, .inl f_has))], [(m_read, .inl (T.2 0, 121, .inl f_read))], [(m_came, .inl (T.2 0, 7, .inl f_came))], [(m_seenAt, .inl (T.2 0, 16384, .inl f_seenAt))], [(m_rowWorth, .inl (T.2 0, 512, .inl f_rowWorth))], [(m_farBy, .inl (T.2 0, 49, .inl f_farBy))], [(m_used, .inl (T.2 0, 7, .inl f_used))], [(m_fitPost, .inl (T.2 0, 28, .inl f_fitPost))], [(m_fitEnd, .inl (T.2 0, 49, .inl f_fitEnd))], [(m_keptPosts, .inl (T.2 0, 7, .inl f_keptPosts))], [(xo, .inr (10, [.ref t, .ref im, .ref mk, .ref rd, .ref po, .ref co, .ref tr, .ref wa, .ref wb_, .ref fi, .ref cd]))], wt, z0_, z1_, wwA_67, wwB_79, [(mo, .inr (11, [.ref m_all, .ref m_has, .int i_size, .int i_next, .int i_where, .int i_token, .int i_number, .int i_word, .int i_wrong, .int i_farCrossing, .ref m_read, .int j_z0_99, .int j_crossings_100, .int j_inns_101, .ref m_posts, .ref m_shut, .ref m_here, .int j_steps_102, .int j_done_103, .int j_at_104, .int j_gone_105, .ref m_was, .ref m_came, .ref m_seenAt, .ref m_rowWorth, .ref m_farBy, .ref m_used, .int i_everywhere, .int i_again0, .int i_d0, .int i_never, .int i_firstCame, .int i_longRun, .int i_moved, .int i_crowd, .int i_l0, .int i_fitMany, .int i_fitLeast, .int i_fitMost, .ref m_fitPost, .ref m_fitEnd, .ref m_keptPosts, .int i_x0]))], [(m_all, .inl (T.2 0, 3952, .inl f_all))], [(m_posts, .inl (T.2 0, 7, .inl g_posts_106))], [(m_shut, .inl (T.2 0, 7, .inl g_shut_107))], [(m_here, .inl (T.2 0, 7, .inl g_here_108))], [(m_was, .inl (T.2 0, 7, .inl g_was_109))]] _ _ := G
    refine lv_pop hx hb dL_law_847 rfl ?_
    refine lv_goto (tgt := 1767) hx hb dL_law_848 (by decide) ?_
    have G := G.sub (bs' := [[(xo, .inr (10, [.ref t, .ref im, .ref mk, .ref rd, .ref po, .ref co, .ref tr, .ref wa, .ref wb_, .ref fi, .ref cd]))], wt, z0_, z1_, wd0_, wd1_, wg0_, wg1_, [(rd, .inr (7, [.ref rl, .ref rdd, .ref rg, .int r0, .int r1, .ref tq, .int r2, .int r3, .int r4, .int r5, .int r6, .int r7, .int r8]))], z, wd, wg, wwA_67, wwB_79, wff, wc, wcp, wr, wrp, wp, [(cd, .inl (T.2 0, 1000, .inl fcd))], wta, z0_a, z1_a, wd0_a, wd1_a, wg0_a, wg1_a, wtb, z0_b, z1_b, wd0_b, wd1_b, wg0_b, wg1_b, wtc, z0_c, z1_c, wd0_c, wd1_c, wg0_c, wg1_c, [(im, .inl (T.2 6, 3, .inr (.inr (.inr (.inr qi)))))], [(mk, .inl (T.2 2, 3, .inl fmk))], [(mo, .inr (11, [.ref m_all, .ref m_has, .int i_size, .int i_next, .int i_where, .int i_token, .int i_number, .int i_word, .int i_wrong, .int i_farCrossing, .ref m_read, .int j_z0_99, .int j_crossings_100, .int j_inns_101, .ref m_posts, .ref m_shut, .ref m_here, .int j_steps_102, .int j_done_103, .int j_at_104, .int j_gone_105, .ref m_was, .ref m_came, .ref m_seenAt, .ref m_rowWorth, .ref m_farBy, .ref m_used, .int i_everywhere, .int i_again0, .int i_d0, .int i_never, .int i_firstCame, .int i_longRun, .int i_moved, .int i_crowd, .int i_l0, .int i_fitMany, .int i_fitLeast, .int i_fitMost, .ref m_fitPost, .ref m_fitEnd, .ref m_keptPosts, .int i_x0]))], [(m_all, .inl (T.2 0, 3952, .inl f_all))], [(m_has, .inl (T.2 2, 3, .inl f_has))], [(m_read, .inl (T.2 0, 121, .inl f_read))], [(m_posts, .inl (T.2 0, 7, .inl g_posts_106))], [(m_shut, .inl (T.2 0, 7, .inl g_shut_107))], [(m_here, .inl (T.2 0, 7, .inl g_here_108))], [(m_was, .inl (T.2 0, 7, .inl g_was_109))], [(m_came, .inl (T.2 0, 7, .inl f_came))], [(m_seenAt, .inl (T.2 0, 16384, .inl f_seenAt))], [(m_rowWorth, .inl (T.2 0, 512, .inl f_rowWorth))], [(m_farBy, .inl (T.2 0, 49, .inl f_farBy))], [(m_used, .inl (T.2 0, 7, .inl f_used))], [(m_fitPost, .inl (T.2 0, 28, .inl f_fitPost))], [(m_fitEnd, .inl (T.2 0, 49, .inl f_fitEnd))], [(m_keptPosts, .inl (T.2 0, 7, .inl f_keptPosts))]]) [48, 49, 50, 51, 0, 1, 2, 3, 4, 5, 6, 7, 52, 53, 8, 9, 10, 11, 12, 13, 14, 15, 16, 17, 18, 19, 20, 21, 22, 23, 24, 25, 26, 27, 28, 29, 30, 31, 32, 33, 34, 35, 36, 37, 54, 55, 38, 39, 56, 57, 58, 59, 40, 41, 42, 43, 44, 45, 46, 47] rfl
    refine W.widen (k := 216 + 2 * i + 12) (n := 27000 + 6 * (n4A_66 + n4B_78) + 2 * m1f) (by omega) (by omega) ?_
    exact kk n4A_66 n4B_78 m1f _ ⟨⟨t, im, mk, rd, po, co, tr, wa, wb_, fi, cd, wt, l0, l1, d0, d1, g0, g1, ln, z0_, z1_, wd0_, wd1_, wg0_, wg1_, rl, rdd, rg, r0, r1, tq, r2, r3, r4, r5, r6, r7, r8, z, wd, wg, wwA_67, mdA_57, wwB_79, mdB_69, wff, e0f, e1f, wc, cpo, wcp, wr, tpo, wrp, wp, fcd, m0, wta, l0a, l1a, d0a, d1a, g0a, g1a, lna, z0_a, z1_a, wd0_a, wd1_a, wg0_a, wg1_a, m1, wtb, l0b, l1b, d0b, d1b, g0b, g1b, lnb, z0_b, z1_b, wd0_b, wd1_b, wg0_b, wg1_b, m2, wtc, l0c, l1c, d0c, d1c, g0c, g1c, lnc, z0_c, z1_c, wd0_c, wd1_c, wg0_c, wg1_c, qi, fmk, m_all, m_has, i_size, i_next, i_where, i_token, i_number, i_word, i_wrong, i_farCrossing, m_read, j_z0_99, j_crossings_100, j_inns_101, m_posts, m_shut, m_here, j_steps_102, j_done_103, j_at_104, j_gone_105, m_was, m_came, m_seenAt, m_rowWorth, m_farBy, m_used, i_everywhere, i_again0, i_d0, i_never, i_firstCame, i_longRun, i_moved, i_crowd, i_l0, i_fitMany, i_fitLeast, i_fitMost, m_fitPost, m_fitEnd, m_keptPosts, i_x0, f_all, f_has, f_read, g_posts_106, g_shut_107, g_here_108, g_was_109, f_came, f_seenAt, f_rowWorth, f_farBy, f_used, f_fitPost, f_fitEnd, f_keptPosts⟩, rfl, ⟨v_8, v_9, v_10, v_11, h_12, (by first | assumption | omega)⟩, ⟨v_14, v_15, v_16, v_17, v_18, v_19, h_20, (by first | assumption | omega)⟩, ⟨v_22, v_23, v_24, v_25, v_26, v_27, h_28, (by first | assumption | omega)⟩, H_wd0_, H_wd1_, H_wg0_, H_wg1_, H_z, H_wd, H_wg, ⟨laA_56, wyA_58, pc_A_59, f1A_60, f2A_61, f3A_62, f4A_63, f5A_64, f6A_65, h_80, (by first | assumption | omega), (by first | assumption | omega), (by first | assumption | omega)⟩, ⟨laB_68, wyB_70, pc_B_71, f1B_72, f2B_73, f3B_74, f4B_75, f5B_76, f6B_77, h_86, (by first | assumption | omega), (by first | assumption | omega), (by first | assumption | omega)⟩, H_wff, H_wc, H_wcp, H_wr, H_wrp, H_wp, H_wta, H_z0_a, H_z1_a, H_wd0_a, H_wd1_a, H_wg0_a, H_wg1_a, H_wtb, H_z0_b, H_z1_b, H_wd0_b, H_wd1_b, H_wg0_b, H_wg1_b, H_wtc, H_z0_c, H_z1_c, H_wd0_c, H_wd1_c, H_wg0_c, H_wg1_c, (by first | assumption | omega), (by first | assumption | omega), (by first | assumption | omega), (by first | assumption | omega), (by first | assumption | omega), (by first | assumption | omega), (by first | assumption | omega), (by first | assumption | omega)⟩ _ _ ls G (lv_sub hl [0, 1, 2, 3] rfl)
  · have c_7n : ¬ (xs (i + 3)).toInt = (0 : Int) := fun q => c_7 ((fa_eq _ _).mpr q)
    refine lv_iconst (v := 1) hx hb dL_law_811 (by decide) ?_
    refine lv_goto (tgt := 816) hx hb dL_law_812 (by decide) ?_
    obtain ⟨v_111, v_112, v_113, v_114, h_115, h_116⟩ := H_wt
    have h_116 : zKT v_114 := h_116
    obtain ⟨v_117, v_118, v_119, v_120, v_121, v_122, h_123, h_124⟩ := H_z0_
    have h_124 : zLI v_117 v_119 v_121 := h_124
    obtain ⟨v_125, v_126, v_127, v_128, v_129, v_130, h_131, h_132⟩ := H_z1_
    have h_132 : zLI v_125 v_127 v_129 := h_132
    obtain ⟨v_133, v_134, v_135, v_136, v_137, v_138, v_139, v_140, v_141, h_142, h_143, h_144, h_145⟩ := H_wwA
    have h_143 : zPw n4A := h_143
    have h_144 : (mdA = 0 ∨ v_133 = l0) := h_144
    have h_145 : (0 ≤ v_134.toInt ∧ v_134.toInt ≤ 16384) := h_145
    obtain ⟨v_146, v_147, v_148, v_149, v_150, v_151, v_152, v_153, v_154, h_155, h_156, h_157, h_158⟩ := H_wwB
    have h_156 : zPw n4B := h_156
    have h_157 : (mdB = 0 ∨ v_146 = l1) := h_157
    have h_158 : (0 ≤ v_147.toInt ∧ v_147.toInt ≤ 16384) := h_158
    have hq0m := zNA_mono (c := ((xs (i + 1)).toInt = 0 ∧ 0 < (v_114 0).toInt ∧ 0 ≤ (xs (i + 2)).toInt ∧ (xs (i + 2)).toInt < v_117.toInt ∧ (xs (i + 2)).toInt < 7)) (md := mdA) (cr := v_117) (inn := v_118) (k1 := v_119) h_143
    have hq0l := zPw_le (zNA_ge (c := ((xs (i + 1)).toInt = 0 ∧ 0 < (v_114 0).toInt ∧ 0 ≤ (xs (i + 2)).toInt ∧ (xs (i + 2)).toInt < v_117.toInt ∧ (xs (i + 2)).toInt < 7)) (md := mdA) (pl := (zPl v_117 v_118 v_119)) h_143)
    have hq2m := zNA_mono (c := ((xs (i + 1)).toInt = 1 ∧ 1 < (v_114 0).toInt ∧ 0 ≤ (xs (i + 2)).toInt ∧ (xs (i + 2)).toInt < v_125.toInt ∧ (xs (i + 2)).toInt < 7)) (md := mdB) (cr := v_125) (inn := v_126) (k1 := v_127) h_156
    have hq2l := zPw_le (zNA_ge (c := ((xs (i + 1)).toInt = 1 ∧ 1 < (v_114 0).toInt ∧ 0 ≤ (xs (i + 2)).toInt ∧ (xs (i + 2)).toInt < v_125.toInt ∧ (xs (i + 2)).toInt < 7)) (md := mdB) (pl := (zPl v_125 v_126 v_127)) h_156)
    refine z_Vi (bc := [[(xo, .inr (10, [.ref t, .ref im, .ref mk, .ref rd, .ref po, .ref co, .ref tr, .ref wa, .ref wb_, .ref fi, .ref cd]))], wt, z0_, z1_, wwA, wwB]) (br := [wd0_, wd1_, wg0_, wg1_, [(rd, .inr (7, [.ref rl, .ref rdd, .ref rg, .int r0, .int r1, .ref tq, .int r2, .int r3, .int r4, .int r5, .int r6, .int r7, .int r8]))], z, wd, wg, wff, wc, wcp, wr, wrp, wp, [(cd, .inl (T.2 0, 1000, .inl fcd))], wta, z0_a, z1_a, wd0_a, wd1_a, wg0_a, wg1_a, wtb, z0_b, z1_b, wd0_b, wd1_b, wg0_b, wg1_b, wtc, z0_c, z1_c, wd0_c, wd1_c, wg0_c, wg1_c, [(im, .inl (T.2 6, 3, .inr (.inr (.inr (.inr qi)))))], [(mk, .inl (T.2 2, 3, .inl fmk))], [(mo, .inr (11, [.ref m_all, .ref m_has, .int i_size, .int i_next, .int i_where, .int i_token, .int i_number, .int i_word, .int i_wrong, .int i_farCrossing, .ref m_read, .int i_z0, .int i_crossings, .int i_inns, .ref m_posts, .ref m_shut, .ref m_here, .int i_steps, .int i_done, .int i_at, .int i_gone, .ref m_was, .ref m_came, .ref m_seenAt, .ref m_rowWorth, .ref m_farBy, .ref m_used, .int i_everywhere, .int i_again0, .int i_d0, .int i_never, .int i_firstCame, .int i_longRun, .int i_moved, .int i_crowd, .int i_l0, .int i_fitMany, .int i_fitLeast, .int i_fitMost, .ref m_fitPost, .ref m_fitEnd, .ref m_keptPosts, .int i_x0]))], [(m_all, .inl (T.2 0, 3952, .inl f_all))], [(m_has, .inl (T.2 2, 3, .inl f_has))], [(m_read, .inl (T.2 0, 121, .inl f_read))], [(m_posts, .inl (T.2 0, 7, .inl f_posts))], [(m_shut, .inl (T.2 0, 7, .inl f_shut))], [(m_here, .inl (T.2 0, 7, .inl f_here))], [(m_was, .inl (T.2 0, 7, .inl f_was))], [(m_came, .inl (T.2 0, 7, .inl f_came))], [(m_seenAt, .inl (T.2 0, 16384, .inl f_seenAt))], [(m_rowWorth, .inl (T.2 0, 512, .inl f_rowWorth))], [(m_farBy, .inl (T.2 0, 49, .inl f_farBy))], [(m_used, .inl (T.2 0, 7, .inl f_used))], [(m_fitPost, .inl (T.2 0, 28, .inl f_fitPost))], [(m_fitEnd, .inl (T.2 0, 49, .inl f_fitEnd))], [(m_keptPosts, .inl (T.2 0, 7, .inl f_keptPosts))]]) (As := [.int (xs (i + 1)), .int (xs (i + 2)), .int 1]) (rest := []) C G (c_mean l T xo t im mk rd po co tr wa wb_ fi cd l0 l1 d0 d1 g0 g1 ln v_111 v_112 v_113 v_114 wt v_117 v_118 v_119 v_120 v_121 v_122 z0_ v_125 v_126 v_127 v_128 v_129 v_130 z1_ v_133 mdA v_134 v_135 v_136 v_137 v_138 v_139 v_140 v_141 n4A wwA v_146 mdB v_147 v_148 v_149 v_150 v_151 v_152 v_153 v_154 n4B wwB (xs (i + 1)) (xs (i + 2)) 1 h_115 (by first | assumption | omega | rfl) h_123 (by first | assumption | omega | rfl) h_131 (by first | assumption | omega | rfl) h_142 (by first | assumption | omega | rfl) (by first | assumption | omega | rfl) (by first | assumption | omega | rfl) h_155 (by first | assumption | omega | rfl) (by first | assumption | omega | rfl) (by first | assumption | omega | rfl)) (kV_RL_76 C.2.2.2.2 (Nat.le_of_ble_eq_true rfl) (Nat.le_of_ble_eq_true rfl)) [0, 1, 2, 3, 12, 13] [4, 5, 6, 7, 8, 9, 10, 11, 14, 15, 16, 17, 18, 19, 20, 21, 22, 23, 24, 25, 26, 27, 28, 29, 30, 31, 32, 33, 34, 35, 36, 37, 38, 39, 40, 41, 42, 43, 44, 45, 46, 47, 48, 49, 50, 51, 52, 53, 54, 55, 56, 57, 58, 59] rfl rfl (ci := 10) (qc := (RX11, TX11, 11)) rfl rfl (List.mem_flatten.mpr ⟨_, List.mem_of_getElem? (i := 0) rfl, List.mem_cons_self⟩) rfl rfl hl.1 dL_law_816 (by show _ + 3 ≤ 600000; omega) (by show _ + (6 * (zNA ((xs (i + 1)).toInt = 0 ∧ 0 < (v_114 0).toInt ∧ 0 ≤ (xs (i + 2)).toInt ∧ (xs (i + 2)).toInt < v_117.toInt ∧ (xs (i + 2)).toInt < 7) mdA n4A (zPl v_117 v_118 v_119) - n4A) + 6 * (zNA ((xs (i + 1)).toInt = 1 ∧ 1 < (v_114 0).toInt ∧ 0 ≤ (xs (i + 2)).toInt ∧ (xs (i + 2)).toInt < v_125.toInt ∧ (xs (i + 2)).toInt < 7) mdB n4B (zPl v_125 v_126 v_127) - n4B)) ≤ 7302250; omega) (fun r_195 b1 H locs hw G => ?_)
    obtain ⟨laA_159, mdA_160, wyA_161, pc_A_162, f1A_163, f2A_164, f3A_165, f4A_166, f5A_167, f6A_168, n4A_169, wwA_170, laB_171, mdB_172, wyB_173, pc_B_174, f1B_175, f2B_176, f3B_177, f4B_178, f5B_179, f6B_180, n4B_181, wwB_182, rfl, h_183, h_184, h_185, h_186, h_187, h_188, h_189, h_190, h_191, h_192, h_193, h_194⟩ := hw
    have G : zS T A s.heap s [wd0_, wd1_, wg0_, wg1_, [(rd, .inr (7, [.ref rl, .ref rdd, .ref rg, .int r0, .int r1, .ref tq, .int r2, .int r3, .int r4, .int r5, .int r6, .int r7, .int r8]))], z, wd, wg, wff, wc, wcp, wr, wrp, wp, [(cd, .inl (T.2 0, 1000, .inl fcd))], wta, z0_a, z1_a, wd0_a, wd1_a, wg0_a, wg1_a, wtb, z0_b, z1_b, wd0_b, wd1_b, wg0_b, wg1_b, wtc, z0_c, z1_c, wd0_c, wd1_c, wg0_c, wg1_c, [(im, .inl (T.2 6, 3, .inr (.inr (.inr (.inr qi)))))], [(mk, .inl (T.2 2, 3, .inl fmk))], [(mo, .inr (11, [.ref m_all, .ref m_has, .int i_size, .int i_next, .int i_where, .int i_token, .int i_number, .int i_word, .int i_wrong, .int i_farCrossing, .ref m_read, .int i_z0, .int i_crossings, .int i_inns, .ref m_posts, .ref m_shut, .ref m_here, .int i_steps, .int i_done, .int i_at, .int i_gone, .ref m_was, .ref m_came, .ref m_seenAt, .ref m_rowWorth, .ref m_farBy, .ref m_used, .int i_everywhere, .int i_again0, .int i_d0, .int i_never, .int i_firstCame, .int i_longRun, .int i_moved, .int i_crowd, .int i_l0, .int i_fitMany, .int i_fitLeast, .int i_fitMost, .ref m_fitPost, .ref m_fitEnd, .ref m_keptPosts, .int i_x0]))], [(m_all, .inl (T.2 0, 3952, .inl f_all))], [(m_has, .inl (T.2 2, 3, .inl f_has))], [(m_read, .inl (T.2 0, 121, .inl f_read))], [(m_posts, .inl (T.2 0, 7, .inl f_posts))], [(m_shut, .inl (T.2 0, 7, .inl f_shut))], [(m_here, .inl (T.2 0, 7, .inl f_here))], [(m_was, .inl (T.2 0, 7, .inl f_was))], [(m_came, .inl (T.2 0, 7, .inl f_came))], [(m_seenAt, .inl (T.2 0, 16384, .inl f_seenAt))], [(m_rowWorth, .inl (T.2 0, 512, .inl f_rowWorth))], [(m_farBy, .inl (T.2 0, 49, .inl f_farBy))], [(m_used, .inl (T.2 0, 7, .inl f_used))], [(m_fitPost, .inl (T.2 0, 28, .inl f_fitPost))], [(m_fitEnd, .inl (T.2 0, 49, .inl f_fitEnd))], [(m_keptPosts, .inl (T.2 0, 7, .inl f_keptPosts))], [(xo, .inr (10, [.ref t, .ref im, .ref mk, .ref rd, .ref po, .ref co, .ref tr, .ref wa, .ref wb_, .ref fi, .ref cd]))], wt, z0_, z1_, wwA_170, wwB_182] _ _ := G
    have hFI2 : (¬ e0f = 0 → e1f.toInt = 0 ∧ ¬ mdA_160 = 0 ∨ e1f.toInt = 1 ∧ ¬ mdB_172 = 0) := fun q => (hFI q).elim (fun z => Or.inl ⟨z.1, h_188 z.2⟩) (fun z => Or.inr ⟨z.1, h_194 z.2⟩)
    refine lv_pop hx hb dL_law_819 rfl ?_
    refine lv_aload_n hx hb dL_law_820 rfl (lv_at hl 2 rfl) ?_
    refine lv_aload_n hx hb dL_law_821 rfl (lv_at hl 0 rfl) ?_
    refine lv_iload_n hx hb dL_law_822 rfl (lv_at hl 3 rfl) ?_
    refine lv_iconst (v := 1) hx hb dL_law_823 (by decide) ?_
    refine lv_iadd hx hb dL_law_824 ?_
    refine lv_topi (fun y_196 ey_196 => ?_)
    obtain rfl : y_196 = nI (i + 1) := ey_196.trans (z_iaddn i 1 rfl rfl)
    refine va_sld hx hb hX hbl hbA G.2.2.2.1 (vp_in_nI (by omega) (by omega)) dL_law_825 ?_
    refine lv_topi (fun v_197 ev_197 => ?_)
    rw [nI_clamp (by omega)] at ev_197
    have ev_197 : v_197 = xs (i + 1) := ev_197
    subst ev_197
    refine lv_aload_n hx hb dL_law_826 rfl (lv_at hl 0 rfl) ?_
    refine lv_iload_n hx hb dL_law_827 rfl (lv_at hl 3 rfl) ?_
    refine lv_iconst (v := 2) hx hb dL_law_828 (by decide) ?_
    refine lv_iadd hx hb dL_law_829 ?_
    refine lv_topi (fun y_198 ey_198 => ?_)
    obtain rfl : y_198 = nI (i + 2) := ey_198.trans (z_iaddn i 2 rfl rfl)
    refine va_sld hx hb hX hbl hbA G.2.2.2.1 (vp_in_nI (by omega) (by omega)) dL_law_830 ?_
    refine lv_topi (fun v_199 ev_199 => ?_)
    rw [nI_clamp (by omega)] at ev_199
    have ev_199 : v_199 = xs (i + 2) := ev_199
    subst ev_199
    refine lv_aload_n hx hb dL_law_831 rfl (lv_at hl 0 rfl) ?_
    refine lv_iload_n hx hb dL_law_832 rfl (lv_at hl 3 rfl) ?_
    refine lv_iconst (v := 3) hx hb dL_law_833 (by decide) ?_
    refine lv_iadd hx hb dL_law_834 ?_
    refine lv_topi (fun y_200 ey_200 => ?_)
    obtain rfl : y_200 = nI (i + 3) := ey_200.trans (z_iaddn i 3 rfl rfl)
    refine va_sld hx hb hX hbl hbA G.2.2.2.1 (vp_in_nI (by omega) (by omega)) dL_law_835 ?_
    refine lv_topi (fun v_201 ev_201 => ?_)
    rw [nI_clamp (by omega)] at ev_201
    have ev_201 : v_201 = xs (i + 3) := ev_201
    subst ev_201
    refine lv_if_eq (tgt := 843) hx hb dL_law_836 (by decide) (fun q => absurd q c_7) (fun _ => ?_)
    refine lv_iconst (v := 1) hx hb dL_law_839 (by decide) ?_
    refine lv_goto (tgt := 844) hx hb dL_law_840 (by decide) ?_
    refine z_Vi (bc := [[(mo, .inr (11, [.ref m_all, .ref m_has, .int i_size, .int i_next, .int i_where, .int i_token, .int i_number, .int i_word, .int i_wrong, .int i_farCrossing, .ref m_read, .int i_z0, .int i_crossings, .int i_inns, .ref m_posts, .ref m_shut, .ref m_here, .int i_steps, .int i_done, .int i_at, .int i_gone, .ref m_was, .ref m_came, .ref m_seenAt, .ref m_rowWorth, .ref m_farBy, .ref m_used, .int i_everywhere, .int i_again0, .int i_d0, .int i_never, .int i_firstCame, .int i_longRun, .int i_moved, .int i_crowd, .int i_l0, .int i_fitMany, .int i_fitLeast, .int i_fitMost, .ref m_fitPost, .ref m_fitEnd, .ref m_keptPosts, .int i_x0]))], [(m_all, .inl (T.2 0, 3952, .inl f_all))], [(m_posts, .inl (T.2 0, 7, .inl f_posts))], [(m_shut, .inl (T.2 0, 7, .inl f_shut))], [(m_here, .inl (T.2 0, 7, .inl f_here))], [(m_was, .inl (T.2 0, 7, .inl f_was))]]) (br := [wd0_, wd1_, wg0_, wg1_, [(rd, .inr (7, [.ref rl, .ref rdd, .ref rg, .int r0, .int r1, .ref tq, .int r2, .int r3, .int r4, .int r5, .int r6, .int r7, .int r8]))], z, wd, wg, wff, wc, wcp, wr, wrp, wp, [(cd, .inl (T.2 0, 1000, .inl fcd))], wta, z0_a, z1_a, wd0_a, wd1_a, wg0_a, wg1_a, wtb, z0_b, z1_b, wd0_b, wd1_b, wg0_b, wg1_b, wtc, z0_c, z1_c, wd0_c, wd1_c, wg0_c, wg1_c, [(im, .inl (T.2 6, 3, .inr (.inr (.inr (.inr qi)))))], [(mk, .inl (T.2 2, 3, .inl fmk))], [(m_has, .inl (T.2 2, 3, .inl f_has))], [(m_read, .inl (T.2 0, 121, .inl f_read))], [(m_came, .inl (T.2 0, 7, .inl f_came))], [(m_seenAt, .inl (T.2 0, 16384, .inl f_seenAt))], [(m_rowWorth, .inl (T.2 0, 512, .inl f_rowWorth))], [(m_farBy, .inl (T.2 0, 49, .inl f_farBy))], [(m_used, .inl (T.2 0, 7, .inl f_used))], [(m_fitPost, .inl (T.2 0, 28, .inl f_fitPost))], [(m_fitEnd, .inl (T.2 0, 49, .inl f_fitEnd))], [(m_keptPosts, .inl (T.2 0, 7, .inl f_keptPosts))], [(xo, .inr (10, [.ref t, .ref im, .ref mk, .ref rd, .ref po, .ref co, .ref tr, .ref wa, .ref wb_, .ref fi, .ref cd]))], wt, z0_, z1_, wwA_170, wwB_182]) (As := [.int (xs (i + 1)), .int (xs (i + 2)), .int 1]) (rest := []) C G (c_m_mean l T mo m_all m_has i_size i_next i_where i_token i_number i_word i_wrong i_farCrossing m_read i_z0 i_crossings i_inns m_posts m_shut m_here i_steps i_done i_at i_gone m_was m_came m_seenAt m_rowWorth m_farBy m_used i_everywhere i_again0 i_d0 i_never i_firstCame i_longRun i_moved i_crowd i_l0 i_fitMany i_fitLeast i_fitMost m_fitPost m_fitEnd m_keptPosts i_x0 f_all f_posts f_shut f_here f_was (xs (i + 1)) (xs (i + 2)) 1 (by first | assumption | omega | rfl)) (kV_RL_79 C.2.2.2.2 (Nat.le_of_ble_eq_true rfl) (Nat.le_of_ble_eq_true rfl)) [38, 39, 42, 43, 44, 45] [0, 1, 2, 3, 4, 5, 6, 7, 8, 9, 10, 11, 12, 13, 14, 15, 16, 17, 18, 19, 20, 21, 22, 23, 24, 25, 26, 27, 28, 29, 30, 31, 32, 33, 34, 35, 36, 37, 40, 41, 46, 47, 48, 49, 50, 51, 52, 53, 54, 55, 56, 57, 58, 59] rfl rfl (ci := 11) (qc := (RX12, TX12, 43)) rfl rfl (List.mem_flatten.mpr ⟨_, List.mem_of_getElem? (i := 0) rfl, List.mem_cons_self⟩) rfl rfl hl.1 dL_law_844 (by show _ + 0 ≤ 600000; omega) (by show _ + 0 ≤ 7302250; omega) (fun r_213 b1 H locs hw G => ?_)
    obtain ⟨j_z0_202, j_crossings_203, j_inns_204, j_steps_205, j_done_206, j_at_207, j_gone_208, g_posts_209, g_shut_210, g_here_211, g_was_212, rfl⟩ := hw
    have G : zS T A s.heap s [wd0_, wd1_, wg0_, wg1_, [(rd, .inr (7, [.ref rl, .ref rdd, .ref rg, .int r0, .int r1, .ref tq, .int r2, .int r3, .int r4, .int r5, .int r6, .int r7, .int r8]))], z, wd, wg, wff, wc, wcp, wr, wrp, wp, [(cd, .inl (T.2 0, 1000, .inl fcd))], wta, z0_a, z1_a, wd0_a, wd1_a, wg0_a, wg1_a, wtb, z0_b, z1_b, wd0_b, wd1_b, wg0_b, wg1_b, wtc, z0_c, z1_c, wd0_c, wd1_c, wg0_c, wg1_c, [(im, .inl (T.2 6, 3, .inr (.inr (.inr (.inr qi)))))], [(mk, .inl (T.2 2, 3, .inl fmk))], [(m_has, .inl (T.2 2, 3, .inl f_has))], [(m_read, .inl (T.2 0, 121, .inl f_read))], [(m_came, .inl (T.2 0, 7, .inl f_came))], [(m_seenAt, .inl (T.2 0, 16384, .inl f_seenAt))], [(m_rowWorth, .inl (T.2 0, 512, .inl f_rowWorth))], [(m_farBy, .inl (T.2 0, 49, .inl f_farBy))], [(m_used, .inl (T.2 0, 7, .inl f_used))], [(m_fitPost, .inl (T.2 0, 28, .inl f_fitPost))], [(m_fitEnd, .inl (T.2 0, 49, .inl f_fitEnd))], [(m_keptPosts, .inl (T.2 0, 7, .inl f_keptPosts))], [(xo, .inr (10, [.ref t, .ref im, .ref mk, .ref rd, .ref po, .ref co, .ref tr, .ref wa, .ref wb_, .ref fi, .ref cd]))], wt, z0_, z1_, wwA_170, wwB_182, [(mo, .inr (11, [.ref m_all, .ref m_has, .int i_size, .int i_next, .int i_where, .int i_token, .int i_number, .int i_word, .int i_wrong, .int i_farCrossing, .ref m_read, .int j_z0_202, .int j_crossings_203, .int j_inns_204, .ref m_posts, .ref m_shut, .ref m_here, .int j_steps_205, .int j_done_206, .int j_at_207, .int j_gone_208, .ref m_was, .ref m_came, .ref m_seenAt, .ref m_rowWorth, .ref m_farBy, .ref m_used, .int i_everywhere, .int i_again0, .int i_d0, .int i_never, .int i_firstCame, .int i_longRun, .int i_moved, .int i_crowd, .int i_l0, .int i_fitMany, .int i_fitLeast, .int i_fitMost, .ref m_fitPost, .ref m_fitEnd, .ref m_keptPosts, .int i_x0]))], [(m_all, .inl (T.2 0, 3952, .inl f_all))], [(m_posts, .inl (T.2 0, 7, .inl g_posts_209))], [(m_shut, .inl (T.2 0, 7, .inl g_shut_210))], [(m_here, .inl (T.2 0, 7, .inl g_here_211))], [(m_was, .inl (T.2 0, 7, .inl g_was_212))]] _ _ := G
    refine lv_pop hx hb dL_law_847 rfl ?_
    refine lv_goto (tgt := 1767) hx hb dL_law_848 (by decide) ?_
    have G := G.sub (bs' := [[(xo, .inr (10, [.ref t, .ref im, .ref mk, .ref rd, .ref po, .ref co, .ref tr, .ref wa, .ref wb_, .ref fi, .ref cd]))], wt, z0_, z1_, wd0_, wd1_, wg0_, wg1_, [(rd, .inr (7, [.ref rl, .ref rdd, .ref rg, .int r0, .int r1, .ref tq, .int r2, .int r3, .int r4, .int r5, .int r6, .int r7, .int r8]))], z, wd, wg, wwA_170, wwB_182, wff, wc, wcp, wr, wrp, wp, [(cd, .inl (T.2 0, 1000, .inl fcd))], wta, z0_a, z1_a, wd0_a, wd1_a, wg0_a, wg1_a, wtb, z0_b, z1_b, wd0_b, wd1_b, wg0_b, wg1_b, wtc, z0_c, z1_c, wd0_c, wd1_c, wg0_c, wg1_c, [(im, .inl (T.2 6, 3, .inr (.inr (.inr (.inr qi)))))], [(mk, .inl (T.2 2, 3, .inl fmk))], [(mo, .inr (11, [.ref m_all, .ref m_has, .int i_size, .int i_next, .int i_where, .int i_token, .int i_number, .int i_word, .int i_wrong, .int i_farCrossing, .ref m_read, .int j_z0_202, .int j_crossings_203, .int j_inns_204, .ref m_posts, .ref m_shut, .ref m_here, .int j_steps_205, .int j_done_206, .int j_at_207, .int j_gone_208, .ref m_was, .ref m_came, .ref m_seenAt, .ref m_rowWorth, .ref m_farBy, .ref m_used, .int i_everywhere, .int i_again0, .int i_d0, .int i_never, .int i_firstCame, .int i_longRun, .int i_moved, .int i_crowd, .int i_l0, .int i_fitMany, .int i_fitLeast, .int i_fitMost, .ref m_fitPost, .ref m_fitEnd, .ref m_keptPosts, .int i_x0]))], [(m_all, .inl (T.2 0, 3952, .inl f_all))], [(m_has, .inl (T.2 2, 3, .inl f_has))], [(m_read, .inl (T.2 0, 121, .inl f_read))], [(m_posts, .inl (T.2 0, 7, .inl g_posts_209))], [(m_shut, .inl (T.2 0, 7, .inl g_shut_210))], [(m_here, .inl (T.2 0, 7, .inl g_here_211))], [(m_was, .inl (T.2 0, 7, .inl g_was_212))], [(m_came, .inl (T.2 0, 7, .inl f_came))], [(m_seenAt, .inl (T.2 0, 16384, .inl f_seenAt))], [(m_rowWorth, .inl (T.2 0, 512, .inl f_rowWorth))], [(m_farBy, .inl (T.2 0, 49, .inl f_farBy))], [(m_used, .inl (T.2 0, 7, .inl f_used))], [(m_fitPost, .inl (T.2 0, 28, .inl f_fitPost))], [(m_fitEnd, .inl (T.2 0, 49, .inl f_fitEnd))], [(m_keptPosts, .inl (T.2 0, 7, .inl f_keptPosts))]]) [48, 49, 50, 51, 0, 1, 2, 3, 4, 5, 6, 7, 52, 53, 8, 9, 10, 11, 12, 13, 14, 15, 16, 17, 18, 19, 20, 21, 22, 23, 24, 25, 26, 27, 28, 29, 30, 31, 32, 33, 34, 35, 36, 37, 54, 55, 38, 39, 56, 57, 58, 59, 40, 41, 42, 43, 44, 45, 46, 47] rfl
    refine W.widen (k := 216 + 2 * i + 12) (n := 27000 + 6 * (n4A_169 + n4B_181) + 2 * m1f) (by omega) (by omega) ?_
    exact kk n4A_169 n4B_181 m1f _ ⟨⟨t, im, mk, rd, po, co, tr, wa, wb_, fi, cd, wt, l0, l1, d0, d1, g0, g1, ln, z0_, z1_, wd0_, wd1_, wg0_, wg1_, rl, rdd, rg, r0, r1, tq, r2, r3, r4, r5, r6, r7, r8, z, wd, wg, wwA_170, mdA_160, wwB_182, mdB_172, wff, e0f, e1f, wc, cpo, wcp, wr, tpo, wrp, wp, fcd, m0, wta, l0a, l1a, d0a, d1a, g0a, g1a, lna, z0_a, z1_a, wd0_a, wd1_a, wg0_a, wg1_a, m1, wtb, l0b, l1b, d0b, d1b, g0b, g1b, lnb, z0_b, z1_b, wd0_b, wd1_b, wg0_b, wg1_b, m2, wtc, l0c, l1c, d0c, d1c, g0c, g1c, lnc, z0_c, z1_c, wd0_c, wd1_c, wg0_c, wg1_c, qi, fmk, m_all, m_has, i_size, i_next, i_where, i_token, i_number, i_word, i_wrong, i_farCrossing, m_read, j_z0_202, j_crossings_203, j_inns_204, m_posts, m_shut, m_here, j_steps_205, j_done_206, j_at_207, j_gone_208, m_was, m_came, m_seenAt, m_rowWorth, m_farBy, m_used, i_everywhere, i_again0, i_d0, i_never, i_firstCame, i_longRun, i_moved, i_crowd, i_l0, i_fitMany, i_fitLeast, i_fitMost, m_fitPost, m_fitEnd, m_keptPosts, i_x0, f_all, f_has, f_read, g_posts_209, g_shut_210, g_here_211, g_was_212, f_came, f_seenAt, f_rowWorth, f_farBy, f_used, f_fitPost, f_fitEnd, f_keptPosts⟩, rfl, ⟨v_111, v_112, v_113, v_114, h_115, (by first | assumption | omega)⟩, ⟨v_117, v_118, v_119, v_120, v_121, v_122, h_123, (by first | assumption | omega)⟩, ⟨v_125, v_126, v_127, v_128, v_129, v_130, h_131, (by first | assumption | omega)⟩, H_wd0_, H_wd1_, H_wg0_, H_wg1_, H_z, H_wd, H_wg, ⟨laA_159, wyA_161, pc_A_162, f1A_163, f2A_164, f3A_165, f4A_166, f5A_167, f6A_168, h_183, (by first | assumption | omega), (by first | assumption | omega), (by first | assumption | omega)⟩, ⟨laB_171, wyB_173, pc_B_174, f1B_175, f2B_176, f3B_177, f4B_178, f5B_179, f6B_180, h_189, (by first | assumption | omega), (by first | assumption | omega), (by first | assumption | omega)⟩, H_wff, H_wc, H_wcp, H_wr, H_wrp, H_wp, H_wta, H_z0_a, H_z1_a, H_wd0_a, H_wd1_a, H_wg0_a, H_wg1_a, H_wtb, H_z0_b, H_z1_b, H_wd0_b, H_wd1_b, H_wg0_b, H_wg1_b, H_wtc, H_z0_c, H_z1_c, H_wd0_c, H_wd1_c, H_wg0_c, H_wg1_c, (by first | assumption | omega), (by first | assumption | omega), (by first | assumption | omega), (by first | assumption | omega), (by first | assumption | omega), (by first | assumption | omega), (by first | assumption | omega), (by first | assumption | omega)⟩ _ _ ls G (lv_sub hl [0, 1, 2, 3] rfl)
set_option maxHeartbeats 40000000 in
set_option maxRecDepth 100000 in
theorem z_case_trees (l : Launch) {p : Program} {e : Env} {s : State} {m : MethodId} {b : Nat} {below : List Frame} {meth : Method} {c : Code} {Q : State → Prop} {T : zTy} {A : Nat → Prop} {L i : Nat} {xs : Nat → Int32} (hx : p.tables.exec = Jvm.exec) (hb : c.code = cL_law) (C : CallFix p m c cL_law 4 s #[Value.ref b] zT RL) (hX : va_X b L xs s s.heap) (hbl : b < s.heap.size) (hbA : ¬ A b) (hL : L ≤ 3072) (hi6 : i + 6 ≤ L) {xo mo n4A n4B m1f : Nat} (hnA : n4A ≤ 131072) (hnB : n4B ≤ 131072) (hmf : m1f ≤ 16384) {bs : List va_W} (hI : zInv T xo mo n4A n4B m1f bs) {H : Heap} {locs : List Loc} {ls : Array Slot} (G : zS T A s.heap s bs H locs) (hl : lv_has ls 4 [(0, .ref b), (1, .ref xo), (2, .ref mo), (3, .int (nI i))]) (kk : ∀ (n1 n2 n3 : Nat) (bs1 : List va_W), zInv T xo mo n1 n2 n3 bs1 → ∀ (H1 : Heap) (locs1 : List Loc) (ls1 : Array Slot), zS T A s.heap s bs1 H1 locs1 → lv_has ls1 4 [(0, .ref b), (1, .ref xo), (2, .ref mo), (3, .int (nI i))] → W p l e room_1 s m #[Value.ref b] below meth c H1 locs1 (216 + 2 * i + 12) (27000 + 6 * (n1 + n2) + 2 * n3) Q (F0 m 1767 ls1 [])) : W p l e room_1 s m #[Value.ref b] below meth c H locs (216 + 2 * i) (27000 + 6 * (n4A + n4B) + 2 * m1f) Q (F0 m 851 ls []) := by
  obtain ⟨⟨t, im, mk, rd, po, co, tr, wa, wb_, fi, cd, wt, l0, l1, d0, d1, g0, g1, ln, z0_, z1_, wd0_, wd1_, wg0_, wg1_, rl, rdd, rg, r0, r1, tq, r2, r3, r4, r5, r6, r7, r8, z, wd, wg, wwA, mdA, wwB, mdB, wff, e0f, e1f, wc, cpo, wcp, wr, tpo, wrp, wp, fcd, m0, wta, l0a, l1a, d0a, d1a, g0a, g1a, lna, z0_a, z1_a, wd0_a, wd1_a, wg0_a, wg1_a, m1, wtb, l0b, l1b, d0b, d1b, g0b, g1b, lnb, z0_b, z1_b, wd0_b, wd1_b, wg0_b, wg1_b, m2, wtc, l0c, l1c, d0c, d1c, g0c, g1c, lnc, z0_c, z1_c, wd0_c, wd1_c, wg0_c, wg1_c, qi, fmk, m_all, m_has, i_size, i_next, i_where, i_token, i_number, i_word, i_wrong, i_farCrossing, m_read, i_z0, i_crossings, i_inns, m_posts, m_shut, m_here, i_steps, i_done, i_at, i_gone, m_was, m_came, m_seenAt, m_rowWorth, m_farBy, m_used, i_everywhere, i_again0, i_d0, i_never, i_firstCame, i_longRun, i_moved, i_crowd, i_l0, i_fitMany, i_fitLeast, i_fitMost, m_fitPost, m_fitEnd, m_keptPosts, i_x0, f_all, f_has, f_read, f_posts, f_shut, f_here, f_was, f_came, f_seenAt, f_rowWorth, f_farBy, f_used, f_fitPost, f_fitEnd, f_keptPosts⟩, rfl, H_wt, H_z0_, H_z1_, H_wd0_, H_wd1_, H_wg0_, H_wg1_, H_z, H_wd, H_wg, H_wwA, H_wwB, H_wff, H_wc, H_wcp, H_wr, H_wrp, H_wp, H_wta, H_z0_a, H_z1_a, H_wd0_a, H_wd1_a, H_wg0_a, H_wg1_a, H_wtb, H_z0_b, H_z1_b, H_wd0_b, H_wd1_b, H_wg0_b, H_wg1_b, H_wtc, H_z0_c, H_z1_c, H_wd0_c, H_wd1_c, H_wg0_c, H_wg1_c, hm0, hm1, hm2, h56, hFI, hAI, hRl, hHs⟩ := hI
  replace H_wt : hTold T t l0 l1 d0 d1 g0 g1 ln wt := H_wt
  replace H_z0_ : hLand T l0 z0_ := H_z0_
  replace H_z1_ : hLand T l1 z1_ := H_z1_
  replace H_wd0_ : hDay T d0 wd0_ := H_wd0_
  replace H_wd1_ : hDay T d1 wd1_ := H_wd1_
  replace H_wg0_ : hLog T g0 wg0_ := H_wg0_
  replace H_wg1_ : hLog T g1 wg1_ := H_wg1_
  replace H_z : hLandR T rl z := H_z
  replace H_wd : hDay T rdd wd := H_wd
  replace H_wg : hLog T rg wg := H_wg
  replace H_wwA : hWays T wa mdA n4A l0 wwA := H_wwA
  replace H_wwB : hWays T wb_ mdB n4B l1 wwB := H_wwB
  replace H_wff : hFit T fi e0f e1f m1f wff := H_wff
  replace H_wc : hCourse T co cpo wc := H_wc
  replace H_wcp : hPosts T cpo wcp := H_wcp
  replace H_wr : hTrail T tr tpo wr := H_wr
  replace H_wrp : hPosts T tpo wrp := H_wrp
  replace H_wp : hPosts T po wp := H_wp
  replace H_wta : hTold T m0 l0a l1a d0a d1a g0a g1a lna wta := H_wta
  replace H_z0_a : hLand T l0a z0_a := H_z0_a
  replace H_z1_a : hLand T l1a z1_a := H_z1_a
  replace H_wd0_a : hDay T d0a wd0_a := H_wd0_a
  replace H_wd1_a : hDay T d1a wd1_a := H_wd1_a
  replace H_wg0_a : hLog T g0a wg0_a := H_wg0_a
  replace H_wg1_a : hLog T g1a wg1_a := H_wg1_a
  replace H_wtb : hTold T m1 l0b l1b d0b d1b g0b g1b lnb wtb := H_wtb
  replace H_z0_b : hLand T l0b z0_b := H_z0_b
  replace H_z1_b : hLand T l1b z1_b := H_z1_b
  replace H_wd0_b : hDay T d0b wd0_b := H_wd0_b
  replace H_wd1_b : hDay T d1b wd1_b := H_wd1_b
  replace H_wg0_b : hLog T g0b wg0_b := H_wg0_b
  replace H_wg1_b : hLog T g1b wg1_b := H_wg1_b
  replace H_wtc : hTold T m2 l0c l1c d0c d1c g0c g1c lnc wtc := H_wtc
  replace H_z0_c : hLand T l0c z0_c := H_z0_c
  replace H_z1_c : hLand T l1c z1_c := H_z1_c
  replace H_wd0_c : hDay T d0c wd0_c := H_wd0_c
  replace H_wd1_c : hDay T d1c wd1_c := H_wd1_c
  replace H_wg0_c : hLog T g0c wg0_c := H_wg0_c
  replace H_wg1_c : hLog T g1c wg1_c := H_wg1_c
  replace hm0 : qi 0 = some m0 := hm0
  replace hm1 : qi 1 = some m1 := hm1
  replace hm2 : qi 2 = some m2 := hm2
  replace h56 : ((0 ≤ r5.toInt ∧ r5.toInt ≤ 600) ∧ 0 ≤ r6.toInt ∧ r6.toInt ≤ 1000) := h56
  replace hFI : (¬ e0f = 0 → e1f.toInt = 0 ∧ ¬ mdA = 0 ∨ e1f.toInt = 1 ∧ ¬ mdB = 0) := hFI
  replace hAI : zAI f_all := hAI
  replace hRl : zRl ln lna lnb lnc f_all := hRl
  replace hHs : zHs fmk f_has := hHs
  replace G : zS T A s.heap s [[(xo, .inr (10, [.ref t, .ref im, .ref mk, .ref rd, .ref po, .ref co, .ref tr, .ref wa, .ref wb_, .ref fi, .ref cd]))], wt, z0_, z1_, wd0_, wd1_, wg0_, wg1_, [(rd, .inr (7, [.ref rl, .ref rdd, .ref rg, .int r0, .int r1, .ref tq, .int r2, .int r3, .int r4, .int r5, .int r6, .int r7, .int r8]))], z, wd, wg, wwA, wwB, wff, wc, wcp, wr, wrp, wp, [(cd, .inl (T.2 0, 1000, .inl fcd))], wta, z0_a, z1_a, wd0_a, wd1_a, wg0_a, wg1_a, wtb, z0_b, z1_b, wd0_b, wd1_b, wg0_b, wg1_b, wtc, z0_c, z1_c, wd0_c, wd1_c, wg0_c, wg1_c, [(im, .inl (T.2 6, 3, .inr (.inr (.inr (.inr qi)))))], [(mk, .inl (T.2 2, 3, .inl fmk))], [(mo, .inr (11, [.ref m_all, .ref m_has, .int i_size, .int i_next, .int i_where, .int i_token, .int i_number, .int i_word, .int i_wrong, .int i_farCrossing, .ref m_read, .int i_z0, .int i_crossings, .int i_inns, .ref m_posts, .ref m_shut, .ref m_here, .int i_steps, .int i_done, .int i_at, .int i_gone, .ref m_was, .ref m_came, .ref m_seenAt, .ref m_rowWorth, .ref m_farBy, .ref m_used, .int i_everywhere, .int i_again0, .int i_d0, .int i_never, .int i_firstCame, .int i_longRun, .int i_moved, .int i_crowd, .int i_l0, .int i_fitMany, .int i_fitLeast, .int i_fitMost, .ref m_fitPost, .ref m_fitEnd, .ref m_keptPosts, .int i_x0]))], [(m_all, .inl (T.2 0, 3952, .inl f_all))], [(m_has, .inl (T.2 2, 3, .inl f_has))], [(m_read, .inl (T.2 0, 121, .inl f_read))], [(m_posts, .inl (T.2 0, 7, .inl f_posts))], [(m_shut, .inl (T.2 0, 7, .inl f_shut))], [(m_here, .inl (T.2 0, 7, .inl f_here))], [(m_was, .inl (T.2 0, 7, .inl f_was))], [(m_came, .inl (T.2 0, 7, .inl f_came))], [(m_seenAt, .inl (T.2 0, 16384, .inl f_seenAt))], [(m_rowWorth, .inl (T.2 0, 512, .inl f_rowWorth))], [(m_farBy, .inl (T.2 0, 49, .inl f_farBy))], [(m_used, .inl (T.2 0, 7, .inl f_used))], [(m_fitPost, .inl (T.2 0, 28, .inl f_fitPost))], [(m_fitEnd, .inl (T.2 0, 49, .inl f_fitEnd))], [(m_keptPosts, .inl (T.2 0, 7, .inl f_keptPosts))]] H locs := G
  have hB := zAI_0 hAI
  have hB4 := hB.1
  obtain ⟨hln, hlna, hlnb, hlnc⟩ := zRl_in hAI hRl
  refine lv_aload_n hx hb dL_law_851 rfl (lv_at hl 1 rfl) ?_
  refine lv_aload_n hx hb dL_law_852 rfl (lv_at hl 0 rfl) ?_
  refine lv_iload_n hx hb dL_law_853 rfl (lv_at hl 3 rfl) ?_
  refine lv_iconst (v := 1) hx hb dL_law_854 (by decide) ?_
  refine lv_iadd hx hb dL_law_855 ?_
  refine lv_topi (fun y_1 ey_1 => ?_)
  obtain rfl : y_1 = nI (i + 1) := ey_1.trans (z_iaddn i 1 rfl rfl)
  refine va_sld hx hb hX hbl hbA G.2.2.2.1 (vp_in_nI (by omega) (by omega)) dL_law_856 ?_
  refine lv_topi (fun v_2 ev_2 => ?_)
  rw [nI_clamp (by omega)] at ev_2
  have ev_2 : v_2 = xs (i + 1) := ev_2
  subst ev_2
  obtain ⟨v_3, v_4, v_5, v_6, h_7, h_8⟩ := H_wt
  have h_8 : zKT v_6 := h_8
  obtain ⟨v_9, v_10, v_11, v_12, v_13, v_14, h_15, h_16⟩ := H_z0_
  have h_16 : zLI v_9 v_11 v_13 := h_16
  obtain ⟨v_17, v_18, v_19, v_20, v_21, v_22, h_23, h_24⟩ := H_z1_
  have h_24 : zLI v_17 v_19 v_21 := h_24
  obtain ⟨v_25, v_26, v_27, v_28, v_29, v_30, v_31, v_32, v_33, h_34, h_35, h_36, h_37⟩ := H_wwA
  have h_35 : zPw n4A := h_35
  have h_36 : (mdA = 0 ∨ v_25 = l0) := h_36
  have h_37 : (0 ≤ v_26.toInt ∧ v_26.toInt ≤ 16384) := h_37
  obtain ⟨v_38, v_39, v_40, v_41, v_42, v_43, v_44, v_45, v_46, h_47, h_48, h_49, h_50⟩ := H_wwB
  have h_48 : zPw n4B := h_48
  have h_49 : (mdB = 0 ∨ v_38 = l1) := h_49
  have h_50 : (0 ≤ v_39.toInt ∧ v_39.toInt ≤ 16384) := h_50
  refine z_Vi (bc := [[(xo, .inr (10, [.ref t, .ref im, .ref mk, .ref rd, .ref po, .ref co, .ref tr, .ref wa, .ref wb_, .ref fi, .ref cd]))], wt, z0_, z1_, wwA, wwB]) (br := [wd0_, wd1_, wg0_, wg1_, [(rd, .inr (7, [.ref rl, .ref rdd, .ref rg, .int r0, .int r1, .ref tq, .int r2, .int r3, .int r4, .int r5, .int r6, .int r7, .int r8]))], z, wd, wg, wff, wc, wcp, wr, wrp, wp, [(cd, .inl (T.2 0, 1000, .inl fcd))], wta, z0_a, z1_a, wd0_a, wd1_a, wg0_a, wg1_a, wtb, z0_b, z1_b, wd0_b, wd1_b, wg0_b, wg1_b, wtc, z0_c, z1_c, wd0_c, wd1_c, wg0_c, wg1_c, [(im, .inl (T.2 6, 3, .inr (.inr (.inr (.inr qi)))))], [(mk, .inl (T.2 2, 3, .inl fmk))], [(mo, .inr (11, [.ref m_all, .ref m_has, .int i_size, .int i_next, .int i_where, .int i_token, .int i_number, .int i_word, .int i_wrong, .int i_farCrossing, .ref m_read, .int i_z0, .int i_crossings, .int i_inns, .ref m_posts, .ref m_shut, .ref m_here, .int i_steps, .int i_done, .int i_at, .int i_gone, .ref m_was, .ref m_came, .ref m_seenAt, .ref m_rowWorth, .ref m_farBy, .ref m_used, .int i_everywhere, .int i_again0, .int i_d0, .int i_never, .int i_firstCame, .int i_longRun, .int i_moved, .int i_crowd, .int i_l0, .int i_fitMany, .int i_fitLeast, .int i_fitMost, .ref m_fitPost, .ref m_fitEnd, .ref m_keptPosts, .int i_x0]))], [(m_all, .inl (T.2 0, 3952, .inl f_all))], [(m_has, .inl (T.2 2, 3, .inl f_has))], [(m_read, .inl (T.2 0, 121, .inl f_read))], [(m_posts, .inl (T.2 0, 7, .inl f_posts))], [(m_shut, .inl (T.2 0, 7, .inl f_shut))], [(m_here, .inl (T.2 0, 7, .inl f_here))], [(m_was, .inl (T.2 0, 7, .inl f_was))], [(m_came, .inl (T.2 0, 7, .inl f_came))], [(m_seenAt, .inl (T.2 0, 16384, .inl f_seenAt))], [(m_rowWorth, .inl (T.2 0, 512, .inl f_rowWorth))], [(m_farBy, .inl (T.2 0, 49, .inl f_farBy))], [(m_used, .inl (T.2 0, 7, .inl f_used))], [(m_fitPost, .inl (T.2 0, 28, .inl f_fitPost))], [(m_fitEnd, .inl (T.2 0, 49, .inl f_fitEnd))], [(m_keptPosts, .inl (T.2 0, 7, .inl f_keptPosts))]]) (As := [.int (xs (i + 1))]) (rest := []) C G (c_trees l T xo t im mk rd po co tr wa wb_ fi cd l0 l1 d0 d1 g0 g1 ln v_3 v_4 v_5 v_6 wt v_9 v_10 v_11 v_12 v_13 v_14 z0_ v_17 v_18 v_19 v_20 v_21 v_22 z1_ v_25 mdA v_26 v_27 v_28 v_29 v_30 v_31 v_32 v_33 n4A wwA v_38 mdB v_39 v_40 v_41 v_42 v_43 v_44 v_45 v_46 n4B wwB (xs (i + 1)) h_7 (by first | assumption | omega | rfl) h_15 (by first | assumption | omega | rfl) h_23 (by first | assumption | omega | rfl) h_34 (by first | assumption | omega | rfl) (by first | assumption | omega | rfl) (by first | assumption | omega | rfl) h_47 (by first | assumption | omega | rfl) (by first | assumption | omega | rfl) (by first | assumption | omega | rfl)) (kV_RL_80 C.2.2.2.2 (Nat.le_of_ble_eq_true rfl) (Nat.le_of_ble_eq_true rfl)) [0, 1, 2, 3, 12, 13] [4, 5, 6, 7, 8, 9, 10, 11, 14, 15, 16, 17, 18, 19, 20, 21, 22, 23, 24, 25, 26, 27, 28, 29, 30, 31, 32, 33, 34, 35, 36, 37, 38, 39, 40, 41, 42, 43, 44, 45, 46, 47, 48, 49, 50, 51, 52, 53, 54, 55, 56, 57, 58, 59] rfl rfl (ci := 10) (qc := (RX11, TX11, 11)) rfl rfl (List.mem_flatten.mpr ⟨_, List.mem_of_getElem? (i := 0) rfl, List.mem_cons_self⟩) rfl rfl hl.1 dL_law_857 (by show _ + 0 ≤ 600000; omega) (by show _ + 0 ≤ 7302250; omega) (fun r_85 b1 H locs hw G => ?_)
  obtain ⟨laA_51, mdA_52, wyA_53, pc_A_54, f1A_55, f2A_56, f3A_57, f4A_58, f5A_59, f6A_60, n4A_61, wwA_62, laB_63, mdB_64, wyB_65, pc_B_66, f1B_67, f2B_68, f3B_69, f4B_70, f5B_71, f6B_72, n4B_73, wwB_74, rfl, h_75, h_76, h_77, h_78, h_79, h_80, h_81, h_82, h_83, h_84⟩ := hw
  have G : zS T A s.heap s [wd0_, wd1_, wg0_, wg1_, [(rd, .inr (7, [.ref rl, .ref rdd, .ref rg, .int r0, .int r1, .ref tq, .int r2, .int r3, .int r4, .int r5, .int r6, .int r7, .int r8]))], z, wd, wg, wff, wc, wcp, wr, wrp, wp, [(cd, .inl (T.2 0, 1000, .inl fcd))], wta, z0_a, z1_a, wd0_a, wd1_a, wg0_a, wg1_a, wtb, z0_b, z1_b, wd0_b, wd1_b, wg0_b, wg1_b, wtc, z0_c, z1_c, wd0_c, wd1_c, wg0_c, wg1_c, [(im, .inl (T.2 6, 3, .inr (.inr (.inr (.inr qi)))))], [(mk, .inl (T.2 2, 3, .inl fmk))], [(mo, .inr (11, [.ref m_all, .ref m_has, .int i_size, .int i_next, .int i_where, .int i_token, .int i_number, .int i_word, .int i_wrong, .int i_farCrossing, .ref m_read, .int i_z0, .int i_crossings, .int i_inns, .ref m_posts, .ref m_shut, .ref m_here, .int i_steps, .int i_done, .int i_at, .int i_gone, .ref m_was, .ref m_came, .ref m_seenAt, .ref m_rowWorth, .ref m_farBy, .ref m_used, .int i_everywhere, .int i_again0, .int i_d0, .int i_never, .int i_firstCame, .int i_longRun, .int i_moved, .int i_crowd, .int i_l0, .int i_fitMany, .int i_fitLeast, .int i_fitMost, .ref m_fitPost, .ref m_fitEnd, .ref m_keptPosts, .int i_x0]))], [(m_all, .inl (T.2 0, 3952, .inl f_all))], [(m_has, .inl (T.2 2, 3, .inl f_has))], [(m_read, .inl (T.2 0, 121, .inl f_read))], [(m_posts, .inl (T.2 0, 7, .inl f_posts))], [(m_shut, .inl (T.2 0, 7, .inl f_shut))], [(m_here, .inl (T.2 0, 7, .inl f_here))], [(m_was, .inl (T.2 0, 7, .inl f_was))], [(m_came, .inl (T.2 0, 7, .inl f_came))], [(m_seenAt, .inl (T.2 0, 16384, .inl f_seenAt))], [(m_rowWorth, .inl (T.2 0, 512, .inl f_rowWorth))], [(m_farBy, .inl (T.2 0, 49, .inl f_farBy))], [(m_used, .inl (T.2 0, 7, .inl f_used))], [(m_fitPost, .inl (T.2 0, 28, .inl f_fitPost))], [(m_fitEnd, .inl (T.2 0, 49, .inl f_fitEnd))], [(m_keptPosts, .inl (T.2 0, 7, .inl f_keptPosts))], [(xo, .inr (10, [.ref t, .ref im, .ref mk, .ref rd, .ref po, .ref co, .ref tr, .ref wa, .ref wb_, .ref fi, .ref cd]))], wt, z0_, z1_, wwA_62, wwB_74] _ _ := G
  have hpwwa : zPw n4A_61 := by rw [h_78]; assumption
  have hpwwb_ : zPw n4B_73 := by rw [h_83]; assumption
  have hFI2 : (¬ e0f = 0 → e1f.toInt = 0 ∧ ¬ mdA_52 = 0 ∨ e1f.toInt = 1 ∧ ¬ mdB_64 = 0) := by rw [h_79, h_84]; exact hFI
  refine lv_pop hx hb dL_law_860 rfl ?_
  refine lv_aload_n hx hb dL_law_861 rfl (lv_at hl 2 rfl) ?_
  refine lv_aload_n hx hb dL_law_862 rfl (lv_at hl 0 rfl) ?_
  refine lv_iload_n hx hb dL_law_863 rfl (lv_at hl 3 rfl) ?_
  refine lv_iconst (v := 1) hx hb dL_law_864 (by decide) ?_
  refine lv_iadd hx hb dL_law_865 ?_
  refine lv_topi (fun y_86 ey_86 => ?_)
  obtain rfl : y_86 = nI (i + 1) := ey_86.trans (z_iaddn i 1 rfl rfl)
  refine va_sld hx hb hX hbl hbA G.2.2.2.1 (vp_in_nI (by omega) (by omega)) dL_law_866 ?_
  refine lv_topi (fun v_87 ev_87 => ?_)
  rw [nI_clamp (by omega)] at ev_87
  have ev_87 : v_87 = xs (i + 1) := ev_87
  subst ev_87
  refine z_Vi (bc := [[(mo, .inr (11, [.ref m_all, .ref m_has, .int i_size, .int i_next, .int i_where, .int i_token, .int i_number, .int i_word, .int i_wrong, .int i_farCrossing, .ref m_read, .int i_z0, .int i_crossings, .int i_inns, .ref m_posts, .ref m_shut, .ref m_here, .int i_steps, .int i_done, .int i_at, .int i_gone, .ref m_was, .ref m_came, .ref m_seenAt, .ref m_rowWorth, .ref m_farBy, .ref m_used, .int i_everywhere, .int i_again0, .int i_d0, .int i_never, .int i_firstCame, .int i_longRun, .int i_moved, .int i_crowd, .int i_l0, .int i_fitMany, .int i_fitLeast, .int i_fitMost, .ref m_fitPost, .ref m_fitEnd, .ref m_keptPosts, .int i_x0]))], [(m_all, .inl (T.2 0, 3952, .inl f_all))], [(m_posts, .inl (T.2 0, 7, .inl f_posts))], [(m_shut, .inl (T.2 0, 7, .inl f_shut))], [(m_here, .inl (T.2 0, 7, .inl f_here))]]) (br := [wd0_, wd1_, wg0_, wg1_, [(rd, .inr (7, [.ref rl, .ref rdd, .ref rg, .int r0, .int r1, .ref tq, .int r2, .int r3, .int r4, .int r5, .int r6, .int r7, .int r8]))], z, wd, wg, wff, wc, wcp, wr, wrp, wp, [(cd, .inl (T.2 0, 1000, .inl fcd))], wta, z0_a, z1_a, wd0_a, wd1_a, wg0_a, wg1_a, wtb, z0_b, z1_b, wd0_b, wd1_b, wg0_b, wg1_b, wtc, z0_c, z1_c, wd0_c, wd1_c, wg0_c, wg1_c, [(im, .inl (T.2 6, 3, .inr (.inr (.inr (.inr qi)))))], [(mk, .inl (T.2 2, 3, .inl fmk))], [(m_has, .inl (T.2 2, 3, .inl f_has))], [(m_read, .inl (T.2 0, 121, .inl f_read))], [(m_was, .inl (T.2 0, 7, .inl f_was))], [(m_came, .inl (T.2 0, 7, .inl f_came))], [(m_seenAt, .inl (T.2 0, 16384, .inl f_seenAt))], [(m_rowWorth, .inl (T.2 0, 512, .inl f_rowWorth))], [(m_farBy, .inl (T.2 0, 49, .inl f_farBy))], [(m_used, .inl (T.2 0, 7, .inl f_used))], [(m_fitPost, .inl (T.2 0, 28, .inl f_fitPost))], [(m_fitEnd, .inl (T.2 0, 49, .inl f_fitEnd))], [(m_keptPosts, .inl (T.2 0, 7, .inl f_keptPosts))], [(xo, .inr (10, [.ref t, .ref im, .ref mk, .ref rd, .ref po, .ref co, .ref tr, .ref wa, .ref wb_, .ref fi, .ref cd]))], wt, z0_, z1_, wwA_62, wwB_74]) (As := [.int (xs (i + 1))]) (rest := []) C G (c_m_trees l T mo m_all m_has i_size i_next i_where i_token i_number i_word i_wrong i_farCrossing m_read i_z0 i_crossings i_inns m_posts m_shut m_here i_steps i_done i_at i_gone m_was m_came m_seenAt m_rowWorth m_farBy m_used i_everywhere i_again0 i_d0 i_never i_firstCame i_longRun i_moved i_crowd i_l0 i_fitMany i_fitLeast i_fitMost m_fitPost m_fitEnd m_keptPosts i_x0 f_all f_posts f_shut f_here (xs (i + 1)) (by first | assumption | omega | rfl)) (kV_RL_83 C.2.2.2.2 (Nat.le_of_ble_eq_true rfl) (Nat.le_of_ble_eq_true rfl)) [38, 39, 42, 43, 44] [0, 1, 2, 3, 4, 5, 6, 7, 8, 9, 10, 11, 12, 13, 14, 15, 16, 17, 18, 19, 20, 21, 22, 23, 24, 25, 26, 27, 28, 29, 30, 31, 32, 33, 34, 35, 36, 37, 40, 41, 45, 46, 47, 48, 49, 50, 51, 52, 53, 54, 55, 56, 57, 58, 59] rfl rfl (ci := 11) (qc := (RX12, TX12, 43)) rfl rfl (List.mem_flatten.mpr ⟨_, List.mem_of_getElem? (i := 0) rfl, List.mem_cons_self⟩) rfl rfl hl.1 dL_law_867 (by show _ + 0 ≤ 600000; omega) (by show _ + 0 ≤ 7302250; omega) (fun r_96 b1 H locs hw G => ?_)
  obtain ⟨j_z0_88, j_crossings_89, j_inns_90, j_steps_91, j_done_92, g_posts_93, g_shut_94, g_here_95, rfl⟩ := hw
  have G : zS T A s.heap s [wd0_, wd1_, wg0_, wg1_, [(rd, .inr (7, [.ref rl, .ref rdd, .ref rg, .int r0, .int r1, .ref tq, .int r2, .int r3, .int r4, .int r5, .int r6, .int r7, .int r8]))], z, wd, wg, wff, wc, wcp, wr, wrp, wp, [(cd, .inl (T.2 0, 1000, .inl fcd))], wta, z0_a, z1_a, wd0_a, wd1_a, wg0_a, wg1_a, wtb, z0_b, z1_b, wd0_b, wd1_b, wg0_b, wg1_b, wtc, z0_c, z1_c, wd0_c, wd1_c, wg0_c, wg1_c, [(im, .inl (T.2 6, 3, .inr (.inr (.inr (.inr qi)))))], [(mk, .inl (T.2 2, 3, .inl fmk))], [(m_has, .inl (T.2 2, 3, .inl f_has))], [(m_read, .inl (T.2 0, 121, .inl f_read))], [(m_was, .inl (T.2 0, 7, .inl f_was))], [(m_came, .inl (T.2 0, 7, .inl f_came))], [(m_seenAt, .inl (T.2 0, 16384, .inl f_seenAt))], [(m_rowWorth, .inl (T.2 0, 512, .inl f_rowWorth))], [(m_farBy, .inl (T.2 0, 49, .inl f_farBy))], [(m_used, .inl (T.2 0, 7, .inl f_used))], [(m_fitPost, .inl (T.2 0, 28, .inl f_fitPost))], [(m_fitEnd, .inl (T.2 0, 49, .inl f_fitEnd))], [(m_keptPosts, .inl (T.2 0, 7, .inl f_keptPosts))], [(xo, .inr (10, [.ref t, .ref im, .ref mk, .ref rd, .ref po, .ref co, .ref tr, .ref wa, .ref wb_, .ref fi, .ref cd]))], wt, z0_, z1_, wwA_62, wwB_74, [(mo, .inr (11, [.ref m_all, .ref m_has, .int i_size, .int i_next, .int i_where, .int i_token, .int i_number, .int i_word, .int i_wrong, .int i_farCrossing, .ref m_read, .int j_z0_88, .int j_crossings_89, .int j_inns_90, .ref m_posts, .ref m_shut, .ref m_here, .int j_steps_91, .int j_done_92, .int i_at, .int i_gone, .ref m_was, .ref m_came, .ref m_seenAt, .ref m_rowWorth, .ref m_farBy, .ref m_used, .int i_everywhere, .int i_again0, .int i_d0, .int i_never, .int i_firstCame, .int i_longRun, .int i_moved, .int i_crowd, .int i_l0, .int i_fitMany, .int i_fitLeast, .int i_fitMost, .ref m_fitPost, .ref m_fitEnd, .ref m_keptPosts, .int i_x0]))], [(m_all, .inl (T.2 0, 3952, .inl f_all))], [(m_posts, .inl (T.2 0, 7, .inl g_posts_93))], [(m_shut, .inl (T.2 0, 7, .inl g_shut_94))], [(m_here, .inl (T.2 0, 7, .inl g_here_95))]] _ _ := G
  refine lv_pop hx hb dL_law_870 rfl ?_
  refine lv_goto (tgt := 1767) hx hb dL_law_871 (by decide) ?_
  have G := G.sub (bs' := [[(xo, .inr (10, [.ref t, .ref im, .ref mk, .ref rd, .ref po, .ref co, .ref tr, .ref wa, .ref wb_, .ref fi, .ref cd]))], wt, z0_, z1_, wd0_, wd1_, wg0_, wg1_, [(rd, .inr (7, [.ref rl, .ref rdd, .ref rg, .int r0, .int r1, .ref tq, .int r2, .int r3, .int r4, .int r5, .int r6, .int r7, .int r8]))], z, wd, wg, wwA_62, wwB_74, wff, wc, wcp, wr, wrp, wp, [(cd, .inl (T.2 0, 1000, .inl fcd))], wta, z0_a, z1_a, wd0_a, wd1_a, wg0_a, wg1_a, wtb, z0_b, z1_b, wd0_b, wd1_b, wg0_b, wg1_b, wtc, z0_c, z1_c, wd0_c, wd1_c, wg0_c, wg1_c, [(im, .inl (T.2 6, 3, .inr (.inr (.inr (.inr qi)))))], [(mk, .inl (T.2 2, 3, .inl fmk))], [(mo, .inr (11, [.ref m_all, .ref m_has, .int i_size, .int i_next, .int i_where, .int i_token, .int i_number, .int i_word, .int i_wrong, .int i_farCrossing, .ref m_read, .int j_z0_88, .int j_crossings_89, .int j_inns_90, .ref m_posts, .ref m_shut, .ref m_here, .int j_steps_91, .int j_done_92, .int i_at, .int i_gone, .ref m_was, .ref m_came, .ref m_seenAt, .ref m_rowWorth, .ref m_farBy, .ref m_used, .int i_everywhere, .int i_again0, .int i_d0, .int i_never, .int i_firstCame, .int i_longRun, .int i_moved, .int i_crowd, .int i_l0, .int i_fitMany, .int i_fitLeast, .int i_fitMost, .ref m_fitPost, .ref m_fitEnd, .ref m_keptPosts, .int i_x0]))], [(m_all, .inl (T.2 0, 3952, .inl f_all))], [(m_has, .inl (T.2 2, 3, .inl f_has))], [(m_read, .inl (T.2 0, 121, .inl f_read))], [(m_posts, .inl (T.2 0, 7, .inl g_posts_93))], [(m_shut, .inl (T.2 0, 7, .inl g_shut_94))], [(m_here, .inl (T.2 0, 7, .inl g_here_95))], [(m_was, .inl (T.2 0, 7, .inl f_was))], [(m_came, .inl (T.2 0, 7, .inl f_came))], [(m_seenAt, .inl (T.2 0, 16384, .inl f_seenAt))], [(m_rowWorth, .inl (T.2 0, 512, .inl f_rowWorth))], [(m_farBy, .inl (T.2 0, 49, .inl f_farBy))], [(m_used, .inl (T.2 0, 7, .inl f_used))], [(m_fitPost, .inl (T.2 0, 28, .inl f_fitPost))], [(m_fitEnd, .inl (T.2 0, 49, .inl f_fitEnd))], [(m_keptPosts, .inl (T.2 0, 7, .inl f_keptPosts))]]) [49, 50, 51, 52, 0, 1, 2, 3, 4, 5, 6, 7, 53, 54, 8, 9, 10, 11, 12, 13, 14, 15, 16, 17, 18, 19, 20, 21, 22, 23, 24, 25, 26, 27, 28, 29, 30, 31, 32, 33, 34, 35, 36, 37, 55, 56, 38, 39, 57, 58, 59, 40, 41, 42, 43, 44, 45, 46, 47, 48] rfl
  refine W.widen (k := 216 + 2 * i + 12) (n := 27000 + 6 * (n4A_61 + n4B_73) + 2 * m1f) (by omega) (by omega) ?_
  exact kk n4A_61 n4B_73 m1f _ ⟨⟨t, im, mk, rd, po, co, tr, wa, wb_, fi, cd, wt, l0, l1, d0, d1, g0, g1, ln, z0_, z1_, wd0_, wd1_, wg0_, wg1_, rl, rdd, rg, r0, r1, tq, r2, r3, r4, r5, r6, r7, r8, z, wd, wg, wwA_62, mdA_52, wwB_74, mdB_64, wff, e0f, e1f, wc, cpo, wcp, wr, tpo, wrp, wp, fcd, m0, wta, l0a, l1a, d0a, d1a, g0a, g1a, lna, z0_a, z1_a, wd0_a, wd1_a, wg0_a, wg1_a, m1, wtb, l0b, l1b, d0b, d1b, g0b, g1b, lnb, z0_b, z1_b, wd0_b, wd1_b, wg0_b, wg1_b, m2, wtc, l0c, l1c, d0c, d1c, g0c, g1c, lnc, z0_c, z1_c, wd0_c, wd1_c, wg0_c, wg1_c, qi, fmk, m_all, m_has, i_size, i_next, i_where, i_token, i_number, i_word, i_wrong, i_farCrossing, m_read, j_z0_88, j_crossings_89, j_inns_90, m_posts, m_shut, m_here, j_steps_91, j_done_92, i_at, i_gone, m_was, m_came, m_seenAt, m_rowWorth, m_farBy, m_used, i_everywhere, i_again0, i_d0, i_never, i_firstCame, i_longRun, i_moved, i_crowd, i_l0, i_fitMany, i_fitLeast, i_fitMost, m_fitPost, m_fitEnd, m_keptPosts, i_x0, f_all, f_has, f_read, g_posts_93, g_shut_94, g_here_95, f_was, f_came, f_seenAt, f_rowWorth, f_farBy, f_used, f_fitPost, f_fitEnd, f_keptPosts⟩, rfl, ⟨v_3, v_4, v_5, v_6, h_7, (by first | assumption | omega)⟩, ⟨v_9, v_10, v_11, v_12, v_13, v_14, h_15, (by first | assumption | omega)⟩, ⟨v_17, v_18, v_19, v_20, v_21, v_22, h_23, (by first | assumption | omega)⟩, H_wd0_, H_wd1_, H_wg0_, H_wg1_, H_z, H_wd, H_wg, ⟨laA_51, wyA_53, pc_A_54, f1A_55, f2A_56, f3A_57, f4A_58, f5A_59, f6A_60, h_75, (by first | assumption | omega), (by first | assumption | omega), (by first | assumption | omega)⟩, ⟨laB_63, wyB_65, pc_B_66, f1B_67, f2B_68, f3B_69, f4B_70, f5B_71, f6B_72, h_80, (by first | assumption | omega), (by first | assumption | omega), (by first | assumption | omega)⟩, H_wff, H_wc, H_wcp, H_wr, H_wrp, H_wp, H_wta, H_z0_a, H_z1_a, H_wd0_a, H_wd1_a, H_wg0_a, H_wg1_a, H_wtb, H_z0_b, H_z1_b, H_wd0_b, H_wd1_b, H_wg0_b, H_wg1_b, H_wtc, H_z0_c, H_z1_c, H_wd0_c, H_wd1_c, H_wg0_c, H_wg1_c, (by first | assumption | omega), (by first | assumption | omega), (by first | assumption | omega), (by first | assumption | omega), (by first | assumption | omega), (by first | assumption | omega), (by first | assumption | omega), (by first | assumption | omega)⟩ _ _ ls G (lv_sub hl [0, 1, 2, 3] rfl)
set_option maxHeartbeats 40000000 in
set_option maxRecDepth 100000 in
theorem z_case_game (l : Launch) {p : Program} {e : Env} {s : State} {m : MethodId} {b : Nat} {below : List Frame} {meth : Method} {c : Code} {Q : State → Prop} {T : zTy} {A : Nat → Prop} {L i : Nat} {xs : Nat → Int32} (hx : p.tables.exec = Jvm.exec) (hb : c.code = cL_law) (C : CallFix p m c cL_law 4 s #[Value.ref b] zT RL) (hX : va_X b L xs s s.heap) (hbl : b < s.heap.size) (hbA : ¬ A b) (hL : L ≤ 3072) (hi6 : i + 6 ≤ L) {xo mo n4A n4B m1f : Nat} (hnA : n4A ≤ 131072) (hnB : n4B ≤ 131072) (hmf : m1f ≤ 16384) {bs : List va_W} (hI : zInv T xo mo n4A n4B m1f bs) {H : Heap} {locs : List Loc} {ls : Array Slot} (G : zS T A s.heap s bs H locs) (hl : lv_has ls 4 [(0, .ref b), (1, .ref xo), (2, .ref mo), (3, .int (nI i))]) (kk : ∀ (n1 n2 n3 : Nat) (bs1 : List va_W), zInv T xo mo n1 n2 n3 bs1 → ∀ (H1 : Heap) (locs1 : List Loc) (ls1 : Array Slot), zS T A s.heap s bs1 H1 locs1 → lv_has ls1 4 [(0, .ref b), (1, .ref xo), (2, .ref mo), (3, .int (nI i))] → W p l e room_1 s m #[Value.ref b] below meth c H1 locs1 (216 + 2 * i + 12) (27000 + 6 * (n1 + n2) + 2 * n3) Q (F0 m 1767 ls1 [])) : W p l e room_1 s m #[Value.ref b] below meth c H locs (216 + 2 * i) (27000 + 6 * (n4A + n4B) + 2 * m1f) Q (F0 m 874 ls []) := by
  obtain ⟨⟨t, im, mk, rd, po, co, tr, wa, wb_, fi, cd, wt, l0, l1, d0, d1, g0, g1, ln, z0_, z1_, wd0_, wd1_, wg0_, wg1_, rl, rdd, rg, r0, r1, tq, r2, r3, r4, r5, r6, r7, r8, z, wd, wg, wwA, mdA, wwB, mdB, wff, e0f, e1f, wc, cpo, wcp, wr, tpo, wrp, wp, fcd, m0, wta, l0a, l1a, d0a, d1a, g0a, g1a, lna, z0_a, z1_a, wd0_a, wd1_a, wg0_a, wg1_a, m1, wtb, l0b, l1b, d0b, d1b, g0b, g1b, lnb, z0_b, z1_b, wd0_b, wd1_b, wg0_b, wg1_b, m2, wtc, l0c, l1c, d0c, d1c, g0c, g1c, lnc, z0_c, z1_c, wd0_c, wd1_c, wg0_c, wg1_c, qi, fmk, m_all, m_has, i_size, i_next, i_where, i_token, i_number, i_word, i_wrong, i_farCrossing, m_read, i_z0, i_crossings, i_inns, m_posts, m_shut, m_here, i_steps, i_done, i_at, i_gone, m_was, m_came, m_seenAt, m_rowWorth, m_farBy, m_used, i_everywhere, i_again0, i_d0, i_never, i_firstCame, i_longRun, i_moved, i_crowd, i_l0, i_fitMany, i_fitLeast, i_fitMost, m_fitPost, m_fitEnd, m_keptPosts, i_x0, f_all, f_has, f_read, f_posts, f_shut, f_here, f_was, f_came, f_seenAt, f_rowWorth, f_farBy, f_used, f_fitPost, f_fitEnd, f_keptPosts⟩, rfl, H_wt, H_z0_, H_z1_, H_wd0_, H_wd1_, H_wg0_, H_wg1_, H_z, H_wd, H_wg, H_wwA, H_wwB, H_wff, H_wc, H_wcp, H_wr, H_wrp, H_wp, H_wta, H_z0_a, H_z1_a, H_wd0_a, H_wd1_a, H_wg0_a, H_wg1_a, H_wtb, H_z0_b, H_z1_b, H_wd0_b, H_wd1_b, H_wg0_b, H_wg1_b, H_wtc, H_z0_c, H_z1_c, H_wd0_c, H_wd1_c, H_wg0_c, H_wg1_c, hm0, hm1, hm2, h56, hFI, hAI, hRl, hHs⟩ := hI
  replace H_wt : hTold T t l0 l1 d0 d1 g0 g1 ln wt := H_wt
  replace H_z0_ : hLand T l0 z0_ := H_z0_
  replace H_z1_ : hLand T l1 z1_ := H_z1_
  replace H_wd0_ : hDay T d0 wd0_ := H_wd0_
  replace H_wd1_ : hDay T d1 wd1_ := H_wd1_
  replace H_wg0_ : hLog T g0 wg0_ := H_wg0_
  replace H_wg1_ : hLog T g1 wg1_ := H_wg1_
  replace H_z : hLandR T rl z := H_z
  replace H_wd : hDay T rdd wd := H_wd
  replace H_wg : hLog T rg wg := H_wg
  replace H_wwA : hWays T wa mdA n4A l0 wwA := H_wwA
  replace H_wwB : hWays T wb_ mdB n4B l1 wwB := H_wwB
  replace H_wff : hFit T fi e0f e1f m1f wff := H_wff
  replace H_wc : hCourse T co cpo wc := H_wc
  replace H_wcp : hPosts T cpo wcp := H_wcp
  replace H_wr : hTrail T tr tpo wr := H_wr
  replace H_wrp : hPosts T tpo wrp := H_wrp
  replace H_wp : hPosts T po wp := H_wp
  replace H_wta : hTold T m0 l0a l1a d0a d1a g0a g1a lna wta := H_wta
  replace H_z0_a : hLand T l0a z0_a := H_z0_a
  replace H_z1_a : hLand T l1a z1_a := H_z1_a
  replace H_wd0_a : hDay T d0a wd0_a := H_wd0_a
  replace H_wd1_a : hDay T d1a wd1_a := H_wd1_a
  replace H_wg0_a : hLog T g0a wg0_a := H_wg0_a
  replace H_wg1_a : hLog T g1a wg1_a := H_wg1_a
  replace H_wtb : hTold T m1 l0b l1b d0b d1b g0b g1b lnb wtb := H_wtb
  replace H_z0_b : hLand T l0b z0_b := H_z0_b
  replace H_z1_b : hLand T l1b z1_b := H_z1_b
  replace H_wd0_b : hDay T d0b wd0_b := H_wd0_b
  replace H_wd1_b : hDay T d1b wd1_b := H_wd1_b
  replace H_wg0_b : hLog T g0b wg0_b := H_wg0_b
  replace H_wg1_b : hLog T g1b wg1_b := H_wg1_b
  replace H_wtc : hTold T m2 l0c l1c d0c d1c g0c g1c lnc wtc := H_wtc
  replace H_z0_c : hLand T l0c z0_c := H_z0_c
  replace H_z1_c : hLand T l1c z1_c := H_z1_c
  replace H_wd0_c : hDay T d0c wd0_c := H_wd0_c
  replace H_wd1_c : hDay T d1c wd1_c := H_wd1_c
  replace H_wg0_c : hLog T g0c wg0_c := H_wg0_c
  replace H_wg1_c : hLog T g1c wg1_c := H_wg1_c
  replace hm0 : qi 0 = some m0 := hm0
  replace hm1 : qi 1 = some m1 := hm1
  replace hm2 : qi 2 = some m2 := hm2
  replace h56 : ((0 ≤ r5.toInt ∧ r5.toInt ≤ 600) ∧ 0 ≤ r6.toInt ∧ r6.toInt ≤ 1000) := h56
  replace hFI : (¬ e0f = 0 → e1f.toInt = 0 ∧ ¬ mdA = 0 ∨ e1f.toInt = 1 ∧ ¬ mdB = 0) := hFI
  replace hAI : zAI f_all := hAI
  replace hRl : zRl ln lna lnb lnc f_all := hRl
  replace hHs : zHs fmk f_has := hHs
  replace G : zS T A s.heap s [[(xo, .inr (10, [.ref t, .ref im, .ref mk, .ref rd, .ref po, .ref co, .ref tr, .ref wa, .ref wb_, .ref fi, .ref cd]))], wt, z0_, z1_, wd0_, wd1_, wg0_, wg1_, [(rd, .inr (7, [.ref rl, .ref rdd, .ref rg, .int r0, .int r1, .ref tq, .int r2, .int r3, .int r4, .int r5, .int r6, .int r7, .int r8]))], z, wd, wg, wwA, wwB, wff, wc, wcp, wr, wrp, wp, [(cd, .inl (T.2 0, 1000, .inl fcd))], wta, z0_a, z1_a, wd0_a, wd1_a, wg0_a, wg1_a, wtb, z0_b, z1_b, wd0_b, wd1_b, wg0_b, wg1_b, wtc, z0_c, z1_c, wd0_c, wd1_c, wg0_c, wg1_c, [(im, .inl (T.2 6, 3, .inr (.inr (.inr (.inr qi)))))], [(mk, .inl (T.2 2, 3, .inl fmk))], [(mo, .inr (11, [.ref m_all, .ref m_has, .int i_size, .int i_next, .int i_where, .int i_token, .int i_number, .int i_word, .int i_wrong, .int i_farCrossing, .ref m_read, .int i_z0, .int i_crossings, .int i_inns, .ref m_posts, .ref m_shut, .ref m_here, .int i_steps, .int i_done, .int i_at, .int i_gone, .ref m_was, .ref m_came, .ref m_seenAt, .ref m_rowWorth, .ref m_farBy, .ref m_used, .int i_everywhere, .int i_again0, .int i_d0, .int i_never, .int i_firstCame, .int i_longRun, .int i_moved, .int i_crowd, .int i_l0, .int i_fitMany, .int i_fitLeast, .int i_fitMost, .ref m_fitPost, .ref m_fitEnd, .ref m_keptPosts, .int i_x0]))], [(m_all, .inl (T.2 0, 3952, .inl f_all))], [(m_has, .inl (T.2 2, 3, .inl f_has))], [(m_read, .inl (T.2 0, 121, .inl f_read))], [(m_posts, .inl (T.2 0, 7, .inl f_posts))], [(m_shut, .inl (T.2 0, 7, .inl f_shut))], [(m_here, .inl (T.2 0, 7, .inl f_here))], [(m_was, .inl (T.2 0, 7, .inl f_was))], [(m_came, .inl (T.2 0, 7, .inl f_came))], [(m_seenAt, .inl (T.2 0, 16384, .inl f_seenAt))], [(m_rowWorth, .inl (T.2 0, 512, .inl f_rowWorth))], [(m_farBy, .inl (T.2 0, 49, .inl f_farBy))], [(m_used, .inl (T.2 0, 7, .inl f_used))], [(m_fitPost, .inl (T.2 0, 28, .inl f_fitPost))], [(m_fitEnd, .inl (T.2 0, 49, .inl f_fitEnd))], [(m_keptPosts, .inl (T.2 0, 7, .inl f_keptPosts))]] H locs := G
  have hB := zAI_0 hAI
  have hB4 := hB.1
  obtain ⟨hln, hlna, hlnb, hlnc⟩ := zRl_in hAI hRl
  refine lv_aload_n hx hb dL_law_874 rfl (lv_at hl 1 rfl) ?_
  refine lv_aload_n hx hb dL_law_875 rfl (lv_at hl 0 rfl) ?_
  refine lv_iload_n hx hb dL_law_876 rfl (lv_at hl 3 rfl) ?_
  refine lv_iconst (v := 1) hx hb dL_law_877 (by decide) ?_
  refine lv_iadd hx hb dL_law_878 ?_
  refine lv_topi (fun y_1 ey_1 => ?_)
  obtain rfl : y_1 = nI (i + 1) := ey_1.trans (z_iaddn i 1 rfl rfl)
  refine va_sld hx hb hX hbl hbA G.2.2.2.1 (vp_in_nI (by omega) (by omega)) dL_law_879 ?_
  refine lv_topi (fun v_2 ev_2 => ?_)
  rw [nI_clamp (by omega)] at ev_2
  have ev_2 : v_2 = xs (i + 1) := ev_2
  subst ev_2
  refine lv_aload_n hx hb dL_law_880 rfl (lv_at hl 0 rfl) ?_
  refine lv_iload_n hx hb dL_law_881 rfl (lv_at hl 3 rfl) ?_
  refine lv_iconst (v := 2) hx hb dL_law_882 (by decide) ?_
  refine lv_iadd hx hb dL_law_883 ?_
  refine lv_topi (fun y_3 ey_3 => ?_)
  obtain rfl : y_3 = nI (i + 2) := ey_3.trans (z_iaddn i 2 rfl rfl)
  refine va_sld hx hb hX hbl hbA G.2.2.2.1 (vp_in_nI (by omega) (by omega)) dL_law_884 ?_
  refine lv_topi (fun v_4 ev_4 => ?_)
  rw [nI_clamp (by omega)] at ev_4
  have ev_4 : v_4 = xs (i + 2) := ev_4
  subst ev_4
  refine lv_aload_n hx hb dL_law_885 rfl (lv_at hl 0 rfl) ?_
  refine lv_iload_n hx hb dL_law_886 rfl (lv_at hl 3 rfl) ?_
  refine lv_iconst (v := 3) hx hb dL_law_887 (by decide) ?_
  refine lv_iadd hx hb dL_law_888 ?_
  refine lv_topi (fun y_5 ey_5 => ?_)
  obtain rfl : y_5 = nI (i + 3) := ey_5.trans (z_iaddn i 3 rfl rfl)
  refine va_sld hx hb hX hbl hbA G.2.2.2.1 (vp_in_nI (by omega) (by omega)) dL_law_889 ?_
  refine lv_topi (fun v_6 ev_6 => ?_)
  rw [nI_clamp (by omega)] at ev_6
  have ev_6 : v_6 = xs (i + 3) := ev_6
  subst ev_6
  refine lv_aload_n hx hb dL_law_890 rfl (lv_at hl 0 rfl) ?_
  refine lv_iload_n hx hb dL_law_891 rfl (lv_at hl 3 rfl) ?_
  refine lv_iconst (v := 4) hx hb dL_law_892 (by decide) ?_
  refine lv_iadd hx hb dL_law_893 ?_
  refine lv_topi (fun y_7 ey_7 => ?_)
  obtain rfl : y_7 = nI (i + 4) := ey_7.trans (z_iaddn i 4 rfl rfl)
  refine va_sld hx hb hX hbl hbA G.2.2.2.1 (vp_in_nI (by omega) (by omega)) dL_law_894 ?_
  refine lv_topi (fun v_8 ev_8 => ?_)
  rw [nI_clamp (by omega)] at ev_8
  have ev_8 : v_8 = xs (i + 4) := ev_8
  subst ev_8
  refine lv_if_eq (tgt := 902) hx hb dL_law_895 (by decide) (fun c_9 => ?_) (fun c_9 => ?_)
  · have c_9n : (xs (i + 4)).toInt = (0 : Int) := (fa_eq _ _).mp c_9
    refine lv_iconst (v := 0) hx hb dL_law_902 (by decide) ?_
    obtain ⟨v_10, v_11, v_12, v_13, h_14, h_15⟩ := H_wt
    have h_15 : zKT v_13 := h_15
    obtain ⟨v_16, v_17, v_18, v_19, v_20, v_21, h_22, h_23⟩ := H_z0_
    have h_23 : zLI v_16 v_18 v_20 := h_23
    obtain ⟨v_24, v_25, v_26, v_27, v_28, v_29, h_30, h_31⟩ := H_z1_
    have h_31 : zLI v_24 v_26 v_28 := h_31
    obtain ⟨v_32, v_33, v_34, v_35, v_36, v_37, v_38, v_39, v_40, h_41, h_42, h_43, h_44⟩ := H_wwA
    have h_42 : zPw n4A := h_42
    have h_43 : (mdA = 0 ∨ v_32 = l0) := h_43
    have h_44 : (0 ≤ v_33.toInt ∧ v_33.toInt ≤ 16384) := h_44
    obtain ⟨v_45, v_46, v_47, v_48, v_49, v_50, v_51, v_52, v_53, h_54, h_55, h_56, h_57⟩ := H_wwB
    have h_55 : zPw n4B := h_55
    have h_56 : (mdB = 0 ∨ v_45 = l1) := h_56
    have h_57 : (0 ≤ v_46.toInt ∧ v_46.toInt ≤ 16384) := h_57
    have hq0m := zNA_mono (c := ((xs (i + 1)).toInt = 0 ∧ 0 < (v_13 0).toInt ∧ 0 ≤ (xs (i + 2)).toInt ∧ (xs (i + 2)).toInt < v_16.toInt ∧ (xs (i + 2)).toInt < 7 ∧ 0 ≤ (xs (i + 3)).toInt ∧ (xs (i + 3)).toInt ≤ 3)) (md := mdA) (cr := v_16) (inn := v_17) (k1 := v_18) h_42
    have hq0l := zPw_le (zNA_ge (c := ((xs (i + 1)).toInt = 0 ∧ 0 < (v_13 0).toInt ∧ 0 ≤ (xs (i + 2)).toInt ∧ (xs (i + 2)).toInt < v_16.toInt ∧ (xs (i + 2)).toInt < 7 ∧ 0 ≤ (xs (i + 3)).toInt ∧ (xs (i + 3)).toInt ≤ 3)) (md := mdA) (pl := (zPl v_16 v_17 v_18)) h_42)
    have hq2m := zNA_mono (c := ((xs (i + 1)).toInt = 1 ∧ 1 < (v_13 0).toInt ∧ 0 ≤ (xs (i + 2)).toInt ∧ (xs (i + 2)).toInt < v_24.toInt ∧ (xs (i + 2)).toInt < 7 ∧ 0 ≤ (xs (i + 3)).toInt ∧ (xs (i + 3)).toInt ≤ 3)) (md := mdB) (cr := v_24) (inn := v_25) (k1 := v_26) h_55
    have hq2l := zPw_le (zNA_ge (c := ((xs (i + 1)).toInt = 1 ∧ 1 < (v_13 0).toInt ∧ 0 ≤ (xs (i + 2)).toInt ∧ (xs (i + 2)).toInt < v_24.toInt ∧ (xs (i + 2)).toInt < 7 ∧ 0 ≤ (xs (i + 3)).toInt ∧ (xs (i + 3)).toInt ≤ 3)) (md := mdB) (pl := (zPl v_24 v_25 v_26)) h_55)
    refine z_Vi (bc := [[(xo, .inr (10, [.ref t, .ref im, .ref mk, .ref rd, .ref po, .ref co, .ref tr, .ref wa, .ref wb_, .ref fi, .ref cd]))], wt, z0_, z1_, wwA, wwB]) (br := [wd0_, wd1_, wg0_, wg1_, [(rd, .inr (7, [.ref rl, .ref rdd, .ref rg, .int r0, .int r1, .ref tq, .int r2, .int r3, .int r4, .int r5, .int r6, .int r7, .int r8]))], z, wd, wg, wff, wc, wcp, wr, wrp, wp, [(cd, .inl (T.2 0, 1000, .inl fcd))], wta, z0_a, z1_a, wd0_a, wd1_a, wg0_a, wg1_a, wtb, z0_b, z1_b, wd0_b, wd1_b, wg0_b, wg1_b, wtc, z0_c, z1_c, wd0_c, wd1_c, wg0_c, wg1_c, [(im, .inl (T.2 6, 3, .inr (.inr (.inr (.inr qi)))))], [(mk, .inl (T.2 2, 3, .inl fmk))], [(mo, .inr (11, [.ref m_all, .ref m_has, .int i_size, .int i_next, .int i_where, .int i_token, .int i_number, .int i_word, .int i_wrong, .int i_farCrossing, .ref m_read, .int i_z0, .int i_crossings, .int i_inns, .ref m_posts, .ref m_shut, .ref m_here, .int i_steps, .int i_done, .int i_at, .int i_gone, .ref m_was, .ref m_came, .ref m_seenAt, .ref m_rowWorth, .ref m_farBy, .ref m_used, .int i_everywhere, .int i_again0, .int i_d0, .int i_never, .int i_firstCame, .int i_longRun, .int i_moved, .int i_crowd, .int i_l0, .int i_fitMany, .int i_fitLeast, .int i_fitMost, .ref m_fitPost, .ref m_fitEnd, .ref m_keptPosts, .int i_x0]))], [(m_all, .inl (T.2 0, 3952, .inl f_all))], [(m_has, .inl (T.2 2, 3, .inl f_has))], [(m_read, .inl (T.2 0, 121, .inl f_read))], [(m_posts, .inl (T.2 0, 7, .inl f_posts))], [(m_shut, .inl (T.2 0, 7, .inl f_shut))], [(m_here, .inl (T.2 0, 7, .inl f_here))], [(m_was, .inl (T.2 0, 7, .inl f_was))], [(m_came, .inl (T.2 0, 7, .inl f_came))], [(m_seenAt, .inl (T.2 0, 16384, .inl f_seenAt))], [(m_rowWorth, .inl (T.2 0, 512, .inl f_rowWorth))], [(m_farBy, .inl (T.2 0, 49, .inl f_farBy))], [(m_used, .inl (T.2 0, 7, .inl f_used))], [(m_fitPost, .inl (T.2 0, 28, .inl f_fitPost))], [(m_fitEnd, .inl (T.2 0, 49, .inl f_fitEnd))], [(m_keptPosts, .inl (T.2 0, 7, .inl f_keptPosts))]]) (As := [.int (xs (i + 1)), .int (xs (i + 2)), .int (xs (i + 3)), .int 0]) (rest := []) C G (c_game l T xo t im mk rd po co tr wa wb_ fi cd l0 l1 d0 d1 g0 g1 ln v_10 v_11 v_12 v_13 wt v_16 v_17 v_18 v_19 v_20 v_21 z0_ v_24 v_25 v_26 v_27 v_28 v_29 z1_ v_32 mdA v_33 v_34 v_35 v_36 v_37 v_38 v_39 v_40 n4A wwA v_45 mdB v_46 v_47 v_48 v_49 v_50 v_51 v_52 v_53 n4B wwB (xs (i + 1)) (xs (i + 2)) (xs (i + 3)) 0 h_14 (by first | assumption | omega | rfl) h_22 (by first | assumption | omega | rfl) h_30 (by first | assumption | omega | rfl) h_41 (by first | assumption | omega | rfl) (by first | assumption | omega | rfl) (by first | assumption | omega | rfl) h_54 (by first | assumption | omega | rfl) (by first | assumption | omega | rfl) (by first | assumption | omega | rfl)) (kV_RL_84 C.2.2.2.2 (Nat.le_of_ble_eq_true rfl) (Nat.le_of_ble_eq_true rfl)) [0, 1, 2, 3, 12, 13] [4, 5, 6, 7, 8, 9, 10, 11, 14, 15, 16, 17, 18, 19, 20, 21, 22, 23, 24, 25, 26, 27, 28, 29, 30, 31, 32, 33, 34, 35, 36, 37, 38, 39, 40, 41, 42, 43, 44, 45, 46, 47, 48, 49, 50, 51, 52, 53, 54, 55, 56, 57, 58, 59] rfl rfl (ci := 10) (qc := (RX11, TX11, 11)) rfl rfl (List.mem_flatten.mpr ⟨_, List.mem_of_getElem? (i := 0) rfl, List.mem_cons_self⟩) rfl rfl hl.1 dL_law_903 (by show _ + 3 ≤ 600000; omega) (by show _ + (6 * (zNA ((xs (i + 1)).toInt = 0 ∧ 0 < (v_13 0).toInt ∧ 0 ≤ (xs (i + 2)).toInt ∧ (xs (i + 2)).toInt < v_16.toInt ∧ (xs (i + 2)).toInt < 7 ∧ 0 ≤ (xs (i + 3)).toInt ∧ (xs (i + 3)).toInt ≤ 3) mdA n4A (zPl v_16 v_17 v_18) - n4A) + 6 * (zNA ((xs (i + 1)).toInt = 1 ∧ 1 < (v_13 0).toInt ∧ 0 ≤ (xs (i + 2)).toInt ∧ (xs (i + 2)).toInt < v_24.toInt ∧ (xs (i + 2)).toInt < 7 ∧ 0 ≤ (xs (i + 3)).toInt ∧ (xs (i + 3)).toInt ≤ 3) mdB n4B (zPl v_24 v_25 v_26) - n4B)) ≤ 7302250; omega) (fun r_94 b1 H locs hw G => ?_)
    obtain ⟨laA_58, mdA_59, wyA_60, pc_A_61, f1A_62, f2A_63, f3A_64, f4A_65, f5A_66, f6A_67, n4A_68, wwA_69, laB_70, mdB_71, wyB_72, pc_B_73, f1B_74, f2B_75, f3B_76, f4B_77, f5B_78, f6B_79, n4B_80, wwB_81, rfl, h_82, h_83, h_84, h_85, h_86, h_87, h_88, h_89, h_90, h_91, h_92, h_93⟩ := hw
    have G : zS T A s.heap s [wd0_, wd1_, wg0_, wg1_, [(rd, .inr (7, [.ref rl, .ref rdd, .ref rg, .int r0, .int r1, .ref tq, .int r2, .int r3, .int r4, .int r5, .int r6, .int r7, .int r8]))], z, wd, wg, wff, wc, wcp, wr, wrp, wp, [(cd, .inl (T.2 0, 1000, .inl fcd))], wta, z0_a, z1_a, wd0_a, wd1_a, wg0_a, wg1_a, wtb, z0_b, z1_b, wd0_b, wd1_b, wg0_b, wg1_b, wtc, z0_c, z1_c, wd0_c, wd1_c, wg0_c, wg1_c, [(im, .inl (T.2 6, 3, .inr (.inr (.inr (.inr qi)))))], [(mk, .inl (T.2 2, 3, .inl fmk))], [(mo, .inr (11, [.ref m_all, .ref m_has, .int i_size, .int i_next, .int i_where, .int i_token, .int i_number, .int i_word, .int i_wrong, .int i_farCrossing, .ref m_read, .int i_z0, .int i_crossings, .int i_inns, .ref m_posts, .ref m_shut, .ref m_here, .int i_steps, .int i_done, .int i_at, .int i_gone, .ref m_was, .ref m_came, .ref m_seenAt, .ref m_rowWorth, .ref m_farBy, .ref m_used, .int i_everywhere, .int i_again0, .int i_d0, .int i_never, .int i_firstCame, .int i_longRun, .int i_moved, .int i_crowd, .int i_l0, .int i_fitMany, .int i_fitLeast, .int i_fitMost, .ref m_fitPost, .ref m_fitEnd, .ref m_keptPosts, .int i_x0]))], [(m_all, .inl (T.2 0, 3952, .inl f_all))], [(m_has, .inl (T.2 2, 3, .inl f_has))], [(m_read, .inl (T.2 0, 121, .inl f_read))], [(m_posts, .inl (T.2 0, 7, .inl f_posts))], [(m_shut, .inl (T.2 0, 7, .inl f_shut))], [(m_here, .inl (T.2 0, 7, .inl f_here))], [(m_was, .inl (T.2 0, 7, .inl f_was))], [(m_came, .inl (T.2 0, 7, .inl f_came))], [(m_seenAt, .inl (T.2 0, 16384, .inl f_seenAt))], [(m_rowWorth, .inl (T.2 0, 512, .inl f_rowWorth))], [(m_farBy, .inl (T.2 0, 49, .inl f_farBy))], [(m_used, .inl (T.2 0, 7, .inl f_used))], [(m_fitPost, .inl (T.2 0, 28, .inl f_fitPost))], [(m_fitEnd, .inl (T.2 0, 49, .inl f_fitEnd))], [(m_keptPosts, .inl (T.2 0, 7, .inl f_keptPosts))], [(xo, .inr (10, [.ref t, .ref im, .ref mk, .ref rd, .ref po, .ref co, .ref tr, .ref wa, .ref wb_, .ref fi, .ref cd]))], wt, z0_, z1_, wwA_69, wwB_81] _ _ := G
    have hFI2 : (¬ e0f = 0 → e1f.toInt = 0 ∧ ¬ mdA_59 = 0 ∨ e1f.toInt = 1 ∧ ¬ mdB_71 = 0) := fun q => (hFI q).elim (fun z => Or.inl ⟨z.1, h_87 z.2⟩) (fun z => Or.inr ⟨z.1, h_93 z.2⟩)
    refine lv_pop hx hb dL_law_906 rfl ?_
    refine lv_aload_n hx hb dL_law_907 rfl (lv_at hl 2 rfl) ?_
    refine lv_aload_n hx hb dL_law_908 rfl (lv_at hl 0 rfl) ?_
    refine lv_iload_n hx hb dL_law_909 rfl (lv_at hl 3 rfl) ?_
    refine lv_iconst (v := 1) hx hb dL_law_910 (by decide) ?_
    refine lv_iadd hx hb dL_law_911 ?_
    refine lv_topi (fun y_95 ey_95 => ?_)
    obtain rfl : y_95 = nI (i + 1) := ey_95.trans (z_iaddn i 1 rfl rfl)
    refine va_sld hx hb hX hbl hbA G.2.2.2.1 (vp_in_nI (by omega) (by omega)) dL_law_912 ?_
    refine lv_topi (fun v_96 ev_96 => ?_)
    rw [nI_clamp (by omega)] at ev_96
    have ev_96 : v_96 = xs (i + 1) := ev_96
    subst ev_96
    refine lv_aload_n hx hb dL_law_913 rfl (lv_at hl 0 rfl) ?_
    refine lv_iload_n hx hb dL_law_914 rfl (lv_at hl 3 rfl) ?_
    refine lv_iconst (v := 2) hx hb dL_law_915 (by decide) ?_
    refine lv_iadd hx hb dL_law_916 ?_
    refine lv_topi (fun y_97 ey_97 => ?_)
    obtain rfl : y_97 = nI (i + 2) := ey_97.trans (z_iaddn i 2 rfl rfl)
    refine va_sld hx hb hX hbl hbA G.2.2.2.1 (vp_in_nI (by omega) (by omega)) dL_law_917 ?_
    refine lv_topi (fun v_98 ev_98 => ?_)
    rw [nI_clamp (by omega)] at ev_98
    have ev_98 : v_98 = xs (i + 2) := ev_98
    subst ev_98
    refine lv_aload_n hx hb dL_law_918 rfl (lv_at hl 0 rfl) ?_
    refine lv_iload_n hx hb dL_law_919 rfl (lv_at hl 3 rfl) ?_
    refine lv_iconst (v := 3) hx hb dL_law_920 (by decide) ?_
    refine lv_iadd hx hb dL_law_921 ?_
    refine lv_topi (fun y_99 ey_99 => ?_)
    obtain rfl : y_99 = nI (i + 3) := ey_99.trans (z_iaddn i 3 rfl rfl)
    refine va_sld hx hb hX hbl hbA G.2.2.2.1 (vp_in_nI (by omega) (by omega)) dL_law_922 ?_
    refine lv_topi (fun v_100 ev_100 => ?_)
    rw [nI_clamp (by omega)] at ev_100
    have ev_100 : v_100 = xs (i + 3) := ev_100
    subst ev_100
    refine lv_aload_n hx hb dL_law_923 rfl (lv_at hl 0 rfl) ?_
    refine lv_iload_n hx hb dL_law_924 rfl (lv_at hl 3 rfl) ?_
    refine lv_iconst (v := 4) hx hb dL_law_925 (by decide) ?_
    refine lv_iadd hx hb dL_law_926 ?_
    refine lv_topi (fun y_101 ey_101 => ?_)
    obtain rfl : y_101 = nI (i + 4) := ey_101.trans (z_iaddn i 4 rfl rfl)
    refine va_sld hx hb hX hbl hbA G.2.2.2.1 (vp_in_nI (by omega) (by omega)) dL_law_927 ?_
    refine lv_topi (fun v_102 ev_102 => ?_)
    rw [nI_clamp (by omega)] at ev_102
    have ev_102 : v_102 = xs (i + 4) := ev_102
    subst ev_102
    refine lv_if_eq (tgt := 935) hx hb dL_law_928 (by decide) (fun _ => ?_) (fun q => absurd c_9 q)
    refine lv_iconst (v := 0) hx hb dL_law_935 (by decide) ?_
    refine z_Vi (bc := [[(mo, .inr (11, [.ref m_all, .ref m_has, .int i_size, .int i_next, .int i_where, .int i_token, .int i_number, .int i_word, .int i_wrong, .int i_farCrossing, .ref m_read, .int i_z0, .int i_crossings, .int i_inns, .ref m_posts, .ref m_shut, .ref m_here, .int i_steps, .int i_done, .int i_at, .int i_gone, .ref m_was, .ref m_came, .ref m_seenAt, .ref m_rowWorth, .ref m_farBy, .ref m_used, .int i_everywhere, .int i_again0, .int i_d0, .int i_never, .int i_firstCame, .int i_longRun, .int i_moved, .int i_crowd, .int i_l0, .int i_fitMany, .int i_fitLeast, .int i_fitMost, .ref m_fitPost, .ref m_fitEnd, .ref m_keptPosts, .int i_x0]))], [(m_all, .inl (T.2 0, 3952, .inl f_all))], [(m_posts, .inl (T.2 0, 7, .inl f_posts))], [(m_shut, .inl (T.2 0, 7, .inl f_shut))], [(m_here, .inl (T.2 0, 7, .inl f_here))], [(m_was, .inl (T.2 0, 7, .inl f_was))], [(m_rowWorth, .inl (T.2 0, 512, .inl f_rowWorth))]]) (br := [wd0_, wd1_, wg0_, wg1_, [(rd, .inr (7, [.ref rl, .ref rdd, .ref rg, .int r0, .int r1, .ref tq, .int r2, .int r3, .int r4, .int r5, .int r6, .int r7, .int r8]))], z, wd, wg, wff, wc, wcp, wr, wrp, wp, [(cd, .inl (T.2 0, 1000, .inl fcd))], wta, z0_a, z1_a, wd0_a, wd1_a, wg0_a, wg1_a, wtb, z0_b, z1_b, wd0_b, wd1_b, wg0_b, wg1_b, wtc, z0_c, z1_c, wd0_c, wd1_c, wg0_c, wg1_c, [(im, .inl (T.2 6, 3, .inr (.inr (.inr (.inr qi)))))], [(mk, .inl (T.2 2, 3, .inl fmk))], [(m_has, .inl (T.2 2, 3, .inl f_has))], [(m_read, .inl (T.2 0, 121, .inl f_read))], [(m_came, .inl (T.2 0, 7, .inl f_came))], [(m_seenAt, .inl (T.2 0, 16384, .inl f_seenAt))], [(m_farBy, .inl (T.2 0, 49, .inl f_farBy))], [(m_used, .inl (T.2 0, 7, .inl f_used))], [(m_fitPost, .inl (T.2 0, 28, .inl f_fitPost))], [(m_fitEnd, .inl (T.2 0, 49, .inl f_fitEnd))], [(m_keptPosts, .inl (T.2 0, 7, .inl f_keptPosts))], [(xo, .inr (10, [.ref t, .ref im, .ref mk, .ref rd, .ref po, .ref co, .ref tr, .ref wa, .ref wb_, .ref fi, .ref cd]))], wt, z0_, z1_, wwA_69, wwB_81]) (As := [.int (xs (i + 1)), .int (xs (i + 2)), .int (xs (i + 3)), .int 0]) (rest := []) C G (c_m_game l T mo m_all m_has i_size i_next i_where i_token i_number i_word i_wrong i_farCrossing m_read i_z0 i_crossings i_inns m_posts m_shut m_here i_steps i_done i_at i_gone m_was m_came m_seenAt m_rowWorth m_farBy m_used i_everywhere i_again0 i_d0 i_never i_firstCame i_longRun i_moved i_crowd i_l0 i_fitMany i_fitLeast i_fitMost m_fitPost m_fitEnd m_keptPosts i_x0 f_all f_posts f_shut f_here f_was f_rowWorth (xs (i + 1)) (xs (i + 2)) (xs (i + 3)) 0 (by first | assumption | omega | rfl)) (kV_RL_87 C.2.2.2.2 (Nat.le_of_ble_eq_true rfl) (Nat.le_of_ble_eq_true rfl)) [38, 39, 42, 43, 44, 45, 48] [0, 1, 2, 3, 4, 5, 6, 7, 8, 9, 10, 11, 12, 13, 14, 15, 16, 17, 18, 19, 20, 21, 22, 23, 24, 25, 26, 27, 28, 29, 30, 31, 32, 33, 34, 35, 36, 37, 40, 41, 46, 47, 49, 50, 51, 52, 53, 54, 55, 56, 57, 58, 59] rfl rfl (ci := 11) (qc := (RX12, TX12, 43)) rfl rfl (List.mem_flatten.mpr ⟨_, List.mem_of_getElem? (i := 0) rfl, List.mem_cons_self⟩) rfl rfl hl.1 dL_law_936 (by show _ + 0 ≤ 600000; omega) (by show _ + 0 ≤ 7302250; omega) (fun r_115 b1 H locs hw G => ?_)
    obtain ⟨j_z0_103, j_crossings_104, j_inns_105, j_steps_106, j_done_107, j_at_108, j_gone_109, g_posts_110, g_shut_111, g_here_112, g_was_113, g_rowWorth_114, rfl⟩ := hw
    have G : zS T A s.heap s [wd0_, wd1_, wg0_, wg1_, [(rd, .inr (7, [.ref rl, .ref rdd, .ref rg, .int r0, .int r1, .ref tq, .int r2, .int r3, .int r4, .int r5, .int r6, .int r7, .int r8]))], z, wd, wg, wff, wc, wcp, wr, wrp, wp, [(cd, .inl (T.2 0, 1000, .inl fcd))], wta, z0_a, z1_a, wd0_a, wd1_a, wg0_a, wg1_a, wtb, z0_b, z1_b, wd0_b, wd1_b, wg0_b, wg1_b, wtc, z0_c, z1_c, wd0_c, wd1_c, wg0_c, wg1_c, [(im, .inl (T.2 6, 3, .inr (.inr (.inr (.inr qi)))))], [(mk, .inl (T.2 2, 3, .inl fmk))], [(m_has, .inl (T.2 2, 3, .inl f_has))], [(m_read, .inl (T.2 0, 121, .inl f_read))], [(m_came, .inl (T.2 0, 7, .inl f_came))], [(m_seenAt, .inl (T.2 0, 16384, .inl f_seenAt))], [(m_farBy, .inl (T.2 0, 49, .inl f_farBy))], [(m_used, .inl (T.2 0, 7, .inl f_used))], [(m_fitPost, .inl (T.2 0, 28, .inl f_fitPost))], [(m_fitEnd, .inl (T.2 0, 49, .inl f_fitEnd))], [(m_keptPosts, .inl (T.2 0, 7, .inl f_keptPosts))], [(xo, .inr (10, [.ref t, .ref im, .ref mk, .ref rd, .ref po, .ref co, .ref tr, .ref wa, .ref wb_, .ref fi, .ref cd]))], wt, z0_, z1_, wwA_69, wwB_81, [(mo, .inr (11, [.ref m_all, .ref m_has, .int i_size, .int i_next, .int i_where, .int i_token, .int i_number, .int i_word, .int i_wrong, .int i_farCrossing, .ref m_read, .int j_z0_103, .int j_crossings_104, .int j_inns_105, .ref m_posts, .ref m_shut, .ref m_here, .int j_steps_106, .int j_done_107, .int j_at_108, .int j_gone_109, .ref m_was, .ref m_came, .ref m_seenAt, .ref m_rowWorth, .ref m_farBy, .ref m_used, .int i_everywhere, .int i_again0, .int i_d0, .int i_never, .int i_firstCame, .int i_longRun, .int i_moved, .int i_crowd, .int i_l0, .int i_fitMany, .int i_fitLeast, .int i_fitMost, .ref m_fitPost, .ref m_fitEnd, .ref m_keptPosts, .int i_x0]))], [(m_all, .inl (T.2 0, 3952, .inl f_all))], [(m_posts, .inl (T.2 0, 7, .inl g_posts_110))], [(m_shut, .inl (T.2 0, 7, .inl g_shut_111))], [(m_here, .inl (T.2 0, 7, .inl g_here_112))], [(m_was, .inl (T.2 0, 7, .inl g_was_113))], [(m_rowWorth, .inl (T.2 0, 512, .inl g_rowWorth_114))]] _ _ := G
    refine lv_pop hx hb dL_law_939 rfl ?_
    refine lv_goto (tgt := 1767) hx hb dL_law_940 (by decide) ?_
    have G := G.sub (bs' := [[(xo, .inr (10, [.ref t, .ref im, .ref mk, .ref rd, .ref po, .ref co, .ref tr, .ref wa, .ref wb_, .ref fi, .ref cd]))], wt, z0_, z1_, wd0_, wd1_, wg0_, wg1_, [(rd, .inr (7, [.ref rl, .ref rdd, .ref rg, .int r0, .int r1, .ref tq, .int r2, .int r3, .int r4, .int r5, .int r6, .int r7, .int r8]))], z, wd, wg, wwA_69, wwB_81, wff, wc, wcp, wr, wrp, wp, [(cd, .inl (T.2 0, 1000, .inl fcd))], wta, z0_a, z1_a, wd0_a, wd1_a, wg0_a, wg1_a, wtb, z0_b, z1_b, wd0_b, wd1_b, wg0_b, wg1_b, wtc, z0_c, z1_c, wd0_c, wd1_c, wg0_c, wg1_c, [(im, .inl (T.2 6, 3, .inr (.inr (.inr (.inr qi)))))], [(mk, .inl (T.2 2, 3, .inl fmk))], [(mo, .inr (11, [.ref m_all, .ref m_has, .int i_size, .int i_next, .int i_where, .int i_token, .int i_number, .int i_word, .int i_wrong, .int i_farCrossing, .ref m_read, .int j_z0_103, .int j_crossings_104, .int j_inns_105, .ref m_posts, .ref m_shut, .ref m_here, .int j_steps_106, .int j_done_107, .int j_at_108, .int j_gone_109, .ref m_was, .ref m_came, .ref m_seenAt, .ref m_rowWorth, .ref m_farBy, .ref m_used, .int i_everywhere, .int i_again0, .int i_d0, .int i_never, .int i_firstCame, .int i_longRun, .int i_moved, .int i_crowd, .int i_l0, .int i_fitMany, .int i_fitLeast, .int i_fitMost, .ref m_fitPost, .ref m_fitEnd, .ref m_keptPosts, .int i_x0]))], [(m_all, .inl (T.2 0, 3952, .inl f_all))], [(m_has, .inl (T.2 2, 3, .inl f_has))], [(m_read, .inl (T.2 0, 121, .inl f_read))], [(m_posts, .inl (T.2 0, 7, .inl g_posts_110))], [(m_shut, .inl (T.2 0, 7, .inl g_shut_111))], [(m_here, .inl (T.2 0, 7, .inl g_here_112))], [(m_was, .inl (T.2 0, 7, .inl g_was_113))], [(m_came, .inl (T.2 0, 7, .inl f_came))], [(m_seenAt, .inl (T.2 0, 16384, .inl f_seenAt))], [(m_rowWorth, .inl (T.2 0, 512, .inl g_rowWorth_114))], [(m_farBy, .inl (T.2 0, 49, .inl f_farBy))], [(m_used, .inl (T.2 0, 7, .inl f_used))], [(m_fitPost, .inl (T.2 0, 28, .inl f_fitPost))], [(m_fitEnd, .inl (T.2 0, 49, .inl f_fitEnd))], [(m_keptPosts, .inl (T.2 0, 7, .inl f_keptPosts))]]) [47, 48, 49, 50, 0, 1, 2, 3, 4, 5, 6, 7, 51, 52, 8, 9, 10, 11, 12, 13, 14, 15, 16, 17, 18, 19, 20, 21, 22, 23, 24, 25, 26, 27, 28, 29, 30, 31, 32, 33, 34, 35, 36, 37, 53, 54, 38, 39, 55, 56, 57, 58, 40, 41, 59, 42, 43, 44, 45, 46] rfl
    refine W.widen (k := 216 + 2 * i + 12) (n := 27000 + 6 * (n4A_68 + n4B_80) + 2 * m1f) (by omega) (by omega) ?_
    exact kk n4A_68 n4B_80 m1f _ ⟨⟨t, im, mk, rd, po, co, tr, wa, wb_, fi, cd, wt, l0, l1, d0, d1, g0, g1, ln, z0_, z1_, wd0_, wd1_, wg0_, wg1_, rl, rdd, rg, r0, r1, tq, r2, r3, r4, r5, r6, r7, r8, z, wd, wg, wwA_69, mdA_59, wwB_81, mdB_71, wff, e0f, e1f, wc, cpo, wcp, wr, tpo, wrp, wp, fcd, m0, wta, l0a, l1a, d0a, d1a, g0a, g1a, lna, z0_a, z1_a, wd0_a, wd1_a, wg0_a, wg1_a, m1, wtb, l0b, l1b, d0b, d1b, g0b, g1b, lnb, z0_b, z1_b, wd0_b, wd1_b, wg0_b, wg1_b, m2, wtc, l0c, l1c, d0c, d1c, g0c, g1c, lnc, z0_c, z1_c, wd0_c, wd1_c, wg0_c, wg1_c, qi, fmk, m_all, m_has, i_size, i_next, i_where, i_token, i_number, i_word, i_wrong, i_farCrossing, m_read, j_z0_103, j_crossings_104, j_inns_105, m_posts, m_shut, m_here, j_steps_106, j_done_107, j_at_108, j_gone_109, m_was, m_came, m_seenAt, m_rowWorth, m_farBy, m_used, i_everywhere, i_again0, i_d0, i_never, i_firstCame, i_longRun, i_moved, i_crowd, i_l0, i_fitMany, i_fitLeast, i_fitMost, m_fitPost, m_fitEnd, m_keptPosts, i_x0, f_all, f_has, f_read, g_posts_110, g_shut_111, g_here_112, g_was_113, f_came, f_seenAt, g_rowWorth_114, f_farBy, f_used, f_fitPost, f_fitEnd, f_keptPosts⟩, rfl, ⟨v_10, v_11, v_12, v_13, h_14, (by first | assumption | omega)⟩, ⟨v_16, v_17, v_18, v_19, v_20, v_21, h_22, (by first | assumption | omega)⟩, ⟨v_24, v_25, v_26, v_27, v_28, v_29, h_30, (by first | assumption | omega)⟩, H_wd0_, H_wd1_, H_wg0_, H_wg1_, H_z, H_wd, H_wg, ⟨laA_58, wyA_60, pc_A_61, f1A_62, f2A_63, f3A_64, f4A_65, f5A_66, f6A_67, h_82, (by first | assumption | omega), (by first | assumption | omega), (by first | assumption | omega)⟩, ⟨laB_70, wyB_72, pc_B_73, f1B_74, f2B_75, f3B_76, f4B_77, f5B_78, f6B_79, h_88, (by first | assumption | omega), (by first | assumption | omega), (by first | assumption | omega)⟩, H_wff, H_wc, H_wcp, H_wr, H_wrp, H_wp, H_wta, H_z0_a, H_z1_a, H_wd0_a, H_wd1_a, H_wg0_a, H_wg1_a, H_wtb, H_z0_b, H_z1_b, H_wd0_b, H_wd1_b, H_wg0_b, H_wg1_b, H_wtc, H_z0_c, H_z1_c, H_wd0_c, H_wd1_c, H_wg0_c, H_wg1_c, (by first | assumption | omega), (by first | assumption | omega), (by first | assumption | omega), (by first | assumption | omega), (by first | assumption | omega), (by first | assumption | omega), (by first | assumption | omega), (by first | assumption | omega)⟩ _ _ ls G (lv_sub hl [0, 1, 2, 3] rfl)
  · have c_9n : ¬ (xs (i + 4)).toInt = (0 : Int) := fun q => c_9 ((fa_eq _ _).mpr q)
    refine lv_iconst (v := 1) hx hb dL_law_898 (by decide) ?_
    refine lv_goto (tgt := 903) hx hb dL_law_899 (by decide) ?_
    obtain ⟨v_116, v_117, v_118, v_119, h_120, h_121⟩ := H_wt
    have h_121 : zKT v_119 := h_121
    obtain ⟨v_122, v_123, v_124, v_125, v_126, v_127, h_128, h_129⟩ := H_z0_
    have h_129 : zLI v_122 v_124 v_126 := h_129
    obtain ⟨v_130, v_131, v_132, v_133, v_134, v_135, h_136, h_137⟩ := H_z1_
    have h_137 : zLI v_130 v_132 v_134 := h_137
    obtain ⟨v_138, v_139, v_140, v_141, v_142, v_143, v_144, v_145, v_146, h_147, h_148, h_149, h_150⟩ := H_wwA
    have h_148 : zPw n4A := h_148
    have h_149 : (mdA = 0 ∨ v_138 = l0) := h_149
    have h_150 : (0 ≤ v_139.toInt ∧ v_139.toInt ≤ 16384) := h_150
    obtain ⟨v_151, v_152, v_153, v_154, v_155, v_156, v_157, v_158, v_159, h_160, h_161, h_162, h_163⟩ := H_wwB
    have h_161 : zPw n4B := h_161
    have h_162 : (mdB = 0 ∨ v_151 = l1) := h_162
    have h_163 : (0 ≤ v_152.toInt ∧ v_152.toInt ≤ 16384) := h_163
    have hq0m := zNA_mono (c := ((xs (i + 1)).toInt = 0 ∧ 0 < (v_119 0).toInt ∧ 0 ≤ (xs (i + 2)).toInt ∧ (xs (i + 2)).toInt < v_122.toInt ∧ (xs (i + 2)).toInt < 7 ∧ 0 ≤ (xs (i + 3)).toInt ∧ (xs (i + 3)).toInt ≤ 3)) (md := mdA) (cr := v_122) (inn := v_123) (k1 := v_124) h_148
    have hq0l := zPw_le (zNA_ge (c := ((xs (i + 1)).toInt = 0 ∧ 0 < (v_119 0).toInt ∧ 0 ≤ (xs (i + 2)).toInt ∧ (xs (i + 2)).toInt < v_122.toInt ∧ (xs (i + 2)).toInt < 7 ∧ 0 ≤ (xs (i + 3)).toInt ∧ (xs (i + 3)).toInt ≤ 3)) (md := mdA) (pl := (zPl v_122 v_123 v_124)) h_148)
    have hq2m := zNA_mono (c := ((xs (i + 1)).toInt = 1 ∧ 1 < (v_119 0).toInt ∧ 0 ≤ (xs (i + 2)).toInt ∧ (xs (i + 2)).toInt < v_130.toInt ∧ (xs (i + 2)).toInt < 7 ∧ 0 ≤ (xs (i + 3)).toInt ∧ (xs (i + 3)).toInt ≤ 3)) (md := mdB) (cr := v_130) (inn := v_131) (k1 := v_132) h_161
    have hq2l := zPw_le (zNA_ge (c := ((xs (i + 1)).toInt = 1 ∧ 1 < (v_119 0).toInt ∧ 0 ≤ (xs (i + 2)).toInt ∧ (xs (i + 2)).toInt < v_130.toInt ∧ (xs (i + 2)).toInt < 7 ∧ 0 ≤ (xs (i + 3)).toInt ∧ (xs (i + 3)).toInt ≤ 3)) (md := mdB) (pl := (zPl v_130 v_131 v_132)) h_161)
    refine z_Vi (bc := [[(xo, .inr (10, [.ref t, .ref im, .ref mk, .ref rd, .ref po, .ref co, .ref tr, .ref wa, .ref wb_, .ref fi, .ref cd]))], wt, z0_, z1_, wwA, wwB]) (br := [wd0_, wd1_, wg0_, wg1_, [(rd, .inr (7, [.ref rl, .ref rdd, .ref rg, .int r0, .int r1, .ref tq, .int r2, .int r3, .int r4, .int r5, .int r6, .int r7, .int r8]))], z, wd, wg, wff, wc, wcp, wr, wrp, wp, [(cd, .inl (T.2 0, 1000, .inl fcd))], wta, z0_a, z1_a, wd0_a, wd1_a, wg0_a, wg1_a, wtb, z0_b, z1_b, wd0_b, wd1_b, wg0_b, wg1_b, wtc, z0_c, z1_c, wd0_c, wd1_c, wg0_c, wg1_c, [(im, .inl (T.2 6, 3, .inr (.inr (.inr (.inr qi)))))], [(mk, .inl (T.2 2, 3, .inl fmk))], [(mo, .inr (11, [.ref m_all, .ref m_has, .int i_size, .int i_next, .int i_where, .int i_token, .int i_number, .int i_word, .int i_wrong, .int i_farCrossing, .ref m_read, .int i_z0, .int i_crossings, .int i_inns, .ref m_posts, .ref m_shut, .ref m_here, .int i_steps, .int i_done, .int i_at, .int i_gone, .ref m_was, .ref m_came, .ref m_seenAt, .ref m_rowWorth, .ref m_farBy, .ref m_used, .int i_everywhere, .int i_again0, .int i_d0, .int i_never, .int i_firstCame, .int i_longRun, .int i_moved, .int i_crowd, .int i_l0, .int i_fitMany, .int i_fitLeast, .int i_fitMost, .ref m_fitPost, .ref m_fitEnd, .ref m_keptPosts, .int i_x0]))], [(m_all, .inl (T.2 0, 3952, .inl f_all))], [(m_has, .inl (T.2 2, 3, .inl f_has))], [(m_read, .inl (T.2 0, 121, .inl f_read))], [(m_posts, .inl (T.2 0, 7, .inl f_posts))], [(m_shut, .inl (T.2 0, 7, .inl f_shut))], [(m_here, .inl (T.2 0, 7, .inl f_here))], [(m_was, .inl (T.2 0, 7, .inl f_was))], [(m_came, .inl (T.2 0, 7, .inl f_came))], [(m_seenAt, .inl (T.2 0, 16384, .inl f_seenAt))], [(m_rowWorth, .inl (T.2 0, 512, .inl f_rowWorth))], [(m_farBy, .inl (T.2 0, 49, .inl f_farBy))], [(m_used, .inl (T.2 0, 7, .inl f_used))], [(m_fitPost, .inl (T.2 0, 28, .inl f_fitPost))], [(m_fitEnd, .inl (T.2 0, 49, .inl f_fitEnd))], [(m_keptPosts, .inl (T.2 0, 7, .inl f_keptPosts))]]) (As := [.int (xs (i + 1)), .int (xs (i + 2)), .int (xs (i + 3)), .int 1]) (rest := []) C G (c_game l T xo t im mk rd po co tr wa wb_ fi cd l0 l1 d0 d1 g0 g1 ln v_116 v_117 v_118 v_119 wt v_122 v_123 v_124 v_125 v_126 v_127 z0_ v_130 v_131 v_132 v_133 v_134 v_135 z1_ v_138 mdA v_139 v_140 v_141 v_142 v_143 v_144 v_145 v_146 n4A wwA v_151 mdB v_152 v_153 v_154 v_155 v_156 v_157 v_158 v_159 n4B wwB (xs (i + 1)) (xs (i + 2)) (xs (i + 3)) 1 h_120 (by first | assumption | omega | rfl) h_128 (by first | assumption | omega | rfl) h_136 (by first | assumption | omega | rfl) h_147 (by first | assumption | omega | rfl) (by first | assumption | omega | rfl) (by first | assumption | omega | rfl) h_160 (by first | assumption | omega | rfl) (by first | assumption | omega | rfl) (by first | assumption | omega | rfl)) (kV_RL_84 C.2.2.2.2 (Nat.le_of_ble_eq_true rfl) (Nat.le_of_ble_eq_true rfl)) [0, 1, 2, 3, 12, 13] [4, 5, 6, 7, 8, 9, 10, 11, 14, 15, 16, 17, 18, 19, 20, 21, 22, 23, 24, 25, 26, 27, 28, 29, 30, 31, 32, 33, 34, 35, 36, 37, 38, 39, 40, 41, 42, 43, 44, 45, 46, 47, 48, 49, 50, 51, 52, 53, 54, 55, 56, 57, 58, 59] rfl rfl (ci := 10) (qc := (RX11, TX11, 11)) rfl rfl (List.mem_flatten.mpr ⟨_, List.mem_of_getElem? (i := 0) rfl, List.mem_cons_self⟩) rfl rfl hl.1 dL_law_903 (by show _ + 3 ≤ 600000; omega) (by show _ + (6 * (zNA ((xs (i + 1)).toInt = 0 ∧ 0 < (v_119 0).toInt ∧ 0 ≤ (xs (i + 2)).toInt ∧ (xs (i + 2)).toInt < v_122.toInt ∧ (xs (i + 2)).toInt < 7 ∧ 0 ≤ (xs (i + 3)).toInt ∧ (xs (i + 3)).toInt ≤ 3) mdA n4A (zPl v_122 v_123 v_124) - n4A) + 6 * (zNA ((xs (i + 1)).toInt = 1 ∧ 1 < (v_119 0).toInt ∧ 0 ≤ (xs (i + 2)).toInt ∧ (xs (i + 2)).toInt < v_130.toInt ∧ (xs (i + 2)).toInt < 7 ∧ 0 ≤ (xs (i + 3)).toInt ∧ (xs (i + 3)).toInt ≤ 3) mdB n4B (zPl v_130 v_131 v_132) - n4B)) ≤ 7302250; omega) (fun r_200 b1 H locs hw G => ?_)
    obtain ⟨laA_164, mdA_165, wyA_166, pc_A_167, f1A_168, f2A_169, f3A_170, f4A_171, f5A_172, f6A_173, n4A_174, wwA_175, laB_176, mdB_177, wyB_178, pc_B_179, f1B_180, f2B_181, f3B_182, f4B_183, f5B_184, f6B_185, n4B_186, wwB_187, rfl, h_188, h_189, h_190, h_191, h_192, h_193, h_194, h_195, h_196, h_197, h_198, h_199⟩ := hw
    have G : zS T A s.heap s [wd0_, wd1_, wg0_, wg1_, [(rd, .inr (7, [.ref rl, .ref rdd, .ref rg, .int r0, .int r1, .ref tq, .int r2, .int r3, .int r4, .int r5, .int r6, .int r7, .int r8]))], z, wd, wg, wff, wc, wcp, wr, wrp, wp, [(cd, .inl (T.2 0, 1000, .inl fcd))], wta, z0_a, z1_a, wd0_a, wd1_a, wg0_a, wg1_a, wtb, z0_b, z1_b, wd0_b, wd1_b, wg0_b, wg1_b, wtc, z0_c, z1_c, wd0_c, wd1_c, wg0_c, wg1_c, [(im, .inl (T.2 6, 3, .inr (.inr (.inr (.inr qi)))))], [(mk, .inl (T.2 2, 3, .inl fmk))], [(mo, .inr (11, [.ref m_all, .ref m_has, .int i_size, .int i_next, .int i_where, .int i_token, .int i_number, .int i_word, .int i_wrong, .int i_farCrossing, .ref m_read, .int i_z0, .int i_crossings, .int i_inns, .ref m_posts, .ref m_shut, .ref m_here, .int i_steps, .int i_done, .int i_at, .int i_gone, .ref m_was, .ref m_came, .ref m_seenAt, .ref m_rowWorth, .ref m_farBy, .ref m_used, .int i_everywhere, .int i_again0, .int i_d0, .int i_never, .int i_firstCame, .int i_longRun, .int i_moved, .int i_crowd, .int i_l0, .int i_fitMany, .int i_fitLeast, .int i_fitMost, .ref m_fitPost, .ref m_fitEnd, .ref m_keptPosts, .int i_x0]))], [(m_all, .inl (T.2 0, 3952, .inl f_all))], [(m_has, .inl (T.2 2, 3, .inl f_has))], [(m_read, .inl (T.2 0, 121, .inl f_read))], [(m_posts, .inl (T.2 0, 7, .inl f_posts))], [(m_shut, .inl (T.2 0, 7, .inl f_shut))], [(m_here, .inl (T.2 0, 7, .inl f_here))], [(m_was, .inl (T.2 0, 7, .inl f_was))], [(m_came, .inl (T.2 0, 7, .inl f_came))], [(m_seenAt, .inl (T.2 0, 16384, .inl f_seenAt))], [(m_rowWorth, .inl (T.2 0, 512, .inl f_rowWorth))], [(m_farBy, .inl (T.2 0, 49, .inl f_farBy))], [(m_used, .inl (T.2 0, 7, .inl f_used))], [(m_fitPost, .inl (T.2 0, 28, .inl f_fitPost))], [(m_fitEnd, .inl (T.2 0, 49, .inl f_fitEnd))], [(m_keptPosts, .inl (T.2 0, 7, .inl f_keptPosts))], [(xo, .inr (10, [.ref t, .ref im, .ref mk, .ref rd, .ref po, .ref co, .ref tr, .ref wa, .ref wb_, .ref fi, .ref cd]))], wt, z0_, z1_, wwA_175, wwB_187] _ _ := G
    have hFI2 : (¬ e0f = 0 → e1f.toInt = 0 ∧ ¬ mdA_165 = 0 ∨ e1f.toInt = 1 ∧ ¬ mdB_177 = 0) := fun q => (hFI q).elim (fun z => Or.inl ⟨z.1, h_193 z.2⟩) (fun z => Or.inr ⟨z.1, h_199 z.2⟩)
    refine lv_pop hx hb dL_law_906 rfl ?_
    refine lv_aload_n hx hb dL_law_907 rfl (lv_at hl 2 rfl) ?_
    refine lv_aload_n hx hb dL_law_908 rfl (lv_at hl 0 rfl) ?_
    refine lv_iload_n hx hb dL_law_909 rfl (lv_at hl 3 rfl) ?_
    refine lv_iconst (v := 1) hx hb dL_law_910 (by decide) ?_
    refine lv_iadd hx hb dL_law_911 ?_
    refine lv_topi (fun y_201 ey_201 => ?_)
    obtain rfl : y_201 = nI (i + 1) := ey_201.trans (z_iaddn i 1 rfl rfl)
    refine va_sld hx hb hX hbl hbA G.2.2.2.1 (vp_in_nI (by omega) (by omega)) dL_law_912 ?_
    refine lv_topi (fun v_202 ev_202 => ?_)
    rw [nI_clamp (by omega)] at ev_202
    have ev_202 : v_202 = xs (i + 1) := ev_202
    subst ev_202
    refine lv_aload_n hx hb dL_law_913 rfl (lv_at hl 0 rfl) ?_
    refine lv_iload_n hx hb dL_law_914 rfl (lv_at hl 3 rfl) ?_
    refine lv_iconst (v := 2) hx hb dL_law_915 (by decide) ?_
    refine lv_iadd hx hb dL_law_916 ?_
    refine lv_topi (fun y_203 ey_203 => ?_)
    obtain rfl : y_203 = nI (i + 2) := ey_203.trans (z_iaddn i 2 rfl rfl)
    refine va_sld hx hb hX hbl hbA G.2.2.2.1 (vp_in_nI (by omega) (by omega)) dL_law_917 ?_
    refine lv_topi (fun v_204 ev_204 => ?_)
    rw [nI_clamp (by omega)] at ev_204
    have ev_204 : v_204 = xs (i + 2) := ev_204
    subst ev_204
    refine lv_aload_n hx hb dL_law_918 rfl (lv_at hl 0 rfl) ?_
    refine lv_iload_n hx hb dL_law_919 rfl (lv_at hl 3 rfl) ?_
    refine lv_iconst (v := 3) hx hb dL_law_920 (by decide) ?_
    refine lv_iadd hx hb dL_law_921 ?_
    refine lv_topi (fun y_205 ey_205 => ?_)
    obtain rfl : y_205 = nI (i + 3) := ey_205.trans (z_iaddn i 3 rfl rfl)
    refine va_sld hx hb hX hbl hbA G.2.2.2.1 (vp_in_nI (by omega) (by omega)) dL_law_922 ?_
    refine lv_topi (fun v_206 ev_206 => ?_)
    rw [nI_clamp (by omega)] at ev_206
    have ev_206 : v_206 = xs (i + 3) := ev_206
    subst ev_206
    refine lv_aload_n hx hb dL_law_923 rfl (lv_at hl 0 rfl) ?_
    refine lv_iload_n hx hb dL_law_924 rfl (lv_at hl 3 rfl) ?_
    refine lv_iconst (v := 4) hx hb dL_law_925 (by decide) ?_
    refine lv_iadd hx hb dL_law_926 ?_
    refine lv_topi (fun y_207 ey_207 => ?_)
    obtain rfl : y_207 = nI (i + 4) := ey_207.trans (z_iaddn i 4 rfl rfl)
    refine va_sld hx hb hX hbl hbA G.2.2.2.1 (vp_in_nI (by omega) (by omega)) dL_law_927 ?_
    refine lv_topi (fun v_208 ev_208 => ?_)
    rw [nI_clamp (by omega)] at ev_208
    have ev_208 : v_208 = xs (i + 4) := ev_208
    subst ev_208
    refine lv_if_eq (tgt := 935) hx hb dL_law_928 (by decide) (fun q => absurd q c_9) (fun _ => ?_)
    refine lv_iconst (v := 1) hx hb dL_law_931 (by decide) ?_
    refine lv_goto (tgt := 936) hx hb dL_law_932 (by decide) ?_
    refine z_Vi (bc := [[(mo, .inr (11, [.ref m_all, .ref m_has, .int i_size, .int i_next, .int i_where, .int i_token, .int i_number, .int i_word, .int i_wrong, .int i_farCrossing, .ref m_read, .int i_z0, .int i_crossings, .int i_inns, .ref m_posts, .ref m_shut, .ref m_here, .int i_steps, .int i_done, .int i_at, .int i_gone, .ref m_was, .ref m_came, .ref m_seenAt, .ref m_rowWorth, .ref m_farBy, .ref m_used, .int i_everywhere, .int i_again0, .int i_d0, .int i_never, .int i_firstCame, .int i_longRun, .int i_moved, .int i_crowd, .int i_l0, .int i_fitMany, .int i_fitLeast, .int i_fitMost, .ref m_fitPost, .ref m_fitEnd, .ref m_keptPosts, .int i_x0]))], [(m_all, .inl (T.2 0, 3952, .inl f_all))], [(m_posts, .inl (T.2 0, 7, .inl f_posts))], [(m_shut, .inl (T.2 0, 7, .inl f_shut))], [(m_here, .inl (T.2 0, 7, .inl f_here))], [(m_was, .inl (T.2 0, 7, .inl f_was))], [(m_rowWorth, .inl (T.2 0, 512, .inl f_rowWorth))]]) (br := [wd0_, wd1_, wg0_, wg1_, [(rd, .inr (7, [.ref rl, .ref rdd, .ref rg, .int r0, .int r1, .ref tq, .int r2, .int r3, .int r4, .int r5, .int r6, .int r7, .int r8]))], z, wd, wg, wff, wc, wcp, wr, wrp, wp, [(cd, .inl (T.2 0, 1000, .inl fcd))], wta, z0_a, z1_a, wd0_a, wd1_a, wg0_a, wg1_a, wtb, z0_b, z1_b, wd0_b, wd1_b, wg0_b, wg1_b, wtc, z0_c, z1_c, wd0_c, wd1_c, wg0_c, wg1_c, [(im, .inl (T.2 6, 3, .inr (.inr (.inr (.inr qi)))))], [(mk, .inl (T.2 2, 3, .inl fmk))], [(m_has, .inl (T.2 2, 3, .inl f_has))], [(m_read, .inl (T.2 0, 121, .inl f_read))], [(m_came, .inl (T.2 0, 7, .inl f_came))], [(m_seenAt, .inl (T.2 0, 16384, .inl f_seenAt))], [(m_farBy, .inl (T.2 0, 49, .inl f_farBy))], [(m_used, .inl (T.2 0, 7, .inl f_used))], [(m_fitPost, .inl (T.2 0, 28, .inl f_fitPost))], [(m_fitEnd, .inl (T.2 0, 49, .inl f_fitEnd))], [(m_keptPosts, .inl (T.2 0, 7, .inl f_keptPosts))], [(xo, .inr (10, [.ref t, .ref im, .ref mk, .ref rd, .ref po, .ref co, .ref tr, .ref wa, .ref wb_, .ref fi, .ref cd]))], wt, z0_, z1_, wwA_175, wwB_187]) (As := [.int (xs (i + 1)), .int (xs (i + 2)), .int (xs (i + 3)), .int 1]) (rest := []) C G (c_m_game l T mo m_all m_has i_size i_next i_where i_token i_number i_word i_wrong i_farCrossing m_read i_z0 i_crossings i_inns m_posts m_shut m_here i_steps i_done i_at i_gone m_was m_came m_seenAt m_rowWorth m_farBy m_used i_everywhere i_again0 i_d0 i_never i_firstCame i_longRun i_moved i_crowd i_l0 i_fitMany i_fitLeast i_fitMost m_fitPost m_fitEnd m_keptPosts i_x0 f_all f_posts f_shut f_here f_was f_rowWorth (xs (i + 1)) (xs (i + 2)) (xs (i + 3)) 1 (by first | assumption | omega | rfl)) (kV_RL_87 C.2.2.2.2 (Nat.le_of_ble_eq_true rfl) (Nat.le_of_ble_eq_true rfl)) [38, 39, 42, 43, 44, 45, 48] [0, 1, 2, 3, 4, 5, 6, 7, 8, 9, 10, 11, 12, 13, 14, 15, 16, 17, 18, 19, 20, 21, 22, 23, 24, 25, 26, 27, 28, 29, 30, 31, 32, 33, 34, 35, 36, 37, 40, 41, 46, 47, 49, 50, 51, 52, 53, 54, 55, 56, 57, 58, 59] rfl rfl (ci := 11) (qc := (RX12, TX12, 43)) rfl rfl (List.mem_flatten.mpr ⟨_, List.mem_of_getElem? (i := 0) rfl, List.mem_cons_self⟩) rfl rfl hl.1 dL_law_936 (by show _ + 0 ≤ 600000; omega) (by show _ + 0 ≤ 7302250; omega) (fun r_221 b1 H locs hw G => ?_)
    obtain ⟨j_z0_209, j_crossings_210, j_inns_211, j_steps_212, j_done_213, j_at_214, j_gone_215, g_posts_216, g_shut_217, g_here_218, g_was_219, g_rowWorth_220, rfl⟩ := hw
    have G : zS T A s.heap s [wd0_, wd1_, wg0_, wg1_, [(rd, .inr (7, [.ref rl, .ref rdd, .ref rg, .int r0, .int r1, .ref tq, .int r2, .int r3, .int r4, .int r5, .int r6, .int r7, .int r8]))], z, wd, wg, wff, wc, wcp, wr, wrp, wp, [(cd, .inl (T.2 0, 1000, .inl fcd))], wta, z0_a, z1_a, wd0_a, wd1_a, wg0_a, wg1_a, wtb, z0_b, z1_b, wd0_b, wd1_b, wg0_b, wg1_b, wtc, z0_c, z1_c, wd0_c, wd1_c, wg0_c, wg1_c, [(im, .inl (T.2 6, 3, .inr (.inr (.inr (.inr qi)))))], [(mk, .inl (T.2 2, 3, .inl fmk))], [(m_has, .inl (T.2 2, 3, .inl f_has))], [(m_read, .inl (T.2 0, 121, .inl f_read))], [(m_came, .inl (T.2 0, 7, .inl f_came))], [(m_seenAt, .inl (T.2 0, 16384, .inl f_seenAt))], [(m_farBy, .inl (T.2 0, 49, .inl f_farBy))], [(m_used, .inl (T.2 0, 7, .inl f_used))], [(m_fitPost, .inl (T.2 0, 28, .inl f_fitPost))], [(m_fitEnd, .inl (T.2 0, 49, .inl f_fitEnd))], [(m_keptPosts, .inl (T.2 0, 7, .inl f_keptPosts))], [(xo, .inr (10, [.ref t, .ref im, .ref mk, .ref rd, .ref po, .ref co, .ref tr, .ref wa, .ref wb_, .ref fi, .ref cd]))], wt, z0_, z1_, wwA_175, wwB_187, [(mo, .inr (11, [.ref m_all, .ref m_has, .int i_size, .int i_next, .int i_where, .int i_token, .int i_number, .int i_word, .int i_wrong, .int i_farCrossing, .ref m_read, .int j_z0_209, .int j_crossings_210, .int j_inns_211, .ref m_posts, .ref m_shut, .ref m_here, .int j_steps_212, .int j_done_213, .int j_at_214, .int j_gone_215, .ref m_was, .ref m_came, .ref m_seenAt, .ref m_rowWorth, .ref m_farBy, .ref m_used, .int i_everywhere, .int i_again0, .int i_d0, .int i_never, .int i_firstCame, .int i_longRun, .int i_moved, .int i_crowd, .int i_l0, .int i_fitMany, .int i_fitLeast, .int i_fitMost, .ref m_fitPost, .ref m_fitEnd, .ref m_keptPosts, .int i_x0]))], [(m_all, .inl (T.2 0, 3952, .inl f_all))], [(m_posts, .inl (T.2 0, 7, .inl g_posts_216))], [(m_shut, .inl (T.2 0, 7, .inl g_shut_217))], [(m_here, .inl (T.2 0, 7, .inl g_here_218))], [(m_was, .inl (T.2 0, 7, .inl g_was_219))], [(m_rowWorth, .inl (T.2 0, 512, .inl g_rowWorth_220))]] _ _ := G
    refine lv_pop hx hb dL_law_939 rfl ?_
    refine lv_goto (tgt := 1767) hx hb dL_law_940 (by decide) ?_
    have G := G.sub (bs' := [[(xo, .inr (10, [.ref t, .ref im, .ref mk, .ref rd, .ref po, .ref co, .ref tr, .ref wa, .ref wb_, .ref fi, .ref cd]))], wt, z0_, z1_, wd0_, wd1_, wg0_, wg1_, [(rd, .inr (7, [.ref rl, .ref rdd, .ref rg, .int r0, .int r1, .ref tq, .int r2, .int r3, .int r4, .int r5, .int r6, .int r7, .int r8]))], z, wd, wg, wwA_175, wwB_187, wff, wc, wcp, wr, wrp, wp, [(cd, .inl (T.2 0, 1000, .inl fcd))], wta, z0_a, z1_a, wd0_a, wd1_a, wg0_a, wg1_a, wtb, z0_b, z1_b, wd0_b, wd1_b, wg0_b, wg1_b, wtc, z0_c, z1_c, wd0_c, wd1_c, wg0_c, wg1_c, [(im, .inl (T.2 6, 3, .inr (.inr (.inr (.inr qi)))))], [(mk, .inl (T.2 2, 3, .inl fmk))], [(mo, .inr (11, [.ref m_all, .ref m_has, .int i_size, .int i_next, .int i_where, .int i_token, .int i_number, .int i_word, .int i_wrong, .int i_farCrossing, .ref m_read, .int j_z0_209, .int j_crossings_210, .int j_inns_211, .ref m_posts, .ref m_shut, .ref m_here, .int j_steps_212, .int j_done_213, .int j_at_214, .int j_gone_215, .ref m_was, .ref m_came, .ref m_seenAt, .ref m_rowWorth, .ref m_farBy, .ref m_used, .int i_everywhere, .int i_again0, .int i_d0, .int i_never, .int i_firstCame, .int i_longRun, .int i_moved, .int i_crowd, .int i_l0, .int i_fitMany, .int i_fitLeast, .int i_fitMost, .ref m_fitPost, .ref m_fitEnd, .ref m_keptPosts, .int i_x0]))], [(m_all, .inl (T.2 0, 3952, .inl f_all))], [(m_has, .inl (T.2 2, 3, .inl f_has))], [(m_read, .inl (T.2 0, 121, .inl f_read))], [(m_posts, .inl (T.2 0, 7, .inl g_posts_216))], [(m_shut, .inl (T.2 0, 7, .inl g_shut_217))], [(m_here, .inl (T.2 0, 7, .inl g_here_218))], [(m_was, .inl (T.2 0, 7, .inl g_was_219))], [(m_came, .inl (T.2 0, 7, .inl f_came))], [(m_seenAt, .inl (T.2 0, 16384, .inl f_seenAt))], [(m_rowWorth, .inl (T.2 0, 512, .inl g_rowWorth_220))], [(m_farBy, .inl (T.2 0, 49, .inl f_farBy))], [(m_used, .inl (T.2 0, 7, .inl f_used))], [(m_fitPost, .inl (T.2 0, 28, .inl f_fitPost))], [(m_fitEnd, .inl (T.2 0, 49, .inl f_fitEnd))], [(m_keptPosts, .inl (T.2 0, 7, .inl f_keptPosts))]]) [47, 48, 49, 50, 0, 1, 2, 3, 4, 5, 6, 7, 51, 52, 8, 9, 10, 11, 12, 13, 14, 15, 16, 17, 18, 19, 20, 21, 22, 23, 24, 25, 26, 27, 28, 29, 30, 31, 32, 33, 34, 35, 36, 37, 53, 54, 38, 39, 55, 56, 57, 58, 40, 41, 59, 42, 43, 44, 45, 46] rfl
    refine W.widen (k := 216 + 2 * i + 12) (n := 27000 + 6 * (n4A_174 + n4B_186) + 2 * m1f) (by omega) (by omega) ?_
    exact kk n4A_174 n4B_186 m1f _ ⟨⟨t, im, mk, rd, po, co, tr, wa, wb_, fi, cd, wt, l0, l1, d0, d1, g0, g1, ln, z0_, z1_, wd0_, wd1_, wg0_, wg1_, rl, rdd, rg, r0, r1, tq, r2, r3, r4, r5, r6, r7, r8, z, wd, wg, wwA_175, mdA_165, wwB_187, mdB_177, wff, e0f, e1f, wc, cpo, wcp, wr, tpo, wrp, wp, fcd, m0, wta, l0a, l1a, d0a, d1a, g0a, g1a, lna, z0_a, z1_a, wd0_a, wd1_a, wg0_a, wg1_a, m1, wtb, l0b, l1b, d0b, d1b, g0b, g1b, lnb, z0_b, z1_b, wd0_b, wd1_b, wg0_b, wg1_b, m2, wtc, l0c, l1c, d0c, d1c, g0c, g1c, lnc, z0_c, z1_c, wd0_c, wd1_c, wg0_c, wg1_c, qi, fmk, m_all, m_has, i_size, i_next, i_where, i_token, i_number, i_word, i_wrong, i_farCrossing, m_read, j_z0_209, j_crossings_210, j_inns_211, m_posts, m_shut, m_here, j_steps_212, j_done_213, j_at_214, j_gone_215, m_was, m_came, m_seenAt, m_rowWorth, m_farBy, m_used, i_everywhere, i_again0, i_d0, i_never, i_firstCame, i_longRun, i_moved, i_crowd, i_l0, i_fitMany, i_fitLeast, i_fitMost, m_fitPost, m_fitEnd, m_keptPosts, i_x0, f_all, f_has, f_read, g_posts_216, g_shut_217, g_here_218, g_was_219, f_came, f_seenAt, g_rowWorth_220, f_farBy, f_used, f_fitPost, f_fitEnd, f_keptPosts⟩, rfl, ⟨v_116, v_117, v_118, v_119, h_120, (by first | assumption | omega)⟩, ⟨v_122, v_123, v_124, v_125, v_126, v_127, h_128, (by first | assumption | omega)⟩, ⟨v_130, v_131, v_132, v_133, v_134, v_135, h_136, (by first | assumption | omega)⟩, H_wd0_, H_wd1_, H_wg0_, H_wg1_, H_z, H_wd, H_wg, ⟨laA_164, wyA_166, pc_A_167, f1A_168, f2A_169, f3A_170, f4A_171, f5A_172, f6A_173, h_188, (by first | assumption | omega), (by first | assumption | omega), (by first | assumption | omega)⟩, ⟨laB_176, wyB_178, pc_B_179, f1B_180, f2B_181, f3B_182, f4B_183, f5B_184, f6B_185, h_194, (by first | assumption | omega), (by first | assumption | omega), (by first | assumption | omega)⟩, H_wff, H_wc, H_wcp, H_wr, H_wrp, H_wp, H_wta, H_z0_a, H_z1_a, H_wd0_a, H_wd1_a, H_wg0_a, H_wg1_a, H_wtb, H_z0_b, H_z1_b, H_wd0_b, H_wd1_b, H_wg0_b, H_wg1_b, H_wtc, H_z0_c, H_z1_c, H_wd0_c, H_wd1_c, H_wg0_c, H_wg1_c, (by first | assumption | omega), (by first | assumption | omega), (by first | assumption | omega), (by first | assumption | omega), (by first | assumption | omega), (by first | assumption | omega), (by first | assumption | omega), (by first | assumption | omega)⟩ _ _ ls G (lv_sub hl [0, 1, 2, 3] rfl)
set_option maxHeartbeats 40000000 in
set_option maxRecDepth 100000 in
theorem z_case_fact (l : Launch) {p : Program} {e : Env} {s : State} {m : MethodId} {b : Nat} {below : List Frame} {meth : Method} {c : Code} {Q : State → Prop} {T : zTy} {A : Nat → Prop} {L i : Nat} {xs : Nat → Int32} (hx : p.tables.exec = Jvm.exec) (hb : c.code = cL_law) (C : CallFix p m c cL_law 4 s #[Value.ref b] zT RL) (hX : va_X b L xs s s.heap) (hbl : b < s.heap.size) (hbA : ¬ A b) (hL : L ≤ 3072) (hi6 : i + 6 ≤ L) {xo mo n4A n4B m1f : Nat} (hnA : n4A ≤ 131072) (hnB : n4B ≤ 131072) (hmf : m1f ≤ 16384) {bs : List va_W} (hI : zInv T xo mo n4A n4B m1f bs) {H : Heap} {locs : List Loc} {ls : Array Slot} (G : zS T A s.heap s bs H locs) (hl : lv_has ls 4 [(0, .ref b), (1, .ref xo), (2, .ref mo), (3, .int (nI i))]) (kk : ∀ (n1 n2 n3 : Nat) (bs1 : List va_W), zInv T xo mo n1 n2 n3 bs1 → ∀ (H1 : Heap) (locs1 : List Loc) (ls1 : Array Slot), zS T A s.heap s bs1 H1 locs1 → lv_has ls1 4 [(0, .ref b), (1, .ref xo), (2, .ref mo), (3, .int (nI i))] → W p l e room_1 s m #[Value.ref b] below meth c H1 locs1 (216 + 2 * i + 12) (27000 + 6 * (n1 + n2) + 2 * n3) Q (F0 m 1767 ls1 [])) : W p l e room_1 s m #[Value.ref b] below meth c H locs (216 + 2 * i) (27000 + 6 * (n4A + n4B) + 2 * m1f) Q (F0 m 943 ls []) := by
  obtain ⟨⟨t, im, mk, rd, po, co, tr, wa, wb_, fi, cd, wt, l0, l1, d0, d1, g0, g1, ln, z0_, z1_, wd0_, wd1_, wg0_, wg1_, rl, rdd, rg, r0, r1, tq, r2, r3, r4, r5, r6, r7, r8, z, wd, wg, wwA, mdA, wwB, mdB, wff, e0f, e1f, wc, cpo, wcp, wr, tpo, wrp, wp, fcd, m0, wta, l0a, l1a, d0a, d1a, g0a, g1a, lna, z0_a, z1_a, wd0_a, wd1_a, wg0_a, wg1_a, m1, wtb, l0b, l1b, d0b, d1b, g0b, g1b, lnb, z0_b, z1_b, wd0_b, wd1_b, wg0_b, wg1_b, m2, wtc, l0c, l1c, d0c, d1c, g0c, g1c, lnc, z0_c, z1_c, wd0_c, wd1_c, wg0_c, wg1_c, qi, fmk, m_all, m_has, i_size, i_next, i_where, i_token, i_number, i_word, i_wrong, i_farCrossing, m_read, i_z0, i_crossings, i_inns, m_posts, m_shut, m_here, i_steps, i_done, i_at, i_gone, m_was, m_came, m_seenAt, m_rowWorth, m_farBy, m_used, i_everywhere, i_again0, i_d0, i_never, i_firstCame, i_longRun, i_moved, i_crowd, i_l0, i_fitMany, i_fitLeast, i_fitMost, m_fitPost, m_fitEnd, m_keptPosts, i_x0, f_all, f_has, f_read, f_posts, f_shut, f_here, f_was, f_came, f_seenAt, f_rowWorth, f_farBy, f_used, f_fitPost, f_fitEnd, f_keptPosts⟩, rfl, H_wt, H_z0_, H_z1_, H_wd0_, H_wd1_, H_wg0_, H_wg1_, H_z, H_wd, H_wg, H_wwA, H_wwB, H_wff, H_wc, H_wcp, H_wr, H_wrp, H_wp, H_wta, H_z0_a, H_z1_a, H_wd0_a, H_wd1_a, H_wg0_a, H_wg1_a, H_wtb, H_z0_b, H_z1_b, H_wd0_b, H_wd1_b, H_wg0_b, H_wg1_b, H_wtc, H_z0_c, H_z1_c, H_wd0_c, H_wd1_c, H_wg0_c, H_wg1_c, hm0, hm1, hm2, h56, hFI, hAI, hRl, hHs⟩ := hI
  replace H_wt : hTold T t l0 l1 d0 d1 g0 g1 ln wt := H_wt
  replace H_z0_ : hLand T l0 z0_ := H_z0_
  replace H_z1_ : hLand T l1 z1_ := H_z1_
  replace H_wd0_ : hDay T d0 wd0_ := H_wd0_
  replace H_wd1_ : hDay T d1 wd1_ := H_wd1_
  replace H_wg0_ : hLog T g0 wg0_ := H_wg0_
  replace H_wg1_ : hLog T g1 wg1_ := H_wg1_
  replace H_z : hLandR T rl z := H_z
  replace H_wd : hDay T rdd wd := H_wd
  replace H_wg : hLog T rg wg := H_wg
  replace H_wwA : hWays T wa mdA n4A l0 wwA := H_wwA
  replace H_wwB : hWays T wb_ mdB n4B l1 wwB := H_wwB
  replace H_wff : hFit T fi e0f e1f m1f wff := H_wff
  replace H_wc : hCourse T co cpo wc := H_wc
  replace H_wcp : hPosts T cpo wcp := H_wcp
  replace H_wr : hTrail T tr tpo wr := H_wr
  replace H_wrp : hPosts T tpo wrp := H_wrp
  replace H_wp : hPosts T po wp := H_wp
  replace H_wta : hTold T m0 l0a l1a d0a d1a g0a g1a lna wta := H_wta
  replace H_z0_a : hLand T l0a z0_a := H_z0_a
  replace H_z1_a : hLand T l1a z1_a := H_z1_a
  replace H_wd0_a : hDay T d0a wd0_a := H_wd0_a
  replace H_wd1_a : hDay T d1a wd1_a := H_wd1_a
  replace H_wg0_a : hLog T g0a wg0_a := H_wg0_a
  replace H_wg1_a : hLog T g1a wg1_a := H_wg1_a
  replace H_wtb : hTold T m1 l0b l1b d0b d1b g0b g1b lnb wtb := H_wtb
  replace H_z0_b : hLand T l0b z0_b := H_z0_b
  replace H_z1_b : hLand T l1b z1_b := H_z1_b
  replace H_wd0_b : hDay T d0b wd0_b := H_wd0_b
  replace H_wd1_b : hDay T d1b wd1_b := H_wd1_b
  replace H_wg0_b : hLog T g0b wg0_b := H_wg0_b
  replace H_wg1_b : hLog T g1b wg1_b := H_wg1_b
  replace H_wtc : hTold T m2 l0c l1c d0c d1c g0c g1c lnc wtc := H_wtc
  replace H_z0_c : hLand T l0c z0_c := H_z0_c
  replace H_z1_c : hLand T l1c z1_c := H_z1_c
  replace H_wd0_c : hDay T d0c wd0_c := H_wd0_c
  replace H_wd1_c : hDay T d1c wd1_c := H_wd1_c
  replace H_wg0_c : hLog T g0c wg0_c := H_wg0_c
  replace H_wg1_c : hLog T g1c wg1_c := H_wg1_c
  replace hm0 : qi 0 = some m0 := hm0
  replace hm1 : qi 1 = some m1 := hm1
  replace hm2 : qi 2 = some m2 := hm2
  replace h56 : ((0 ≤ r5.toInt ∧ r5.toInt ≤ 600) ∧ 0 ≤ r6.toInt ∧ r6.toInt ≤ 1000) := h56
  replace hFI : (¬ e0f = 0 → e1f.toInt = 0 ∧ ¬ mdA = 0 ∨ e1f.toInt = 1 ∧ ¬ mdB = 0) := hFI
  replace hAI : zAI f_all := hAI
  replace hRl : zRl ln lna lnb lnc f_all := hRl
  replace hHs : zHs fmk f_has := hHs
  replace G : zS T A s.heap s [[(xo, .inr (10, [.ref t, .ref im, .ref mk, .ref rd, .ref po, .ref co, .ref tr, .ref wa, .ref wb_, .ref fi, .ref cd]))], wt, z0_, z1_, wd0_, wd1_, wg0_, wg1_, [(rd, .inr (7, [.ref rl, .ref rdd, .ref rg, .int r0, .int r1, .ref tq, .int r2, .int r3, .int r4, .int r5, .int r6, .int r7, .int r8]))], z, wd, wg, wwA, wwB, wff, wc, wcp, wr, wrp, wp, [(cd, .inl (T.2 0, 1000, .inl fcd))], wta, z0_a, z1_a, wd0_a, wd1_a, wg0_a, wg1_a, wtb, z0_b, z1_b, wd0_b, wd1_b, wg0_b, wg1_b, wtc, z0_c, z1_c, wd0_c, wd1_c, wg0_c, wg1_c, [(im, .inl (T.2 6, 3, .inr (.inr (.inr (.inr qi)))))], [(mk, .inl (T.2 2, 3, .inl fmk))], [(mo, .inr (11, [.ref m_all, .ref m_has, .int i_size, .int i_next, .int i_where, .int i_token, .int i_number, .int i_word, .int i_wrong, .int i_farCrossing, .ref m_read, .int i_z0, .int i_crossings, .int i_inns, .ref m_posts, .ref m_shut, .ref m_here, .int i_steps, .int i_done, .int i_at, .int i_gone, .ref m_was, .ref m_came, .ref m_seenAt, .ref m_rowWorth, .ref m_farBy, .ref m_used, .int i_everywhere, .int i_again0, .int i_d0, .int i_never, .int i_firstCame, .int i_longRun, .int i_moved, .int i_crowd, .int i_l0, .int i_fitMany, .int i_fitLeast, .int i_fitMost, .ref m_fitPost, .ref m_fitEnd, .ref m_keptPosts, .int i_x0]))], [(m_all, .inl (T.2 0, 3952, .inl f_all))], [(m_has, .inl (T.2 2, 3, .inl f_has))], [(m_read, .inl (T.2 0, 121, .inl f_read))], [(m_posts, .inl (T.2 0, 7, .inl f_posts))], [(m_shut, .inl (T.2 0, 7, .inl f_shut))], [(m_here, .inl (T.2 0, 7, .inl f_here))], [(m_was, .inl (T.2 0, 7, .inl f_was))], [(m_came, .inl (T.2 0, 7, .inl f_came))], [(m_seenAt, .inl (T.2 0, 16384, .inl f_seenAt))], [(m_rowWorth, .inl (T.2 0, 512, .inl f_rowWorth))], [(m_farBy, .inl (T.2 0, 49, .inl f_farBy))], [(m_used, .inl (T.2 0, 7, .inl f_used))], [(m_fitPost, .inl (T.2 0, 28, .inl f_fitPost))], [(m_fitEnd, .inl (T.2 0, 49, .inl f_fitEnd))], [(m_keptPosts, .inl (T.2 0, 7, .inl f_keptPosts))]] H locs := G
  have hB := zAI_0 hAI
  have hB4 := hB.1
  obtain ⟨hln, hlna, hlnb, hlnc⟩ := zRl_in hAI hRl
  refine lv_aload_n hx hb dL_law_943 rfl (lv_at hl 1 rfl) ?_
  refine lv_aload_n hx hb dL_law_944 rfl (lv_at hl 0 rfl) ?_
  refine lv_iload_n hx hb dL_law_945 rfl (lv_at hl 3 rfl) ?_
  refine lv_iconst (v := 1) hx hb dL_law_946 (by decide) ?_
  refine lv_iadd hx hb dL_law_947 ?_
  refine lv_topi (fun y_1 ey_1 => ?_)
  obtain rfl : y_1 = nI (i + 1) := ey_1.trans (z_iaddn i 1 rfl rfl)
  refine va_sld hx hb hX hbl hbA G.2.2.2.1 (vp_in_nI (by omega) (by omega)) dL_law_948 ?_
  refine lv_topi (fun v_2 ev_2 => ?_)
  rw [nI_clamp (by omega)] at ev_2
  have ev_2 : v_2 = xs (i + 1) := ev_2
  subst ev_2
  refine lv_aload_n hx hb dL_law_949 rfl (lv_at hl 0 rfl) ?_
  refine lv_iload_n hx hb dL_law_950 rfl (lv_at hl 3 rfl) ?_
  refine lv_iconst (v := 2) hx hb dL_law_951 (by decide) ?_
  refine lv_iadd hx hb dL_law_952 ?_
  refine lv_topi (fun y_3 ey_3 => ?_)
  obtain rfl : y_3 = nI (i + 2) := ey_3.trans (z_iaddn i 2 rfl rfl)
  refine va_sld hx hb hX hbl hbA G.2.2.2.1 (vp_in_nI (by omega) (by omega)) dL_law_953 ?_
  refine lv_topi (fun v_4 ev_4 => ?_)
  rw [nI_clamp (by omega)] at ev_4
  have ev_4 : v_4 = xs (i + 2) := ev_4
  subst ev_4
  refine lv_aload_n hx hb dL_law_954 rfl (lv_at hl 0 rfl) ?_
  refine lv_iload_n hx hb dL_law_955 rfl (lv_at hl 3 rfl) ?_
  refine lv_iconst (v := 3) hx hb dL_law_956 (by decide) ?_
  refine lv_iadd hx hb dL_law_957 ?_
  refine lv_topi (fun y_5 ey_5 => ?_)
  obtain rfl : y_5 = nI (i + 3) := ey_5.trans (z_iaddn i 3 rfl rfl)
  refine va_sld hx hb hX hbl hbA G.2.2.2.1 (vp_in_nI (by omega) (by omega)) dL_law_958 ?_
  refine lv_topi (fun v_6 ev_6 => ?_)
  rw [nI_clamp (by omega)] at ev_6
  have ev_6 : v_6 = xs (i + 3) := ev_6
  subst ev_6
  obtain ⟨v_7, v_8, v_9, v_10, h_11, h_12⟩ := H_wt
  have h_12 : zKT v_10 := h_12
  obtain ⟨v_13, v_14, v_15, h_16⟩ := H_wg0_
  obtain ⟨v_17, v_18, v_19, h_20⟩ := H_wg1_
  refine z_Vi (bc := [[(xo, .inr (10, [.ref t, .ref im, .ref mk, .ref rd, .ref po, .ref co, .ref tr, .ref wa, .ref wb_, .ref fi, .ref cd]))], wt, wg0_, wg1_]) (br := [z0_, z1_, wd0_, wd1_, [(rd, .inr (7, [.ref rl, .ref rdd, .ref rg, .int r0, .int r1, .ref tq, .int r2, .int r3, .int r4, .int r5, .int r6, .int r7, .int r8]))], z, wd, wg, wwA, wwB, wff, wc, wcp, wr, wrp, wp, [(cd, .inl (T.2 0, 1000, .inl fcd))], wta, z0_a, z1_a, wd0_a, wd1_a, wg0_a, wg1_a, wtb, z0_b, z1_b, wd0_b, wd1_b, wg0_b, wg1_b, wtc, z0_c, z1_c, wd0_c, wd1_c, wg0_c, wg1_c, [(im, .inl (T.2 6, 3, .inr (.inr (.inr (.inr qi)))))], [(mk, .inl (T.2 2, 3, .inl fmk))], [(mo, .inr (11, [.ref m_all, .ref m_has, .int i_size, .int i_next, .int i_where, .int i_token, .int i_number, .int i_word, .int i_wrong, .int i_farCrossing, .ref m_read, .int i_z0, .int i_crossings, .int i_inns, .ref m_posts, .ref m_shut, .ref m_here, .int i_steps, .int i_done, .int i_at, .int i_gone, .ref m_was, .ref m_came, .ref m_seenAt, .ref m_rowWorth, .ref m_farBy, .ref m_used, .int i_everywhere, .int i_again0, .int i_d0, .int i_never, .int i_firstCame, .int i_longRun, .int i_moved, .int i_crowd, .int i_l0, .int i_fitMany, .int i_fitLeast, .int i_fitMost, .ref m_fitPost, .ref m_fitEnd, .ref m_keptPosts, .int i_x0]))], [(m_all, .inl (T.2 0, 3952, .inl f_all))], [(m_has, .inl (T.2 2, 3, .inl f_has))], [(m_read, .inl (T.2 0, 121, .inl f_read))], [(m_posts, .inl (T.2 0, 7, .inl f_posts))], [(m_shut, .inl (T.2 0, 7, .inl f_shut))], [(m_here, .inl (T.2 0, 7, .inl f_here))], [(m_was, .inl (T.2 0, 7, .inl f_was))], [(m_came, .inl (T.2 0, 7, .inl f_came))], [(m_seenAt, .inl (T.2 0, 16384, .inl f_seenAt))], [(m_rowWorth, .inl (T.2 0, 512, .inl f_rowWorth))], [(m_farBy, .inl (T.2 0, 49, .inl f_farBy))], [(m_used, .inl (T.2 0, 7, .inl f_used))], [(m_fitPost, .inl (T.2 0, 28, .inl f_fitPost))], [(m_fitEnd, .inl (T.2 0, 49, .inl f_fitEnd))], [(m_keptPosts, .inl (T.2 0, 7, .inl f_keptPosts))]]) (As := [.int (xs (i + 1)), .int (xs (i + 2)), .int (xs (i + 3))]) (rest := []) C G (c_fact l T xo t im mk rd po co tr wa wb_ fi cd l0 l1 d0 d1 g0 g1 ln v_7 v_8 v_9 v_10 wt v_13 v_14 v_15 wg0_ v_17 v_18 v_19 wg1_ (xs (i + 1)) (xs (i + 2)) (xs (i + 3)) h_11 (by first | assumption | omega | rfl) h_16 h_20) (kV_RL_88 C.2.2.2.2 (Nat.le_of_ble_eq_true rfl) (Nat.le_of_ble_eq_true rfl)) [0, 1, 6, 7] [2, 3, 4, 5, 8, 9, 10, 11, 12, 13, 14, 15, 16, 17, 18, 19, 20, 21, 22, 23, 24, 25, 26, 27, 28, 29, 30, 31, 32, 33, 34, 35, 36, 37, 38, 39, 40, 41, 42, 43, 44, 45, 46, 47, 48, 49, 50, 51, 52, 53, 54, 55, 56, 57, 58, 59] rfl rfl (ci := 10) (qc := (RX11, TX11, 11)) rfl rfl (List.mem_flatten.mpr ⟨_, List.mem_of_getElem? (i := 0) rfl, List.mem_cons_self⟩) rfl rfl hl.1 dL_law_959 (by show _ + 0 ≤ 600000; omega) (by show _ + 0 ≤ 7302250; omega) (fun r_21 b1 H locs hw G => ?_)
  obtain rfl := hw
  have G : zS T A s.heap s [z0_, z1_, wd0_, wd1_, [(rd, .inr (7, [.ref rl, .ref rdd, .ref rg, .int r0, .int r1, .ref tq, .int r2, .int r3, .int r4, .int r5, .int r6, .int r7, .int r8]))], z, wd, wg, wwA, wwB, wff, wc, wcp, wr, wrp, wp, [(cd, .inl (T.2 0, 1000, .inl fcd))], wta, z0_a, z1_a, wd0_a, wd1_a, wg0_a, wg1_a, wtb, z0_b, z1_b, wd0_b, wd1_b, wg0_b, wg1_b, wtc, z0_c, z1_c, wd0_c, wd1_c, wg0_c, wg1_c, [(im, .inl (T.2 6, 3, .inr (.inr (.inr (.inr qi)))))], [(mk, .inl (T.2 2, 3, .inl fmk))], [(mo, .inr (11, [.ref m_all, .ref m_has, .int i_size, .int i_next, .int i_where, .int i_token, .int i_number, .int i_word, .int i_wrong, .int i_farCrossing, .ref m_read, .int i_z0, .int i_crossings, .int i_inns, .ref m_posts, .ref m_shut, .ref m_here, .int i_steps, .int i_done, .int i_at, .int i_gone, .ref m_was, .ref m_came, .ref m_seenAt, .ref m_rowWorth, .ref m_farBy, .ref m_used, .int i_everywhere, .int i_again0, .int i_d0, .int i_never, .int i_firstCame, .int i_longRun, .int i_moved, .int i_crowd, .int i_l0, .int i_fitMany, .int i_fitLeast, .int i_fitMost, .ref m_fitPost, .ref m_fitEnd, .ref m_keptPosts, .int i_x0]))], [(m_all, .inl (T.2 0, 3952, .inl f_all))], [(m_has, .inl (T.2 2, 3, .inl f_has))], [(m_read, .inl (T.2 0, 121, .inl f_read))], [(m_posts, .inl (T.2 0, 7, .inl f_posts))], [(m_shut, .inl (T.2 0, 7, .inl f_shut))], [(m_here, .inl (T.2 0, 7, .inl f_here))], [(m_was, .inl (T.2 0, 7, .inl f_was))], [(m_came, .inl (T.2 0, 7, .inl f_came))], [(m_seenAt, .inl (T.2 0, 16384, .inl f_seenAt))], [(m_rowWorth, .inl (T.2 0, 512, .inl f_rowWorth))], [(m_farBy, .inl (T.2 0, 49, .inl f_farBy))], [(m_used, .inl (T.2 0, 7, .inl f_used))], [(m_fitPost, .inl (T.2 0, 28, .inl f_fitPost))], [(m_fitEnd, .inl (T.2 0, 49, .inl f_fitEnd))], [(m_keptPosts, .inl (T.2 0, 7, .inl f_keptPosts))], [(xo, .inr (10, [.ref t, .ref im, .ref mk, .ref rd, .ref po, .ref co, .ref tr, .ref wa, .ref wb_, .ref fi, .ref cd]))], wt, wg0_, wg1_] _ _ := G
  refine lv_pop hx hb dL_law_962 rfl ?_
  refine lv_aload_n hx hb dL_law_963 rfl (lv_at hl 2 rfl) ?_
  refine lv_aload_n hx hb dL_law_964 rfl (lv_at hl 0 rfl) ?_
  refine lv_iload_n hx hb dL_law_965 rfl (lv_at hl 3 rfl) ?_
  refine lv_iconst (v := 1) hx hb dL_law_966 (by decide) ?_
  refine lv_iadd hx hb dL_law_967 ?_
  refine lv_topi (fun y_22 ey_22 => ?_)
  obtain rfl : y_22 = nI (i + 1) := ey_22.trans (z_iaddn i 1 rfl rfl)
  refine va_sld hx hb hX hbl hbA G.2.2.2.1 (vp_in_nI (by omega) (by omega)) dL_law_968 ?_
  refine lv_topi (fun v_23 ev_23 => ?_)
  rw [nI_clamp (by omega)] at ev_23
  have ev_23 : v_23 = xs (i + 1) := ev_23
  subst ev_23
  refine lv_aload_n hx hb dL_law_969 rfl (lv_at hl 0 rfl) ?_
  refine lv_iload_n hx hb dL_law_970 rfl (lv_at hl 3 rfl) ?_
  refine lv_iconst (v := 2) hx hb dL_law_971 (by decide) ?_
  refine lv_iadd hx hb dL_law_972 ?_
  refine lv_topi (fun y_24 ey_24 => ?_)
  obtain rfl : y_24 = nI (i + 2) := ey_24.trans (z_iaddn i 2 rfl rfl)
  refine va_sld hx hb hX hbl hbA G.2.2.2.1 (vp_in_nI (by omega) (by omega)) dL_law_973 ?_
  refine lv_topi (fun v_25 ev_25 => ?_)
  rw [nI_clamp (by omega)] at ev_25
  have ev_25 : v_25 = xs (i + 2) := ev_25
  subst ev_25
  refine lv_aload_n hx hb dL_law_974 rfl (lv_at hl 0 rfl) ?_
  refine lv_iload_n hx hb dL_law_975 rfl (lv_at hl 3 rfl) ?_
  refine lv_iconst (v := 3) hx hb dL_law_976 (by decide) ?_
  refine lv_iadd hx hb dL_law_977 ?_
  refine lv_topi (fun y_26 ey_26 => ?_)
  obtain rfl : y_26 = nI (i + 3) := ey_26.trans (z_iaddn i 3 rfl rfl)
  refine va_sld hx hb hX hbl hbA G.2.2.2.1 (vp_in_nI (by omega) (by omega)) dL_law_978 ?_
  refine lv_topi (fun v_27 ev_27 => ?_)
  rw [nI_clamp (by omega)] at ev_27
  have ev_27 : v_27 = xs (i + 3) := ev_27
  subst ev_27
  refine z_Vi (bc := [[(mo, .inr (11, [.ref m_all, .ref m_has, .int i_size, .int i_next, .int i_where, .int i_token, .int i_number, .int i_word, .int i_wrong, .int i_farCrossing, .ref m_read, .int i_z0, .int i_crossings, .int i_inns, .ref m_posts, .ref m_shut, .ref m_here, .int i_steps, .int i_done, .int i_at, .int i_gone, .ref m_was, .ref m_came, .ref m_seenAt, .ref m_rowWorth, .ref m_farBy, .ref m_used, .int i_everywhere, .int i_again0, .int i_d0, .int i_never, .int i_firstCame, .int i_longRun, .int i_moved, .int i_crowd, .int i_l0, .int i_fitMany, .int i_fitLeast, .int i_fitMost, .ref m_fitPost, .ref m_fitEnd, .ref m_keptPosts, .int i_x0]))], [(m_all, .inl (T.2 0, 3952, .inl f_all))]]) (br := [z0_, z1_, wd0_, wd1_, [(rd, .inr (7, [.ref rl, .ref rdd, .ref rg, .int r0, .int r1, .ref tq, .int r2, .int r3, .int r4, .int r5, .int r6, .int r7, .int r8]))], z, wd, wg, wwA, wwB, wff, wc, wcp, wr, wrp, wp, [(cd, .inl (T.2 0, 1000, .inl fcd))], wta, z0_a, z1_a, wd0_a, wd1_a, wg0_a, wg1_a, wtb, z0_b, z1_b, wd0_b, wd1_b, wg0_b, wg1_b, wtc, z0_c, z1_c, wd0_c, wd1_c, wg0_c, wg1_c, [(im, .inl (T.2 6, 3, .inr (.inr (.inr (.inr qi)))))], [(mk, .inl (T.2 2, 3, .inl fmk))], [(m_has, .inl (T.2 2, 3, .inl f_has))], [(m_read, .inl (T.2 0, 121, .inl f_read))], [(m_posts, .inl (T.2 0, 7, .inl f_posts))], [(m_shut, .inl (T.2 0, 7, .inl f_shut))], [(m_here, .inl (T.2 0, 7, .inl f_here))], [(m_was, .inl (T.2 0, 7, .inl f_was))], [(m_came, .inl (T.2 0, 7, .inl f_came))], [(m_seenAt, .inl (T.2 0, 16384, .inl f_seenAt))], [(m_rowWorth, .inl (T.2 0, 512, .inl f_rowWorth))], [(m_farBy, .inl (T.2 0, 49, .inl f_farBy))], [(m_used, .inl (T.2 0, 7, .inl f_used))], [(m_fitPost, .inl (T.2 0, 28, .inl f_fitPost))], [(m_fitEnd, .inl (T.2 0, 49, .inl f_fitEnd))], [(m_keptPosts, .inl (T.2 0, 7, .inl f_keptPosts))], [(xo, .inr (10, [.ref t, .ref im, .ref mk, .ref rd, .ref po, .ref co, .ref tr, .ref wa, .ref wb_, .ref fi, .ref cd]))], wt, wg0_, wg1_]) (As := [.int (xs (i + 1)), .int (xs (i + 2)), .int (xs (i + 3))]) (rest := []) C G (c_m_fact l T mo m_all m_has i_size i_next i_where i_token i_number i_word i_wrong i_farCrossing m_read i_z0 i_crossings i_inns m_posts m_shut m_here i_steps i_done i_at i_gone m_was m_came m_seenAt m_rowWorth m_farBy m_used i_everywhere i_again0 i_d0 i_never i_firstCame i_longRun i_moved i_crowd i_l0 i_fitMany i_fitLeast i_fitMost m_fitPost m_fitEnd m_keptPosts i_x0 f_all (xs (i + 1)) (xs (i + 2)) (xs (i + 3)) (by first | assumption | omega | rfl)) (kV_RL_91 C.2.2.2.2 (Nat.le_of_ble_eq_true rfl) (Nat.le_of_ble_eq_true rfl)) [40, 41] [0, 1, 2, 3, 4, 5, 6, 7, 8, 9, 10, 11, 12, 13, 14, 15, 16, 17, 18, 19, 20, 21, 22, 23, 24, 25, 26, 27, 28, 29, 30, 31, 32, 33, 34, 35, 36, 37, 38, 39, 42, 43, 44, 45, 46, 47, 48, 49, 50, 51, 52, 53, 54, 55, 56, 57, 58, 59] rfl rfl (ci := 11) (qc := (RX12, TX12, 43)) rfl rfl (List.mem_flatten.mpr ⟨_, List.mem_of_getElem? (i := 0) rfl, List.mem_cons_self⟩) rfl rfl hl.1 dL_law_979 (by show _ + 0 ≤ 600000; omega) (by show _ + 0 ≤ 7302250; omega) (fun r_29 b1 H locs hw G => ?_)
  obtain ⟨j_l0_28, rfl⟩ := hw
  have G : zS T A s.heap s [z0_, z1_, wd0_, wd1_, [(rd, .inr (7, [.ref rl, .ref rdd, .ref rg, .int r0, .int r1, .ref tq, .int r2, .int r3, .int r4, .int r5, .int r6, .int r7, .int r8]))], z, wd, wg, wwA, wwB, wff, wc, wcp, wr, wrp, wp, [(cd, .inl (T.2 0, 1000, .inl fcd))], wta, z0_a, z1_a, wd0_a, wd1_a, wg0_a, wg1_a, wtb, z0_b, z1_b, wd0_b, wd1_b, wg0_b, wg1_b, wtc, z0_c, z1_c, wd0_c, wd1_c, wg0_c, wg1_c, [(im, .inl (T.2 6, 3, .inr (.inr (.inr (.inr qi)))))], [(mk, .inl (T.2 2, 3, .inl fmk))], [(m_has, .inl (T.2 2, 3, .inl f_has))], [(m_read, .inl (T.2 0, 121, .inl f_read))], [(m_posts, .inl (T.2 0, 7, .inl f_posts))], [(m_shut, .inl (T.2 0, 7, .inl f_shut))], [(m_here, .inl (T.2 0, 7, .inl f_here))], [(m_was, .inl (T.2 0, 7, .inl f_was))], [(m_came, .inl (T.2 0, 7, .inl f_came))], [(m_seenAt, .inl (T.2 0, 16384, .inl f_seenAt))], [(m_rowWorth, .inl (T.2 0, 512, .inl f_rowWorth))], [(m_farBy, .inl (T.2 0, 49, .inl f_farBy))], [(m_used, .inl (T.2 0, 7, .inl f_used))], [(m_fitPost, .inl (T.2 0, 28, .inl f_fitPost))], [(m_fitEnd, .inl (T.2 0, 49, .inl f_fitEnd))], [(m_keptPosts, .inl (T.2 0, 7, .inl f_keptPosts))], [(xo, .inr (10, [.ref t, .ref im, .ref mk, .ref rd, .ref po, .ref co, .ref tr, .ref wa, .ref wb_, .ref fi, .ref cd]))], wt, wg0_, wg1_, [(mo, .inr (11, [.ref m_all, .ref m_has, .int i_size, .int i_next, .int i_where, .int i_token, .int i_number, .int i_word, .int i_wrong, .int i_farCrossing, .ref m_read, .int i_z0, .int i_crossings, .int i_inns, .ref m_posts, .ref m_shut, .ref m_here, .int i_steps, .int i_done, .int i_at, .int i_gone, .ref m_was, .ref m_came, .ref m_seenAt, .ref m_rowWorth, .ref m_farBy, .ref m_used, .int i_everywhere, .int i_again0, .int i_d0, .int i_never, .int i_firstCame, .int i_longRun, .int i_moved, .int i_crowd, .int j_l0_28, .int i_fitMany, .int i_fitLeast, .int i_fitMost, .ref m_fitPost, .ref m_fitEnd, .ref m_keptPosts, .int i_x0]))], [(m_all, .inl (T.2 0, 3952, .inl f_all))]] _ _ := G
  refine lv_pop hx hb dL_law_982 rfl ?_
  refine lv_goto (tgt := 1767) hx hb dL_law_983 (by decide) ?_
  have G := G.sub (bs' := [[(xo, .inr (10, [.ref t, .ref im, .ref mk, .ref rd, .ref po, .ref co, .ref tr, .ref wa, .ref wb_, .ref fi, .ref cd]))], wt, z0_, z1_, wd0_, wd1_, wg0_, wg1_, [(rd, .inr (7, [.ref rl, .ref rdd, .ref rg, .int r0, .int r1, .ref tq, .int r2, .int r3, .int r4, .int r5, .int r6, .int r7, .int r8]))], z, wd, wg, wwA, wwB, wff, wc, wcp, wr, wrp, wp, [(cd, .inl (T.2 0, 1000, .inl fcd))], wta, z0_a, z1_a, wd0_a, wd1_a, wg0_a, wg1_a, wtb, z0_b, z1_b, wd0_b, wd1_b, wg0_b, wg1_b, wtc, z0_c, z1_c, wd0_c, wd1_c, wg0_c, wg1_c, [(im, .inl (T.2 6, 3, .inr (.inr (.inr (.inr qi)))))], [(mk, .inl (T.2 2, 3, .inl fmk))], [(mo, .inr (11, [.ref m_all, .ref m_has, .int i_size, .int i_next, .int i_where, .int i_token, .int i_number, .int i_word, .int i_wrong, .int i_farCrossing, .ref m_read, .int i_z0, .int i_crossings, .int i_inns, .ref m_posts, .ref m_shut, .ref m_here, .int i_steps, .int i_done, .int i_at, .int i_gone, .ref m_was, .ref m_came, .ref m_seenAt, .ref m_rowWorth, .ref m_farBy, .ref m_used, .int i_everywhere, .int i_again0, .int i_d0, .int i_never, .int i_firstCame, .int i_longRun, .int i_moved, .int i_crowd, .int j_l0_28, .int i_fitMany, .int i_fitLeast, .int i_fitMost, .ref m_fitPost, .ref m_fitEnd, .ref m_keptPosts, .int i_x0]))], [(m_all, .inl (T.2 0, 3952, .inl f_all))], [(m_has, .inl (T.2 2, 3, .inl f_has))], [(m_read, .inl (T.2 0, 121, .inl f_read))], [(m_posts, .inl (T.2 0, 7, .inl f_posts))], [(m_shut, .inl (T.2 0, 7, .inl f_shut))], [(m_here, .inl (T.2 0, 7, .inl f_here))], [(m_was, .inl (T.2 0, 7, .inl f_was))], [(m_came, .inl (T.2 0, 7, .inl f_came))], [(m_seenAt, .inl (T.2 0, 16384, .inl f_seenAt))], [(m_rowWorth, .inl (T.2 0, 512, .inl f_rowWorth))], [(m_farBy, .inl (T.2 0, 49, .inl f_farBy))], [(m_used, .inl (T.2 0, 7, .inl f_used))], [(m_fitPost, .inl (T.2 0, 28, .inl f_fitPost))], [(m_fitEnd, .inl (T.2 0, 49, .inl f_fitEnd))], [(m_keptPosts, .inl (T.2 0, 7, .inl f_keptPosts))]]) [54, 55, 0, 1, 2, 3, 56, 57, 4, 5, 6, 7, 8, 9, 10, 11, 12, 13, 14, 15, 16, 17, 18, 19, 20, 21, 22, 23, 24, 25, 26, 27, 28, 29, 30, 31, 32, 33, 34, 35, 36, 37, 38, 39, 58, 59, 40, 41, 42, 43, 44, 45, 46, 47, 48, 49, 50, 51, 52, 53] rfl
  refine W.widen (k := 216 + 2 * i + 12) (n := 27000 + 6 * (n4A + n4B) + 2 * m1f) (by omega) (by omega) ?_
  exact kk n4A n4B m1f _ ⟨⟨t, im, mk, rd, po, co, tr, wa, wb_, fi, cd, wt, l0, l1, d0, d1, g0, g1, ln, z0_, z1_, wd0_, wd1_, wg0_, wg1_, rl, rdd, rg, r0, r1, tq, r2, r3, r4, r5, r6, r7, r8, z, wd, wg, wwA, mdA, wwB, mdB, wff, e0f, e1f, wc, cpo, wcp, wr, tpo, wrp, wp, fcd, m0, wta, l0a, l1a, d0a, d1a, g0a, g1a, lna, z0_a, z1_a, wd0_a, wd1_a, wg0_a, wg1_a, m1, wtb, l0b, l1b, d0b, d1b, g0b, g1b, lnb, z0_b, z1_b, wd0_b, wd1_b, wg0_b, wg1_b, m2, wtc, l0c, l1c, d0c, d1c, g0c, g1c, lnc, z0_c, z1_c, wd0_c, wd1_c, wg0_c, wg1_c, qi, fmk, m_all, m_has, i_size, i_next, i_where, i_token, i_number, i_word, i_wrong, i_farCrossing, m_read, i_z0, i_crossings, i_inns, m_posts, m_shut, m_here, i_steps, i_done, i_at, i_gone, m_was, m_came, m_seenAt, m_rowWorth, m_farBy, m_used, i_everywhere, i_again0, i_d0, i_never, i_firstCame, i_longRun, i_moved, i_crowd, j_l0_28, i_fitMany, i_fitLeast, i_fitMost, m_fitPost, m_fitEnd, m_keptPosts, i_x0, f_all, f_has, f_read, f_posts, f_shut, f_here, f_was, f_came, f_seenAt, f_rowWorth, f_farBy, f_used, f_fitPost, f_fitEnd, f_keptPosts⟩, rfl, ⟨v_7, v_8, v_9, v_10, h_11, (by first | assumption | omega)⟩, H_z0_, H_z1_, H_wd0_, H_wd1_, ⟨v_13, v_14, v_15, h_16⟩, ⟨v_17, v_18, v_19, h_20⟩, H_z, H_wd, H_wg, H_wwA, H_wwB, H_wff, H_wc, H_wcp, H_wr, H_wrp, H_wp, H_wta, H_z0_a, H_z1_a, H_wd0_a, H_wd1_a, H_wg0_a, H_wg1_a, H_wtb, H_z0_b, H_z1_b, H_wd0_b, H_wd1_b, H_wg0_b, H_wg1_b, H_wtc, H_z0_c, H_z1_c, H_wd0_c, H_wd1_c, H_wg0_c, H_wg1_c, (by first | assumption | omega), (by first | assumption | omega), (by first | assumption | omega), (by first | assumption | omega), (by first | assumption | omega), (by first | assumption | omega), (by first | assumption | omega), (by first | assumption | omega)⟩ _ _ ls G (lv_sub hl [0, 1, 2, 3] rfl)

set_option maxHeartbeats 40000000 in
set_option maxRecDepth 100000 in
theorem z_case_fits (l : Launch) {p : Program} {e : Env} {s : State} {m : MethodId} {b : Nat} {below : List Frame} {meth : Method} {c : Code} {Q : State → Prop} {T : zTy} {A : Nat → Prop} {L i : Nat} {xs : Nat → Int32} (hx : p.tables.exec = Jvm.exec) (hb : c.code = cL_law) (C : CallFix p m c cL_law 4 s #[Value.ref b] zT RL) (hX : va_X b L xs s s.heap) (hbl : b < s.heap.size) (hbA : ¬ A b) (hL : L ≤ 3072) (hi6 : i + 6 ≤ L) {xo mo n4A n4B m1f : Nat} (hnA : n4A ≤ 131072) (hnB : n4B ≤ 131072) (hmf : m1f ≤ 16384) {bs : List va_W} (hI : zInv T xo mo n4A n4B m1f bs) {H : Heap} {locs : List Loc} {ls : Array Slot} (G : zS T A s.heap s bs H locs) (hl : lv_has ls 4 [(0, .ref b), (1, .ref xo), (2, .ref mo), (3, .int (nI i))]) (kk : ∀ (n1 n2 n3 : Nat) (bs1 : List va_W), zInv T xo mo n1 n2 n3 bs1 → ∀ (H1 : Heap) (locs1 : List Loc) (ls1 : Array Slot), zS T A s.heap s bs1 H1 locs1 → lv_has ls1 4 [(0, .ref b), (1, .ref xo), (2, .ref mo), (3, .int (nI i))] → W p l e room_1 s m #[Value.ref b] below meth c H1 locs1 (216 + 2 * i + 12) (27000 + 6 * (n1 + n2) + 2 * n3) Q (F0 m 1767 ls1 [])) : W p l e room_1 s m #[Value.ref b] below meth c H locs (216 + 2 * i) (27000 + 6 * (n4A + n4B) + 2 * m1f) Q (F0 m 986 ls []) := by
  obtain ⟨⟨t, im, mk, rd, po, co, tr, wa, wb_, fi, cd, wt, l0, l1, d0, d1, g0, g1, ln, z0_, z1_, wd0_, wd1_, wg0_, wg1_, rl, rdd, rg, r0, r1, tq, r2, r3, r4, r5, r6, r7, r8, z, wd, wg, wwA, mdA, wwB, mdB, wff, e0f, e1f, wc, cpo, wcp, wr, tpo, wrp, wp, fcd, m0, wta, l0a, l1a, d0a, d1a, g0a, g1a, lna, z0_a, z1_a, wd0_a, wd1_a, wg0_a, wg1_a, m1, wtb, l0b, l1b, d0b, d1b, g0b, g1b, lnb, z0_b, z1_b, wd0_b, wd1_b, wg0_b, wg1_b, m2, wtc, l0c, l1c, d0c, d1c, g0c, g1c, lnc, z0_c, z1_c, wd0_c, wd1_c, wg0_c, wg1_c, qi, fmk, m_all, m_has, i_size, i_next, i_where, i_token, i_number, i_word, i_wrong, i_farCrossing, m_read, i_z0, i_crossings, i_inns, m_posts, m_shut, m_here, i_steps, i_done, i_at, i_gone, m_was, m_came, m_seenAt, m_rowWorth, m_farBy, m_used, i_everywhere, i_again0, i_d0, i_never, i_firstCame, i_longRun, i_moved, i_crowd, i_l0, i_fitMany, i_fitLeast, i_fitMost, m_fitPost, m_fitEnd, m_keptPosts, i_x0, f_all, f_has, f_read, f_posts, f_shut, f_here, f_was, f_came, f_seenAt, f_rowWorth, f_farBy, f_used, f_fitPost, f_fitEnd, f_keptPosts⟩, rfl, H_wt, H_z0_, H_z1_, H_wd0_, H_wd1_, H_wg0_, H_wg1_, H_z, H_wd, H_wg, H_wwA, H_wwB, H_wff, H_wc, H_wcp, H_wr, H_wrp, H_wp, H_wta, H_z0_a, H_z1_a, H_wd0_a, H_wd1_a, H_wg0_a, H_wg1_a, H_wtb, H_z0_b, H_z1_b, H_wd0_b, H_wd1_b, H_wg0_b, H_wg1_b, H_wtc, H_z0_c, H_z1_c, H_wd0_c, H_wd1_c, H_wg0_c, H_wg1_c, hm0, hm1, hm2, h56, hFI, hAI, hRl, hHs⟩ := hI
  replace H_wt : hTold T t l0 l1 d0 d1 g0 g1 ln wt := H_wt
  replace H_z0_ : hLand T l0 z0_ := H_z0_
  replace H_z1_ : hLand T l1 z1_ := H_z1_
  replace H_wd0_ : hDay T d0 wd0_ := H_wd0_
  replace H_wd1_ : hDay T d1 wd1_ := H_wd1_
  replace H_wg0_ : hLog T g0 wg0_ := H_wg0_
  replace H_wg1_ : hLog T g1 wg1_ := H_wg1_
  replace H_z : hLandR T rl z := H_z
  replace H_wd : hDay T rdd wd := H_wd
  replace H_wg : hLog T rg wg := H_wg
  replace H_wwA : hWays T wa mdA n4A l0 wwA := H_wwA
  replace H_wwB : hWays T wb_ mdB n4B l1 wwB := H_wwB
  replace H_wff : hFit T fi e0f e1f m1f wff := H_wff
  replace H_wc : hCourse T co cpo wc := H_wc
  replace H_wcp : hPosts T cpo wcp := H_wcp
  replace H_wr : hTrail T tr tpo wr := H_wr
  replace H_wrp : hPosts T tpo wrp := H_wrp
  replace H_wp : hPosts T po wp := H_wp
  replace H_wta : hTold T m0 l0a l1a d0a d1a g0a g1a lna wta := H_wta
  replace H_z0_a : hLand T l0a z0_a := H_z0_a
  replace H_z1_a : hLand T l1a z1_a := H_z1_a
  replace H_wd0_a : hDay T d0a wd0_a := H_wd0_a
  replace H_wd1_a : hDay T d1a wd1_a := H_wd1_a
  replace H_wg0_a : hLog T g0a wg0_a := H_wg0_a
  replace H_wg1_a : hLog T g1a wg1_a := H_wg1_a
  replace H_wtb : hTold T m1 l0b l1b d0b d1b g0b g1b lnb wtb := H_wtb
  replace H_z0_b : hLand T l0b z0_b := H_z0_b
  replace H_z1_b : hLand T l1b z1_b := H_z1_b
  replace H_wd0_b : hDay T d0b wd0_b := H_wd0_b
  replace H_wd1_b : hDay T d1b wd1_b := H_wd1_b
  replace H_wg0_b : hLog T g0b wg0_b := H_wg0_b
  replace H_wg1_b : hLog T g1b wg1_b := H_wg1_b
  replace H_wtc : hTold T m2 l0c l1c d0c d1c g0c g1c lnc wtc := H_wtc
  replace H_z0_c : hLand T l0c z0_c := H_z0_c
  replace H_z1_c : hLand T l1c z1_c := H_z1_c
  replace H_wd0_c : hDay T d0c wd0_c := H_wd0_c
  replace H_wd1_c : hDay T d1c wd1_c := H_wd1_c
  replace H_wg0_c : hLog T g0c wg0_c := H_wg0_c
  replace H_wg1_c : hLog T g1c wg1_c := H_wg1_c
  replace hm0 : qi 0 = some m0 := hm0
  replace hm1 : qi 1 = some m1 := hm1
  replace hm2 : qi 2 = some m2 := hm2
  replace h56 : ((0 ≤ r5.toInt ∧ r5.toInt ≤ 600) ∧ 0 ≤ r6.toInt ∧ r6.toInt ≤ 1000) := h56
  replace hFI : (¬ e0f = 0 → e1f.toInt = 0 ∧ ¬ mdA = 0 ∨ e1f.toInt = 1 ∧ ¬ mdB = 0) := hFI
  replace hAI : zAI f_all := hAI
  replace hRl : zRl ln lna lnb lnc f_all := hRl
  replace hHs : zHs fmk f_has := hHs
  replace G : zS T A s.heap s [[(xo, .inr (10, [.ref t, .ref im, .ref mk, .ref rd, .ref po, .ref co, .ref tr, .ref wa, .ref wb_, .ref fi, .ref cd]))], wt, z0_, z1_, wd0_, wd1_, wg0_, wg1_, [(rd, .inr (7, [.ref rl, .ref rdd, .ref rg, .int r0, .int r1, .ref tq, .int r2, .int r3, .int r4, .int r5, .int r6, .int r7, .int r8]))], z, wd, wg, wwA, wwB, wff, wc, wcp, wr, wrp, wp, [(cd, .inl (T.2 0, 1000, .inl fcd))], wta, z0_a, z1_a, wd0_a, wd1_a, wg0_a, wg1_a, wtb, z0_b, z1_b, wd0_b, wd1_b, wg0_b, wg1_b, wtc, z0_c, z1_c, wd0_c, wd1_c, wg0_c, wg1_c, [(im, .inl (T.2 6, 3, .inr (.inr (.inr (.inr qi)))))], [(mk, .inl (T.2 2, 3, .inl fmk))], [(mo, .inr (11, [.ref m_all, .ref m_has, .int i_size, .int i_next, .int i_where, .int i_token, .int i_number, .int i_word, .int i_wrong, .int i_farCrossing, .ref m_read, .int i_z0, .int i_crossings, .int i_inns, .ref m_posts, .ref m_shut, .ref m_here, .int i_steps, .int i_done, .int i_at, .int i_gone, .ref m_was, .ref m_came, .ref m_seenAt, .ref m_rowWorth, .ref m_farBy, .ref m_used, .int i_everywhere, .int i_again0, .int i_d0, .int i_never, .int i_firstCame, .int i_longRun, .int i_moved, .int i_crowd, .int i_l0, .int i_fitMany, .int i_fitLeast, .int i_fitMost, .ref m_fitPost, .ref m_fitEnd, .ref m_keptPosts, .int i_x0]))], [(m_all, .inl (T.2 0, 3952, .inl f_all))], [(m_has, .inl (T.2 2, 3, .inl f_has))], [(m_read, .inl (T.2 0, 121, .inl f_read))], [(m_posts, .inl (T.2 0, 7, .inl f_posts))], [(m_shut, .inl (T.2 0, 7, .inl f_shut))], [(m_here, .inl (T.2 0, 7, .inl f_here))], [(m_was, .inl (T.2 0, 7, .inl f_was))], [(m_came, .inl (T.2 0, 7, .inl f_came))], [(m_seenAt, .inl (T.2 0, 16384, .inl f_seenAt))], [(m_rowWorth, .inl (T.2 0, 512, .inl f_rowWorth))], [(m_farBy, .inl (T.2 0, 49, .inl f_farBy))], [(m_used, .inl (T.2 0, 7, .inl f_used))], [(m_fitPost, .inl (T.2 0, 28, .inl f_fitPost))], [(m_fitEnd, .inl (T.2 0, 49, .inl f_fitEnd))], [(m_keptPosts, .inl (T.2 0, 7, .inl f_keptPosts))]] H locs := G
  have hB := zAI_0 hAI
  have hB4 := hB.1
  obtain ⟨hln, hlna, hlnb, hlnc⟩ := zRl_in hAI hRl
  refine lv_aload_n hx hb dL_law_986 rfl (lv_at hl 1 rfl) ?_
  refine lv_aload_n hx hb dL_law_987 rfl (lv_at hl 0 rfl) ?_
  refine lv_iload_n hx hb dL_law_988 rfl (lv_at hl 3 rfl) ?_
  refine lv_iconst (v := 1) hx hb dL_law_989 (by decide) ?_
  refine lv_iadd hx hb dL_law_990 ?_
  refine lv_topi (fun y_1 ey_1 => ?_)
  obtain rfl : y_1 = nI (i + 1) := ey_1.trans (z_iaddn i 1 rfl rfl)
  refine va_sld hx hb hX hbl hbA G.2.2.2.1 (vp_in_nI (by omega) (by omega)) dL_law_991 ?_
  refine lv_topi (fun v_2 ev_2 => ?_)
  rw [nI_clamp (by omega)] at ev_2
  have ev_2 : v_2 = xs (i + 1) := ev_2
  subst ev_2
  refine lv_aload_n hx hb dL_law_992 rfl (lv_at hl 0 rfl) ?_
  refine lv_iload_n hx hb dL_law_993 rfl (lv_at hl 3 rfl) ?_
  refine lv_iconst (v := 2) hx hb dL_law_994 (by decide) ?_
  refine lv_iadd hx hb dL_law_995 ?_
  refine lv_topi (fun y_3 ey_3 => ?_)
  obtain rfl : y_3 = nI (i + 2) := ey_3.trans (z_iaddn i 2 rfl rfl)
  refine va_sld hx hb hX hbl hbA G.2.2.2.1 (vp_in_nI (by omega) (by omega)) dL_law_996 ?_
  refine lv_topi (fun v_4 ev_4 => ?_)
  rw [nI_clamp (by omega)] at ev_4
  have ev_4 : v_4 = xs (i + 2) := ev_4
  subst ev_4
  refine lv_aload_n hx hb dL_law_997 rfl (lv_at hl 0 rfl) ?_
  refine lv_iload_n hx hb dL_law_998 rfl (lv_at hl 3 rfl) ?_
  refine lv_iconst (v := 3) hx hb dL_law_999 (by decide) ?_
  refine lv_iadd hx hb dL_law_1000 ?_
  refine lv_topi (fun y_5 ey_5 => ?_)
  obtain rfl : y_5 = nI (i + 3) := ey_5.trans (z_iaddn i 3 rfl rfl)
  refine va_sld hx hb hX hbl hbA G.2.2.2.1 (vp_in_nI (by omega) (by omega)) dL_law_1001 ?_
  refine lv_topi (fun v_6 ev_6 => ?_)
  rw [nI_clamp (by omega)] at ev_6
  have ev_6 : v_6 = xs (i + 3) := ev_6
  subst ev_6
  obtain ⟨v_7, v_8, v_9, v_10, h_11, h_12⟩ := H_wt
  have h_12 : zKT v_10 := h_12
  obtain ⟨v_13, v_14, v_15, v_16, v_17, v_18, h_19, h_20⟩ := H_z0_
  have h_20 : zLI v_13 v_15 v_17 := h_20
  obtain ⟨v_21, v_22, v_23, v_24, v_25, v_26, h_27, h_28⟩ := H_z1_
  have h_28 : zLI v_21 v_23 v_25 := h_28
  obtain ⟨v_29, v_30, v_31, h_32⟩ := H_wg0_
  obtain ⟨v_33, v_34, v_35, h_36⟩ := H_wg1_
  obtain ⟨v_37, v_38, v_39, v_40, v_41, v_42, v_43, v_44, v_45, h_46, h_47, h_48, h_49⟩ := H_wwA
  have h_47 : zPw n4A := h_47
  have h_48 : (mdA = 0 ∨ v_37 = l0) := h_48
  have h_49 : (0 ≤ v_38.toInt ∧ v_38.toInt ≤ 16384) := h_49
  obtain ⟨v_50, v_51, v_52, v_53, v_54, v_55, v_56, v_57, v_58, h_59, h_60, h_61, h_62⟩ := H_wwB
  have h_60 : zPw n4B := h_60
  have h_61 : (mdB = 0 ∨ v_50 = l1) := h_61
  have h_62 : (0 ≤ v_51.toInt ∧ v_51.toInt ≤ 16384) := h_62
  obtain ⟨v_63, v_64, v_65, v_66, v_67, v_68, h_69, h_70, h_71⟩ := H_wff
  have h_70 : zFw m1f := h_70
  have h_71 : 0 ≤ v_64.toInt := h_71
  have hq0m := zNA_mono (c := ((xs (i + 1)).toInt = 0 ∧ 0 < (v_10 0).toInt ∧ (0 ≤ (xs (i + 2)).toInt ∧ (xs (i + 2)).toInt < (v_10 2).toInt ∧ (xs (i + 2)).toInt < 2) ∧ (e0f.toInt = 0 ∨ ¬ e1f.toInt = (xs (i + 1)).toInt ∨ ¬ v_63.toInt = (xs (i + 2)).toInt))) (md := mdA) (cr := v_13) (inn := v_14) (k1 := v_15) h_47
  have hq0l := zPw_le (zNA_ge (c := ((xs (i + 1)).toInt = 0 ∧ 0 < (v_10 0).toInt ∧ (0 ≤ (xs (i + 2)).toInt ∧ (xs (i + 2)).toInt < (v_10 2).toInt ∧ (xs (i + 2)).toInt < 2) ∧ (e0f.toInt = 0 ∨ ¬ e1f.toInt = (xs (i + 1)).toInt ∨ ¬ v_63.toInt = (xs (i + 2)).toInt))) (md := mdA) (pl := (zPl v_13 v_14 v_15)) h_47)
  have hq2m := zNA_mono (c := ((xs (i + 1)).toInt = 1 ∧ 1 < (v_10 0).toInt ∧ (0 ≤ (xs (i + 2)).toInt ∧ (xs (i + 2)).toInt < (v_10 2).toInt ∧ (xs (i + 2)).toInt < 2) ∧ (e0f.toInt = 0 ∨ ¬ e1f.toInt = (xs (i + 1)).toInt ∨ ¬ v_63.toInt = (xs (i + 2)).toInt))) (md := mdB) (cr := v_21) (inn := v_22) (k1 := v_23) h_60
  have hq2l := zPw_le (zNA_ge (c := ((xs (i + 1)).toInt = 1 ∧ 1 < (v_10 0).toInt ∧ (0 ≤ (xs (i + 2)).toInt ∧ (xs (i + 2)).toInt < (v_10 2).toInt ∧ (xs (i + 2)).toInt < 2) ∧ (e0f.toInt = 0 ∨ ¬ e1f.toInt = (xs (i + 1)).toInt ∨ ¬ v_63.toInt = (xs (i + 2)).toInt))) (md := mdB) (pl := (zPl v_21 v_22 v_23)) h_60)
  have hfa := zNF_mono (c := ((xs (i + 1)).toInt = 0 ∧ 0 < (v_10 0).toInt ∧ (0 ≤ (xs (i + 2)).toInt ∧ (xs (i + 2)).toInt < (v_10 2).toInt ∧ (xs (i + 2)).toInt < 2) ∧ (e0f.toInt = 0 ∨ ¬ e1f.toInt = (xs (i + 1)).toInt ∨ ¬ v_63.toInt = (xs (i + 2)).toInt))) (n := m1f) (wy := (zMw mdA v_38 v_13 v_14 v_15)) h_70
  have hfb := zNF_fw (c := ((xs (i + 1)).toInt = 0 ∧ 0 < (v_10 0).toInt ∧ (0 ≤ (xs (i + 2)).toInt ∧ (xs (i + 2)).toInt < (v_10 2).toInt ∧ (xs (i + 2)).toInt < 2) ∧ (e0f.toInt = 0 ∨ ¬ e1f.toInt = (xs (i + 1)).toInt ∨ ¬ v_63.toInt = (xs (i + 2)).toInt))) (n := m1f) (wy := (zMw mdA v_38 v_13 v_14 v_15)) h_70
  have hfc := zNF_mono (c := ((xs (i + 1)).toInt = 1 ∧ 1 < (v_10 0).toInt ∧ (0 ≤ (xs (i + 2)).toInt ∧ (xs (i + 2)).toInt < (v_10 2).toInt ∧ (xs (i + 2)).toInt < 2) ∧ (e0f.toInt = 0 ∨ ¬ e1f.toInt = (xs (i + 1)).toInt ∨ ¬ v_63.toInt = (xs (i + 2)).toInt))) (n := (zNF ((xs (i + 1)).toInt = 0 ∧ 0 < (v_10 0).toInt ∧ (0 ≤ (xs (i + 2)).toInt ∧ (xs (i + 2)).toInt < (v_10 2).toInt ∧ (xs (i + 2)).toInt < 2) ∧ (e0f.toInt = 0 ∨ ¬ e1f.toInt = (xs (i + 1)).toInt ∨ ¬ v_63.toInt = (xs (i + 2)).toInt)) m1f (zMw mdA v_38 v_13 v_14 v_15))) (wy := (zMw mdB v_51 v_21 v_22 v_23)) hfb
  have hfd := zFw_le (zNF_fw (c := ((xs (i + 1)).toInt = 1 ∧ 1 < (v_10 0).toInt ∧ (0 ≤ (xs (i + 2)).toInt ∧ (xs (i + 2)).toInt < (v_10 2).toInt ∧ (xs (i + 2)).toInt < 2) ∧ (e0f.toInt = 0 ∨ ¬ e1f.toInt = (xs (i + 1)).toInt ∨ ¬ v_63.toInt = (xs (i + 2)).toInt))) (n := (zNF ((xs (i + 1)).toInt = 0 ∧ 0 < (v_10 0).toInt ∧ (0 ≤ (xs (i + 2)).toInt ∧ (xs (i + 2)).toInt < (v_10 2).toInt ∧ (xs (i + 2)).toInt < 2) ∧ (e0f.toInt = 0 ∨ ¬ e1f.toInt = (xs (i + 1)).toInt ∨ ¬ v_63.toInt = (xs (i + 2)).toInt)) m1f (zMw mdA v_38 v_13 v_14 v_15))) (wy := (zMw mdB v_51 v_21 v_22 v_23)) hfb)
  refine z_Vi (bc := [[(xo, .inr (10, [.ref t, .ref im, .ref mk, .ref rd, .ref po, .ref co, .ref tr, .ref wa, .ref wb_, .ref fi, .ref cd]))], wt, z0_, z1_, wg0_, wg1_, wwA, wwB, wff]) (br := [wd0_, wd1_, [(rd, .inr (7, [.ref rl, .ref rdd, .ref rg, .int r0, .int r1, .ref tq, .int r2, .int r3, .int r4, .int r5, .int r6, .int r7, .int r8]))], z, wd, wg, wc, wcp, wr, wrp, wp, [(cd, .inl (T.2 0, 1000, .inl fcd))], wta, z0_a, z1_a, wd0_a, wd1_a, wg0_a, wg1_a, wtb, z0_b, z1_b, wd0_b, wd1_b, wg0_b, wg1_b, wtc, z0_c, z1_c, wd0_c, wd1_c, wg0_c, wg1_c, [(im, .inl (T.2 6, 3, .inr (.inr (.inr (.inr qi)))))], [(mk, .inl (T.2 2, 3, .inl fmk))], [(mo, .inr (11, [.ref m_all, .ref m_has, .int i_size, .int i_next, .int i_where, .int i_token, .int i_number, .int i_word, .int i_wrong, .int i_farCrossing, .ref m_read, .int i_z0, .int i_crossings, .int i_inns, .ref m_posts, .ref m_shut, .ref m_here, .int i_steps, .int i_done, .int i_at, .int i_gone, .ref m_was, .ref m_came, .ref m_seenAt, .ref m_rowWorth, .ref m_farBy, .ref m_used, .int i_everywhere, .int i_again0, .int i_d0, .int i_never, .int i_firstCame, .int i_longRun, .int i_moved, .int i_crowd, .int i_l0, .int i_fitMany, .int i_fitLeast, .int i_fitMost, .ref m_fitPost, .ref m_fitEnd, .ref m_keptPosts, .int i_x0]))], [(m_all, .inl (T.2 0, 3952, .inl f_all))], [(m_has, .inl (T.2 2, 3, .inl f_has))], [(m_read, .inl (T.2 0, 121, .inl f_read))], [(m_posts, .inl (T.2 0, 7, .inl f_posts))], [(m_shut, .inl (T.2 0, 7, .inl f_shut))], [(m_here, .inl (T.2 0, 7, .inl f_here))], [(m_was, .inl (T.2 0, 7, .inl f_was))], [(m_came, .inl (T.2 0, 7, .inl f_came))], [(m_seenAt, .inl (T.2 0, 16384, .inl f_seenAt))], [(m_rowWorth, .inl (T.2 0, 512, .inl f_rowWorth))], [(m_farBy, .inl (T.2 0, 49, .inl f_farBy))], [(m_used, .inl (T.2 0, 7, .inl f_used))], [(m_fitPost, .inl (T.2 0, 28, .inl f_fitPost))], [(m_fitEnd, .inl (T.2 0, 49, .inl f_fitEnd))], [(m_keptPosts, .inl (T.2 0, 7, .inl f_keptPosts))]]) (As := [.int (xs (i + 1)), .int (xs (i + 2)), .int (xs (i + 3))]) (rest := []) C G (c_fits l T xo t im mk rd po co tr wa wb_ fi cd l0 l1 d0 d1 g0 g1 ln v_7 v_8 v_9 v_10 wt v_13 v_14 v_15 v_16 v_17 v_18 z0_ v_21 v_22 v_23 v_24 v_25 v_26 z1_ v_29 v_30 v_31 wg0_ v_33 v_34 v_35 wg1_ v_37 mdA v_38 v_39 v_40 v_41 v_42 v_43 v_44 v_45 n4A wwA v_50 mdB v_51 v_52 v_53 v_54 v_55 v_56 v_57 v_58 n4B wwB e0f e1f v_63 v_64 v_65 v_66 v_67 m1f v_68 wff (xs (i + 1)) (xs (i + 2)) (xs (i + 3)) h_11 (by first | assumption | omega | rfl) h_19 (by first | assumption | omega | rfl) h_27 (by first | assumption | omega | rfl) h_32 h_36 h_46 (by first | assumption | omega | rfl) (by first | assumption | omega | rfl) (by first | assumption | omega | rfl) h_59 (by first | assumption | omega | rfl) (by first | assumption | omega | rfl) (by first | assumption | omega | rfl) h_69 (by first | assumption | omega | rfl) (by first | assumption | omega | rfl) (by first | assumption | omega | rfl)) (kV_RL_92 C.2.2.2.2 (Nat.le_of_ble_eq_true rfl) (Nat.le_of_ble_eq_true rfl)) [0, 1, 2, 3, 6, 7, 12, 13, 14] [4, 5, 8, 9, 10, 11, 15, 16, 17, 18, 19, 20, 21, 22, 23, 24, 25, 26, 27, 28, 29, 30, 31, 32, 33, 34, 35, 36, 37, 38, 39, 40, 41, 42, 43, 44, 45, 46, 47, 48, 49, 50, 51, 52, 53, 54, 55, 56, 57, 58, 59] rfl rfl (ci := 10) (qc := (RX11, TX11, 11)) rfl rfl (List.mem_flatten.mpr ⟨_, List.mem_of_getElem? (i := 0) rfl, List.mem_cons_self⟩) rfl rfl hl.1 dL_law_1002 (by show _ + 7 ≤ 600000; omega) (by show _ + (6 * (zNA ((xs (i + 1)).toInt = 0 ∧ 0 < (v_10 0).toInt ∧ (0 ≤ (xs (i + 2)).toInt ∧ (xs (i + 2)).toInt < (v_10 2).toInt ∧ (xs (i + 2)).toInt < 2) ∧ (e0f.toInt = 0 ∨ ¬ e1f.toInt = (xs (i + 1)).toInt ∨ ¬ v_63.toInt = (xs (i + 2)).toInt)) mdA n4A (zPl v_13 v_14 v_15) - n4A) + 6 * (zNA ((xs (i + 1)).toInt = 1 ∧ 1 < (v_10 0).toInt ∧ (0 ≤ (xs (i + 2)).toInt ∧ (xs (i + 2)).toInt < (v_10 2).toInt ∧ (xs (i + 2)).toInt < 2) ∧ (e0f.toInt = 0 ∨ ¬ e1f.toInt = (xs (i + 1)).toInt ∨ ¬ v_63.toInt = (xs (i + 2)).toInt)) mdB n4B (zPl v_21 v_22 v_23) - n4B) + 2 * (zNF ((xs (i + 1)).toInt = 1 ∧ 1 < (v_10 0).toInt ∧ (0 ≤ (xs (i + 2)).toInt ∧ (xs (i + 2)).toInt < (v_10 2).toInt ∧ (xs (i + 2)).toInt < 2) ∧ (e0f.toInt = 0 ∨ ¬ e1f.toInt = (xs (i + 1)).toInt ∨ ¬ v_63.toInt = (xs (i + 2)).toInt)) (zNF ((xs (i + 1)).toInt = 0 ∧ 0 < (v_10 0).toInt ∧ (0 ≤ (xs (i + 2)).toInt ∧ (xs (i + 2)).toInt < (v_10 2).toInt ∧ (xs (i + 2)).toInt < 2) ∧ (e0f.toInt = 0 ∨ ¬ e1f.toInt = (xs (i + 1)).toInt ∨ ¬ v_63.toInt = (xs (i + 2)).toInt)) m1f (zMw mdA v_38 v_13 v_14 v_15)) (zMw mdB v_51 v_21 v_22 v_23) - m1f)) ≤ 7302250; omega) (fun r_123 b1 H locs hw G => ?_)
  obtain ⟨laA_72, mdA_73, wyA_74, pc_A_75, f1A_76, f2A_77, f3A_78, f4A_79, f5A_80, f6A_81, n4A_82, wwA_83, laB_84, mdB_85, wyB_86, pc_B_87, f1B_88, f2B_89, f3B_90, f4B_91, f5B_92, f6B_93, n4B_94, wwB_95, e0f_96, e1f_97, e2f_98, e3f_99, e4f_100, e5f_101, r1f_102, m1f_103, r2f_104, wff_105, rfl, h_106, h_107, h_108, h_109, h_110, h_111, h_112, h_113, h_114, h_115, h_116, h_117, h_118, h_119, h_120, h_121, h_122⟩ := hw
  have G : zS T A s.heap s [wd0_, wd1_, [(rd, .inr (7, [.ref rl, .ref rdd, .ref rg, .int r0, .int r1, .ref tq, .int r2, .int r3, .int r4, .int r5, .int r6, .int r7, .int r8]))], z, wd, wg, wc, wcp, wr, wrp, wp, [(cd, .inl (T.2 0, 1000, .inl fcd))], wta, z0_a, z1_a, wd0_a, wd1_a, wg0_a, wg1_a, wtb, z0_b, z1_b, wd0_b, wd1_b, wg0_b, wg1_b, wtc, z0_c, z1_c, wd0_c, wd1_c, wg0_c, wg1_c, [(im, .inl (T.2 6, 3, .inr (.inr (.inr (.inr qi)))))], [(mk, .inl (T.2 2, 3, .inl fmk))], [(mo, .inr (11, [.ref m_all, .ref m_has, .int i_size, .int i_next, .int i_where, .int i_token, .int i_number, .int i_word, .int i_wrong, .int i_farCrossing, .ref m_read, .int i_z0, .int i_crossings, .int i_inns, .ref m_posts, .ref m_shut, .ref m_here, .int i_steps, .int i_done, .int i_at, .int i_gone, .ref m_was, .ref m_came, .ref m_seenAt, .ref m_rowWorth, .ref m_farBy, .ref m_used, .int i_everywhere, .int i_again0, .int i_d0, .int i_never, .int i_firstCame, .int i_longRun, .int i_moved, .int i_crowd, .int i_l0, .int i_fitMany, .int i_fitLeast, .int i_fitMost, .ref m_fitPost, .ref m_fitEnd, .ref m_keptPosts, .int i_x0]))], [(m_all, .inl (T.2 0, 3952, .inl f_all))], [(m_has, .inl (T.2 2, 3, .inl f_has))], [(m_read, .inl (T.2 0, 121, .inl f_read))], [(m_posts, .inl (T.2 0, 7, .inl f_posts))], [(m_shut, .inl (T.2 0, 7, .inl f_shut))], [(m_here, .inl (T.2 0, 7, .inl f_here))], [(m_was, .inl (T.2 0, 7, .inl f_was))], [(m_came, .inl (T.2 0, 7, .inl f_came))], [(m_seenAt, .inl (T.2 0, 16384, .inl f_seenAt))], [(m_rowWorth, .inl (T.2 0, 512, .inl f_rowWorth))], [(m_farBy, .inl (T.2 0, 49, .inl f_farBy))], [(m_used, .inl (T.2 0, 7, .inl f_used))], [(m_fitPost, .inl (T.2 0, 28, .inl f_fitPost))], [(m_fitEnd, .inl (T.2 0, 49, .inl f_fitEnd))], [(m_keptPosts, .inl (T.2 0, 7, .inl f_keptPosts))], [(xo, .inr (10, [.ref t, .ref im, .ref mk, .ref rd, .ref po, .ref co, .ref tr, .ref wa, .ref wb_, .ref fi, .ref cd]))], wt, z0_, z1_, wg0_, wg1_, wwA_83, wwB_95, wff_105] _ _ := G
  refine lv_pop hx hb dL_law_1005 rfl ?_
  refine lv_aload_n hx hb dL_law_1006 rfl (lv_at hl 2 rfl) ?_
  refine lv_aload_n hx hb dL_law_1007 rfl (lv_at hl 0 rfl) ?_
  refine lv_iload_n hx hb dL_law_1008 rfl (lv_at hl 3 rfl) ?_
  refine lv_iconst (v := 1) hx hb dL_law_1009 (by decide) ?_
  refine lv_iadd hx hb dL_law_1010 ?_
  refine lv_topi (fun y_124 ey_124 => ?_)
  obtain rfl : y_124 = nI (i + 1) := ey_124.trans (z_iaddn i 1 rfl rfl)
  refine va_sld hx hb hX hbl hbA G.2.2.2.1 (vp_in_nI (by omega) (by omega)) dL_law_1011 ?_
  refine lv_topi (fun v_125 ev_125 => ?_)
  rw [nI_clamp (by omega)] at ev_125
  have ev_125 : v_125 = xs (i + 1) := ev_125
  subst ev_125
  refine lv_aload_n hx hb dL_law_1012 rfl (lv_at hl 0 rfl) ?_
  refine lv_iload_n hx hb dL_law_1013 rfl (lv_at hl 3 rfl) ?_
  refine lv_iconst (v := 2) hx hb dL_law_1014 (by decide) ?_
  refine lv_iadd hx hb dL_law_1015 ?_
  refine lv_topi (fun y_126 ey_126 => ?_)
  obtain rfl : y_126 = nI (i + 2) := ey_126.trans (z_iaddn i 2 rfl rfl)
  refine va_sld hx hb hX hbl hbA G.2.2.2.1 (vp_in_nI (by omega) (by omega)) dL_law_1016 ?_
  refine lv_topi (fun v_127 ev_127 => ?_)
  rw [nI_clamp (by omega)] at ev_127
  have ev_127 : v_127 = xs (i + 2) := ev_127
  subst ev_127
  refine lv_aload_n hx hb dL_law_1017 rfl (lv_at hl 0 rfl) ?_
  refine lv_iload_n hx hb dL_law_1018 rfl (lv_at hl 3 rfl) ?_
  refine lv_iconst (v := 3) hx hb dL_law_1019 (by decide) ?_
  refine lv_iadd hx hb dL_law_1020 ?_
  refine lv_topi (fun y_128 ey_128 => ?_)
  obtain rfl : y_128 = nI (i + 3) := ey_128.trans (z_iaddn i 3 rfl rfl)
  refine va_sld hx hb hX hbl hbA G.2.2.2.1 (vp_in_nI (by omega) (by omega)) dL_law_1021 ?_
  refine lv_topi (fun v_129 ev_129 => ?_)
  rw [nI_clamp (by omega)] at ev_129
  have ev_129 : v_129 = xs (i + 3) := ev_129
  subst ev_129
  refine z_Vi (bc := [[(mo, .inr (11, [.ref m_all, .ref m_has, .int i_size, .int i_next, .int i_where, .int i_token, .int i_number, .int i_word, .int i_wrong, .int i_farCrossing, .ref m_read, .int i_z0, .int i_crossings, .int i_inns, .ref m_posts, .ref m_shut, .ref m_here, .int i_steps, .int i_done, .int i_at, .int i_gone, .ref m_was, .ref m_came, .ref m_seenAt, .ref m_rowWorth, .ref m_farBy, .ref m_used, .int i_everywhere, .int i_again0, .int i_d0, .int i_never, .int i_firstCame, .int i_longRun, .int i_moved, .int i_crowd, .int i_l0, .int i_fitMany, .int i_fitLeast, .int i_fitMost, .ref m_fitPost, .ref m_fitEnd, .ref m_keptPosts, .int i_x0]))], [(m_all, .inl (T.2 0, 3952, .inl f_all))], [(m_posts, .inl (T.2 0, 7, .inl f_posts))], [(m_shut, .inl (T.2 0, 7, .inl f_shut))], [(m_here, .inl (T.2 0, 7, .inl f_here))], [(m_was, .inl (T.2 0, 7, .inl f_was))], [(m_fitPost, .inl (T.2 0, 28, .inl f_fitPost))], [(m_fitEnd, .inl (T.2 0, 49, .inl f_fitEnd))], [(m_keptPosts, .inl (T.2 0, 7, .inl f_keptPosts))]]) (br := [wd0_, wd1_, [(rd, .inr (7, [.ref rl, .ref rdd, .ref rg, .int r0, .int r1, .ref tq, .int r2, .int r3, .int r4, .int r5, .int r6, .int r7, .int r8]))], z, wd, wg, wc, wcp, wr, wrp, wp, [(cd, .inl (T.2 0, 1000, .inl fcd))], wta, z0_a, z1_a, wd0_a, wd1_a, wg0_a, wg1_a, wtb, z0_b, z1_b, wd0_b, wd1_b, wg0_b, wg1_b, wtc, z0_c, z1_c, wd0_c, wd1_c, wg0_c, wg1_c, [(im, .inl (T.2 6, 3, .inr (.inr (.inr (.inr qi)))))], [(mk, .inl (T.2 2, 3, .inl fmk))], [(m_has, .inl (T.2 2, 3, .inl f_has))], [(m_read, .inl (T.2 0, 121, .inl f_read))], [(m_came, .inl (T.2 0, 7, .inl f_came))], [(m_seenAt, .inl (T.2 0, 16384, .inl f_seenAt))], [(m_rowWorth, .inl (T.2 0, 512, .inl f_rowWorth))], [(m_farBy, .inl (T.2 0, 49, .inl f_farBy))], [(m_used, .inl (T.2 0, 7, .inl f_used))], [(xo, .inr (10, [.ref t, .ref im, .ref mk, .ref rd, .ref po, .ref co, .ref tr, .ref wa, .ref wb_, .ref fi, .ref cd]))], wt, z0_, z1_, wg0_, wg1_, wwA_83, wwB_95, wff_105]) (As := [.int (xs (i + 1)), .int (xs (i + 2)), .int (xs (i + 3))]) (rest := []) C G (c_m_fits l T mo m_all m_has i_size i_next i_where i_token i_number i_word i_wrong i_farCrossing m_read i_z0 i_crossings i_inns m_posts m_shut m_here i_steps i_done i_at i_gone m_was m_came m_seenAt m_rowWorth m_farBy m_used i_everywhere i_again0 i_d0 i_never i_firstCame i_longRun i_moved i_crowd i_l0 i_fitMany i_fitLeast i_fitMost m_fitPost m_fitEnd m_keptPosts i_x0 f_all f_posts f_shut f_here f_was f_fitPost f_fitEnd f_keptPosts (xs (i + 1)) (xs (i + 2)) (xs (i + 3)) (by first | assumption | omega | rfl)) (kV_RL_95 C.2.2.2.2 (Nat.le_of_ble_eq_true rfl) (Nat.le_of_ble_eq_true rfl)) [35, 36, 39, 40, 41, 42, 48, 49, 50] [0, 1, 2, 3, 4, 5, 6, 7, 8, 9, 10, 11, 12, 13, 14, 15, 16, 17, 18, 19, 20, 21, 22, 23, 24, 25, 26, 27, 28, 29, 30, 31, 32, 33, 34, 37, 38, 43, 44, 45, 46, 47, 51, 52, 53, 54, 55, 56, 57, 58, 59] rfl rfl (ci := 11) (qc := (RX12, TX12, 43)) rfl rfl (List.mem_flatten.mpr ⟨_, List.mem_of_getElem? (i := 0) rfl, List.mem_cons_self⟩) rfl rfl hl.1 dL_law_1022 (by show _ + 0 ≤ 600000; omega) (by show _ + 0 ≤ 7302250; omega) (fun r_148 b1 H locs hw G => ?_)
  obtain ⟨j_z0_130, j_crossings_131, j_inns_132, j_steps_133, j_done_134, j_at_135, j_gone_136, j_l0_137, j_fitMany_138, j_fitLeast_139, j_fitMost_140, g_posts_141, g_shut_142, g_here_143, g_was_144, g_fitPost_145, g_fitEnd_146, g_keptPosts_147, rfl⟩ := hw
  have G : zS T A s.heap s [wd0_, wd1_, [(rd, .inr (7, [.ref rl, .ref rdd, .ref rg, .int r0, .int r1, .ref tq, .int r2, .int r3, .int r4, .int r5, .int r6, .int r7, .int r8]))], z, wd, wg, wc, wcp, wr, wrp, wp, [(cd, .inl (T.2 0, 1000, .inl fcd))], wta, z0_a, z1_a, wd0_a, wd1_a, wg0_a, wg1_a, wtb, z0_b, z1_b, wd0_b, wd1_b, wg0_b, wg1_b, wtc, z0_c, z1_c, wd0_c, wd1_c, wg0_c, wg1_c, [(im, .inl (T.2 6, 3, .inr (.inr (.inr (.inr qi)))))], [(mk, .inl (T.2 2, 3, .inl fmk))], [(m_has, .inl (T.2 2, 3, .inl f_has))], [(m_read, .inl (T.2 0, 121, .inl f_read))], [(m_came, .inl (T.2 0, 7, .inl f_came))], [(m_seenAt, .inl (T.2 0, 16384, .inl f_seenAt))], [(m_rowWorth, .inl (T.2 0, 512, .inl f_rowWorth))], [(m_farBy, .inl (T.2 0, 49, .inl f_farBy))], [(m_used, .inl (T.2 0, 7, .inl f_used))], [(xo, .inr (10, [.ref t, .ref im, .ref mk, .ref rd, .ref po, .ref co, .ref tr, .ref wa, .ref wb_, .ref fi, .ref cd]))], wt, z0_, z1_, wg0_, wg1_, wwA_83, wwB_95, wff_105, [(mo, .inr (11, [.ref m_all, .ref m_has, .int i_size, .int i_next, .int i_where, .int i_token, .int i_number, .int i_word, .int i_wrong, .int i_farCrossing, .ref m_read, .int j_z0_130, .int j_crossings_131, .int j_inns_132, .ref m_posts, .ref m_shut, .ref m_here, .int j_steps_133, .int j_done_134, .int j_at_135, .int j_gone_136, .ref m_was, .ref m_came, .ref m_seenAt, .ref m_rowWorth, .ref m_farBy, .ref m_used, .int i_everywhere, .int i_again0, .int i_d0, .int i_never, .int i_firstCame, .int i_longRun, .int i_moved, .int i_crowd, .int j_l0_137, .int j_fitMany_138, .int j_fitLeast_139, .int j_fitMost_140, .ref m_fitPost, .ref m_fitEnd, .ref m_keptPosts, .int i_x0]))], [(m_all, .inl (T.2 0, 3952, .inl f_all))], [(m_posts, .inl (T.2 0, 7, .inl g_posts_141))], [(m_shut, .inl (T.2 0, 7, .inl g_shut_142))], [(m_here, .inl (T.2 0, 7, .inl g_here_143))], [(m_was, .inl (T.2 0, 7, .inl g_was_144))], [(m_fitPost, .inl (T.2 0, 28, .inl g_fitPost_145))], [(m_fitEnd, .inl (T.2 0, 49, .inl g_fitEnd_146))], [(m_keptPosts, .inl (T.2 0, 7, .inl g_keptPosts_147))]] _ _ := G
  refine lv_pop hx hb dL_law_1025 rfl ?_
  refine lv_goto (tgt := 1767) hx hb dL_law_1026 (by decide) ?_
  have G := G.sub (bs' := [[(xo, .inr (10, [.ref t, .ref im, .ref mk, .ref rd, .ref po, .ref co, .ref tr, .ref wa, .ref wb_, .ref fi, .ref cd]))], wt, z0_, z1_, wd0_, wd1_, wg0_, wg1_, [(rd, .inr (7, [.ref rl, .ref rdd, .ref rg, .int r0, .int r1, .ref tq, .int r2, .int r3, .int r4, .int r5, .int r6, .int r7, .int r8]))], z, wd, wg, wwA_83, wwB_95, wff_105, wc, wcp, wr, wrp, wp, [(cd, .inl (T.2 0, 1000, .inl fcd))], wta, z0_a, z1_a, wd0_a, wd1_a, wg0_a, wg1_a, wtb, z0_b, z1_b, wd0_b, wd1_b, wg0_b, wg1_b, wtc, z0_c, z1_c, wd0_c, wd1_c, wg0_c, wg1_c, [(im, .inl (T.2 6, 3, .inr (.inr (.inr (.inr qi)))))], [(mk, .inl (T.2 2, 3, .inl fmk))], [(mo, .inr (11, [.ref m_all, .ref m_has, .int i_size, .int i_next, .int i_where, .int i_token, .int i_number, .int i_word, .int i_wrong, .int i_farCrossing, .ref m_read, .int j_z0_130, .int j_crossings_131, .int j_inns_132, .ref m_posts, .ref m_shut, .ref m_here, .int j_steps_133, .int j_done_134, .int j_at_135, .int j_gone_136, .ref m_was, .ref m_came, .ref m_seenAt, .ref m_rowWorth, .ref m_farBy, .ref m_used, .int i_everywhere, .int i_again0, .int i_d0, .int i_never, .int i_firstCame, .int i_longRun, .int i_moved, .int i_crowd, .int j_l0_137, .int j_fitMany_138, .int j_fitLeast_139, .int j_fitMost_140, .ref m_fitPost, .ref m_fitEnd, .ref m_keptPosts, .int i_x0]))], [(m_all, .inl (T.2 0, 3952, .inl f_all))], [(m_has, .inl (T.2 2, 3, .inl f_has))], [(m_read, .inl (T.2 0, 121, .inl f_read))], [(m_posts, .inl (T.2 0, 7, .inl g_posts_141))], [(m_shut, .inl (T.2 0, 7, .inl g_shut_142))], [(m_here, .inl (T.2 0, 7, .inl g_here_143))], [(m_was, .inl (T.2 0, 7, .inl g_was_144))], [(m_came, .inl (T.2 0, 7, .inl f_came))], [(m_seenAt, .inl (T.2 0, 16384, .inl f_seenAt))], [(m_rowWorth, .inl (T.2 0, 512, .inl f_rowWorth))], [(m_farBy, .inl (T.2 0, 49, .inl f_farBy))], [(m_used, .inl (T.2 0, 7, .inl f_used))], [(m_fitPost, .inl (T.2 0, 28, .inl g_fitPost_145))], [(m_fitEnd, .inl (T.2 0, 49, .inl g_fitEnd_146))], [(m_keptPosts, .inl (T.2 0, 7, .inl g_keptPosts_147))]]) [42, 43, 44, 45, 0, 1, 46, 47, 2, 3, 4, 5, 48, 49, 50, 6, 7, 8, 9, 10, 11, 12, 13, 14, 15, 16, 17, 18, 19, 20, 21, 22, 23, 24, 25, 26, 27, 28, 29, 30, 31, 32, 33, 34, 51, 52, 35, 36, 53, 54, 55, 56, 37, 38, 39, 40, 41, 57, 58, 59] rfl
  refine W.widen (k := 216 + 2 * i + 12) (n := 27000 + 6 * (n4A_82 + n4B_94) + 2 * m1f_103) (by omega) (by omega) ?_
  exact kk n4A_82 n4B_94 m1f_103 _ ⟨⟨t, im, mk, rd, po, co, tr, wa, wb_, fi, cd, wt, l0, l1, d0, d1, g0, g1, ln, z0_, z1_, wd0_, wd1_, wg0_, wg1_, rl, rdd, rg, r0, r1, tq, r2, r3, r4, r5, r6, r7, r8, z, wd, wg, wwA_83, mdA_73, wwB_95, mdB_85, wff_105, e0f_96, e1f_97, wc, cpo, wcp, wr, tpo, wrp, wp, fcd, m0, wta, l0a, l1a, d0a, d1a, g0a, g1a, lna, z0_a, z1_a, wd0_a, wd1_a, wg0_a, wg1_a, m1, wtb, l0b, l1b, d0b, d1b, g0b, g1b, lnb, z0_b, z1_b, wd0_b, wd1_b, wg0_b, wg1_b, m2, wtc, l0c, l1c, d0c, d1c, g0c, g1c, lnc, z0_c, z1_c, wd0_c, wd1_c, wg0_c, wg1_c, qi, fmk, m_all, m_has, i_size, i_next, i_where, i_token, i_number, i_word, i_wrong, i_farCrossing, m_read, j_z0_130, j_crossings_131, j_inns_132, m_posts, m_shut, m_here, j_steps_133, j_done_134, j_at_135, j_gone_136, m_was, m_came, m_seenAt, m_rowWorth, m_farBy, m_used, i_everywhere, i_again0, i_d0, i_never, i_firstCame, i_longRun, i_moved, i_crowd, j_l0_137, j_fitMany_138, j_fitLeast_139, j_fitMost_140, m_fitPost, m_fitEnd, m_keptPosts, i_x0, f_all, f_has, f_read, g_posts_141, g_shut_142, g_here_143, g_was_144, f_came, f_seenAt, f_rowWorth, f_farBy, f_used, g_fitPost_145, g_fitEnd_146, g_keptPosts_147⟩, rfl, ⟨v_7, v_8, v_9, v_10, h_11, (by first | assumption | omega)⟩, ⟨v_13, v_14, v_15, v_16, v_17, v_18, h_19, (by first | assumption | omega)⟩, ⟨v_21, v_22, v_23, v_24, v_25, v_26, h_27, (by first | assumption | omega)⟩, H_wd0_, H_wd1_, ⟨v_29, v_30, v_31, h_32⟩, ⟨v_33, v_34, v_35, h_36⟩, H_z, H_wd, H_wg, ⟨laA_72, wyA_74, pc_A_75, f1A_76, f2A_77, f3A_78, f4A_79, f5A_80, f6A_81, h_106, (by first | assumption | omega), (by first | assumption | omega), (by first | assumption | omega)⟩, ⟨laB_84, wyB_86, pc_B_87, f1B_88, f2B_89, f3B_90, f4B_91, f5B_92, f6B_93, h_112, (by first | assumption | omega), (by first | assumption | omega), (by first | assumption | omega)⟩, ⟨e2f_98, e3f_99, e4f_100, e5f_101, r1f_102, r2f_104, h_118, (by first | assumption | omega), (by first | assumption | omega)⟩, H_wc, H_wcp, H_wr, H_wrp, H_wp, H_wta, H_z0_a, H_z1_a, H_wd0_a, H_wd1_a, H_wg0_a, H_wg1_a, H_wtb, H_z0_b, H_z1_b, H_wd0_b, H_wd1_b, H_wg0_b, H_wg1_b, H_wtc, H_z0_c, H_z1_c, H_wd0_c, H_wd1_c, H_wg0_c, H_wg1_c, (by first | assumption | omega), (by first | assumption | omega), (by first | assumption | omega), (by first | assumption | omega), (by first | assumption | omega), (by first | assumption | omega), (by first | assumption | omega), (by first | assumption | omega)⟩ _ _ ls G (lv_sub hl [0, 1, 2, 3] rfl)
set_option maxHeartbeats 40000000 in
set_option maxRecDepth 100000 in
theorem z_case_drawn (l : Launch) {p : Program} {e : Env} {s : State} {m : MethodId} {b : Nat} {below : List Frame} {meth : Method} {c : Code} {Q : State → Prop} {T : zTy} {A : Nat → Prop} {L i : Nat} {xs : Nat → Int32} (hx : p.tables.exec = Jvm.exec) (hb : c.code = cL_law) (C : CallFix p m c cL_law 4 s #[Value.ref b] zT RL) (hX : va_X b L xs s s.heap) (hbl : b < s.heap.size) (hbA : ¬ A b) (hL : L ≤ 3072) (hi6 : i + 6 ≤ L) {xo mo n4A n4B m1f : Nat} (hnA : n4A ≤ 131072) (hnB : n4B ≤ 131072) (hmf : m1f ≤ 16384) {bs : List va_W} (hI : zInv T xo mo n4A n4B m1f bs) {H : Heap} {locs : List Loc} {ls : Array Slot} (G : zS T A s.heap s bs H locs) (hl : lv_has ls 4 [(0, .ref b), (1, .ref xo), (2, .ref mo), (3, .int (nI i))]) (kk : ∀ (n1 n2 n3 : Nat) (bs1 : List va_W), zInv T xo mo n1 n2 n3 bs1 → ∀ (H1 : Heap) (locs1 : List Loc) (ls1 : Array Slot), zS T A s.heap s bs1 H1 locs1 → lv_has ls1 4 [(0, .ref b), (1, .ref xo), (2, .ref mo), (3, .int (nI i))] → W p l e room_1 s m #[Value.ref b] below meth c H1 locs1 (216 + 2 * i + 12) (27000 + 6 * (n1 + n2) + 2 * n3) Q (F0 m 1767 ls1 [])) : W p l e room_1 s m #[Value.ref b] below meth c H locs (216 + 2 * i) (27000 + 6 * (n4A + n4B) + 2 * m1f) Q (F0 m 1029 ls []) := by
  obtain ⟨⟨t, im, mk, rd, po, co, tr, wa, wb_, fi, cd, wt, l0, l1, d0, d1, g0, g1, ln, z0_, z1_, wd0_, wd1_, wg0_, wg1_, rl, rdd, rg, r0, r1, tq, r2, r3, r4, r5, r6, r7, r8, z, wd, wg, wwA, mdA, wwB, mdB, wff, e0f, e1f, wc, cpo, wcp, wr, tpo, wrp, wp, fcd, m0, wta, l0a, l1a, d0a, d1a, g0a, g1a, lna, z0_a, z1_a, wd0_a, wd1_a, wg0_a, wg1_a, m1, wtb, l0b, l1b, d0b, d1b, g0b, g1b, lnb, z0_b, z1_b, wd0_b, wd1_b, wg0_b, wg1_b, m2, wtc, l0c, l1c, d0c, d1c, g0c, g1c, lnc, z0_c, z1_c, wd0_c, wd1_c, wg0_c, wg1_c, qi, fmk, m_all, m_has, i_size, i_next, i_where, i_token, i_number, i_word, i_wrong, i_farCrossing, m_read, i_z0, i_crossings, i_inns, m_posts, m_shut, m_here, i_steps, i_done, i_at, i_gone, m_was, m_came, m_seenAt, m_rowWorth, m_farBy, m_used, i_everywhere, i_again0, i_d0, i_never, i_firstCame, i_longRun, i_moved, i_crowd, i_l0, i_fitMany, i_fitLeast, i_fitMost, m_fitPost, m_fitEnd, m_keptPosts, i_x0, f_all, f_has, f_read, f_posts, f_shut, f_here, f_was, f_came, f_seenAt, f_rowWorth, f_farBy, f_used, f_fitPost, f_fitEnd, f_keptPosts⟩, rfl, H_wt, H_z0_, H_z1_, H_wd0_, H_wd1_, H_wg0_, H_wg1_, H_z, H_wd, H_wg, H_wwA, H_wwB, H_wff, H_wc, H_wcp, H_wr, H_wrp, H_wp, H_wta, H_z0_a, H_z1_a, H_wd0_a, H_wd1_a, H_wg0_a, H_wg1_a, H_wtb, H_z0_b, H_z1_b, H_wd0_b, H_wd1_b, H_wg0_b, H_wg1_b, H_wtc, H_z0_c, H_z1_c, H_wd0_c, H_wd1_c, H_wg0_c, H_wg1_c, hm0, hm1, hm2, h56, hFI, hAI, hRl, hHs⟩ := hI
  replace H_wt : hTold T t l0 l1 d0 d1 g0 g1 ln wt := H_wt
  replace H_z0_ : hLand T l0 z0_ := H_z0_
  replace H_z1_ : hLand T l1 z1_ := H_z1_
  replace H_wd0_ : hDay T d0 wd0_ := H_wd0_
  replace H_wd1_ : hDay T d1 wd1_ := H_wd1_
  replace H_wg0_ : hLog T g0 wg0_ := H_wg0_
  replace H_wg1_ : hLog T g1 wg1_ := H_wg1_
  replace H_z : hLandR T rl z := H_z
  replace H_wd : hDay T rdd wd := H_wd
  replace H_wg : hLog T rg wg := H_wg
  replace H_wwA : hWays T wa mdA n4A l0 wwA := H_wwA
  replace H_wwB : hWays T wb_ mdB n4B l1 wwB := H_wwB
  replace H_wff : hFit T fi e0f e1f m1f wff := H_wff
  replace H_wc : hCourse T co cpo wc := H_wc
  replace H_wcp : hPosts T cpo wcp := H_wcp
  replace H_wr : hTrail T tr tpo wr := H_wr
  replace H_wrp : hPosts T tpo wrp := H_wrp
  replace H_wp : hPosts T po wp := H_wp
  replace H_wta : hTold T m0 l0a l1a d0a d1a g0a g1a lna wta := H_wta
  replace H_z0_a : hLand T l0a z0_a := H_z0_a
  replace H_z1_a : hLand T l1a z1_a := H_z1_a
  replace H_wd0_a : hDay T d0a wd0_a := H_wd0_a
  replace H_wd1_a : hDay T d1a wd1_a := H_wd1_a
  replace H_wg0_a : hLog T g0a wg0_a := H_wg0_a
  replace H_wg1_a : hLog T g1a wg1_a := H_wg1_a
  replace H_wtb : hTold T m1 l0b l1b d0b d1b g0b g1b lnb wtb := H_wtb
  replace H_z0_b : hLand T l0b z0_b := H_z0_b
  replace H_z1_b : hLand T l1b z1_b := H_z1_b
  replace H_wd0_b : hDay T d0b wd0_b := H_wd0_b
  replace H_wd1_b : hDay T d1b wd1_b := H_wd1_b
  replace H_wg0_b : hLog T g0b wg0_b := H_wg0_b
  replace H_wg1_b : hLog T g1b wg1_b := H_wg1_b
  replace H_wtc : hTold T m2 l0c l1c d0c d1c g0c g1c lnc wtc := H_wtc
  replace H_z0_c : hLand T l0c z0_c := H_z0_c
  replace H_z1_c : hLand T l1c z1_c := H_z1_c
  replace H_wd0_c : hDay T d0c wd0_c := H_wd0_c
  replace H_wd1_c : hDay T d1c wd1_c := H_wd1_c
  replace H_wg0_c : hLog T g0c wg0_c := H_wg0_c
  replace H_wg1_c : hLog T g1c wg1_c := H_wg1_c
  replace hm0 : qi 0 = some m0 := hm0
  replace hm1 : qi 1 = some m1 := hm1
  replace hm2 : qi 2 = some m2 := hm2
  replace h56 : ((0 ≤ r5.toInt ∧ r5.toInt ≤ 600) ∧ 0 ≤ r6.toInt ∧ r6.toInt ≤ 1000) := h56
  replace hFI : (¬ e0f = 0 → e1f.toInt = 0 ∧ ¬ mdA = 0 ∨ e1f.toInt = 1 ∧ ¬ mdB = 0) := hFI
  replace hAI : zAI f_all := hAI
  replace hRl : zRl ln lna lnb lnc f_all := hRl
  replace hHs : zHs fmk f_has := hHs
  replace G : zS T A s.heap s [[(xo, .inr (10, [.ref t, .ref im, .ref mk, .ref rd, .ref po, .ref co, .ref tr, .ref wa, .ref wb_, .ref fi, .ref cd]))], wt, z0_, z1_, wd0_, wd1_, wg0_, wg1_, [(rd, .inr (7, [.ref rl, .ref rdd, .ref rg, .int r0, .int r1, .ref tq, .int r2, .int r3, .int r4, .int r5, .int r6, .int r7, .int r8]))], z, wd, wg, wwA, wwB, wff, wc, wcp, wr, wrp, wp, [(cd, .inl (T.2 0, 1000, .inl fcd))], wta, z0_a, z1_a, wd0_a, wd1_a, wg0_a, wg1_a, wtb, z0_b, z1_b, wd0_b, wd1_b, wg0_b, wg1_b, wtc, z0_c, z1_c, wd0_c, wd1_c, wg0_c, wg1_c, [(im, .inl (T.2 6, 3, .inr (.inr (.inr (.inr qi)))))], [(mk, .inl (T.2 2, 3, .inl fmk))], [(mo, .inr (11, [.ref m_all, .ref m_has, .int i_size, .int i_next, .int i_where, .int i_token, .int i_number, .int i_word, .int i_wrong, .int i_farCrossing, .ref m_read, .int i_z0, .int i_crossings, .int i_inns, .ref m_posts, .ref m_shut, .ref m_here, .int i_steps, .int i_done, .int i_at, .int i_gone, .ref m_was, .ref m_came, .ref m_seenAt, .ref m_rowWorth, .ref m_farBy, .ref m_used, .int i_everywhere, .int i_again0, .int i_d0, .int i_never, .int i_firstCame, .int i_longRun, .int i_moved, .int i_crowd, .int i_l0, .int i_fitMany, .int i_fitLeast, .int i_fitMost, .ref m_fitPost, .ref m_fitEnd, .ref m_keptPosts, .int i_x0]))], [(m_all, .inl (T.2 0, 3952, .inl f_all))], [(m_has, .inl (T.2 2, 3, .inl f_has))], [(m_read, .inl (T.2 0, 121, .inl f_read))], [(m_posts, .inl (T.2 0, 7, .inl f_posts))], [(m_shut, .inl (T.2 0, 7, .inl f_shut))], [(m_here, .inl (T.2 0, 7, .inl f_here))], [(m_was, .inl (T.2 0, 7, .inl f_was))], [(m_came, .inl (T.2 0, 7, .inl f_came))], [(m_seenAt, .inl (T.2 0, 16384, .inl f_seenAt))], [(m_rowWorth, .inl (T.2 0, 512, .inl f_rowWorth))], [(m_farBy, .inl (T.2 0, 49, .inl f_farBy))], [(m_used, .inl (T.2 0, 7, .inl f_used))], [(m_fitPost, .inl (T.2 0, 28, .inl f_fitPost))], [(m_fitEnd, .inl (T.2 0, 49, .inl f_fitEnd))], [(m_keptPosts, .inl (T.2 0, 7, .inl f_keptPosts))]] H locs := G
  have hB := zAI_0 hAI
  have hB4 := hB.1
  obtain ⟨hln, hlna, hlnb, hlnc⟩ := zRl_in hAI hRl
  refine lv_aload_n hx hb dL_law_1029 rfl (lv_at hl 1 rfl) ?_
  refine lv_aload_n hx hb dL_law_1030 rfl (lv_at hl 0 rfl) ?_
  refine lv_iload_n hx hb dL_law_1031 rfl (lv_at hl 3 rfl) ?_
  refine lv_iconst (v := 1) hx hb dL_law_1032 (by decide) ?_
  refine lv_iadd hx hb dL_law_1033 ?_
  refine lv_topi (fun y_1 ey_1 => ?_)
  obtain rfl : y_1 = nI (i + 1) := ey_1.trans (z_iaddn i 1 rfl rfl)
  refine va_sld hx hb hX hbl hbA G.2.2.2.1 (vp_in_nI (by omega) (by omega)) dL_law_1034 ?_
  refine lv_topi (fun v_2 ev_2 => ?_)
  rw [nI_clamp (by omega)] at ev_2
  have ev_2 : v_2 = xs (i + 1) := ev_2
  subst ev_2
  refine lv_aload_n hx hb dL_law_1035 rfl (lv_at hl 0 rfl) ?_
  refine lv_iload_n hx hb dL_law_1036 rfl (lv_at hl 3 rfl) ?_
  refine lv_iconst (v := 2) hx hb dL_law_1037 (by decide) ?_
  refine lv_iadd hx hb dL_law_1038 ?_
  refine lv_topi (fun y_3 ey_3 => ?_)
  obtain rfl : y_3 = nI (i + 2) := ey_3.trans (z_iaddn i 2 rfl rfl)
  refine va_sld hx hb hX hbl hbA G.2.2.2.1 (vp_in_nI (by omega) (by omega)) dL_law_1039 ?_
  refine lv_topi (fun v_4 ev_4 => ?_)
  rw [nI_clamp (by omega)] at ev_4
  have ev_4 : v_4 = xs (i + 2) := ev_4
  subst ev_4
  refine lv_aload_n hx hb dL_law_1040 rfl (lv_at hl 0 rfl) ?_
  refine lv_iload_n hx hb dL_law_1041 rfl (lv_at hl 3 rfl) ?_
  refine lv_iconst (v := 3) hx hb dL_law_1042 (by decide) ?_
  refine lv_iadd hx hb dL_law_1043 ?_
  refine lv_topi (fun y_5 ey_5 => ?_)
  obtain rfl : y_5 = nI (i + 3) := ey_5.trans (z_iaddn i 3 rfl rfl)
  refine va_sld hx hb hX hbl hbA G.2.2.2.1 (vp_in_nI (by omega) (by omega)) dL_law_1044 ?_
  refine lv_topi (fun v_6 ev_6 => ?_)
  rw [nI_clamp (by omega)] at ev_6
  have ev_6 : v_6 = xs (i + 3) := ev_6
  subst ev_6
  refine lv_aload_n hx hb dL_law_1045 rfl (lv_at hl 0 rfl) ?_
  refine lv_iload_n hx hb dL_law_1046 rfl (lv_at hl 3 rfl) ?_
  refine lv_iconst (v := 4) hx hb dL_law_1047 (by decide) ?_
  refine lv_iadd hx hb dL_law_1048 ?_
  refine lv_topi (fun y_7 ey_7 => ?_)
  obtain rfl : y_7 = nI (i + 4) := ey_7.trans (z_iaddn i 4 rfl rfl)
  refine va_sld hx hb hX hbl hbA G.2.2.2.1 (vp_in_nI (by omega) (by omega)) dL_law_1049 ?_
  refine lv_topi (fun v_8 ev_8 => ?_)
  rw [nI_clamp (by omega)] at ev_8
  have ev_8 : v_8 = xs (i + 4) := ev_8
  subst ev_8
  obtain ⟨v_9, v_10, v_11, v_12, h_13, h_14⟩ := H_wt
  have h_14 : zKT v_12 := h_14
  obtain ⟨v_15, v_16, v_17, v_18, v_19, v_20, h_21, h_22⟩ := H_z0_
  have h_22 : zLI v_15 v_17 v_19 := h_22
  obtain ⟨v_23, v_24, v_25, v_26, v_27, v_28, h_29, h_30⟩ := H_z1_
  have h_30 : zLI v_23 v_25 v_27 := h_30
  obtain ⟨v_31, v_32, v_33, v_34, v_35, v_36, v_37, v_38, v_39, v_40, h_41⟩ := H_wc
  obtain ⟨v_42, v_43, v_44, v_45, v_46, v_47, h_48⟩ := H_wcp
  refine z_Vi (bc := [[(xo, .inr (10, [.ref t, .ref im, .ref mk, .ref rd, .ref po, .ref co, .ref tr, .ref wa, .ref wb_, .ref fi, .ref cd]))], wt, z0_, z1_, wc, wcp]) (br := [wd0_, wd1_, wg0_, wg1_, [(rd, .inr (7, [.ref rl, .ref rdd, .ref rg, .int r0, .int r1, .ref tq, .int r2, .int r3, .int r4, .int r5, .int r6, .int r7, .int r8]))], z, wd, wg, wwA, wwB, wff, wr, wrp, wp, [(cd, .inl (T.2 0, 1000, .inl fcd))], wta, z0_a, z1_a, wd0_a, wd1_a, wg0_a, wg1_a, wtb, z0_b, z1_b, wd0_b, wd1_b, wg0_b, wg1_b, wtc, z0_c, z1_c, wd0_c, wd1_c, wg0_c, wg1_c, [(im, .inl (T.2 6, 3, .inr (.inr (.inr (.inr qi)))))], [(mk, .inl (T.2 2, 3, .inl fmk))], [(mo, .inr (11, [.ref m_all, .ref m_has, .int i_size, .int i_next, .int i_where, .int i_token, .int i_number, .int i_word, .int i_wrong, .int i_farCrossing, .ref m_read, .int i_z0, .int i_crossings, .int i_inns, .ref m_posts, .ref m_shut, .ref m_here, .int i_steps, .int i_done, .int i_at, .int i_gone, .ref m_was, .ref m_came, .ref m_seenAt, .ref m_rowWorth, .ref m_farBy, .ref m_used, .int i_everywhere, .int i_again0, .int i_d0, .int i_never, .int i_firstCame, .int i_longRun, .int i_moved, .int i_crowd, .int i_l0, .int i_fitMany, .int i_fitLeast, .int i_fitMost, .ref m_fitPost, .ref m_fitEnd, .ref m_keptPosts, .int i_x0]))], [(m_all, .inl (T.2 0, 3952, .inl f_all))], [(m_has, .inl (T.2 2, 3, .inl f_has))], [(m_read, .inl (T.2 0, 121, .inl f_read))], [(m_posts, .inl (T.2 0, 7, .inl f_posts))], [(m_shut, .inl (T.2 0, 7, .inl f_shut))], [(m_here, .inl (T.2 0, 7, .inl f_here))], [(m_was, .inl (T.2 0, 7, .inl f_was))], [(m_came, .inl (T.2 0, 7, .inl f_came))], [(m_seenAt, .inl (T.2 0, 16384, .inl f_seenAt))], [(m_rowWorth, .inl (T.2 0, 512, .inl f_rowWorth))], [(m_farBy, .inl (T.2 0, 49, .inl f_farBy))], [(m_used, .inl (T.2 0, 7, .inl f_used))], [(m_fitPost, .inl (T.2 0, 28, .inl f_fitPost))], [(m_fitEnd, .inl (T.2 0, 49, .inl f_fitEnd))], [(m_keptPosts, .inl (T.2 0, 7, .inl f_keptPosts))]]) (As := [.int (xs (i + 1)), .int (xs (i + 2)), .int (xs (i + 3)), .int (xs (i + 4))]) (rest := []) C G (c_drawn l T xo t im mk rd po co tr wa wb_ fi cd l0 l1 d0 d1 g0 g1 ln v_9 v_10 v_11 v_12 wt v_15 v_16 v_17 v_18 v_19 v_20 z0_ v_23 v_24 v_25 v_26 v_27 v_28 z1_ cpo v_31 v_32 v_33 v_34 v_35 v_36 v_37 v_38 v_39 v_40 wc v_42 v_43 v_44 v_45 v_46 v_47 wcp (xs (i + 1)) (xs (i + 2)) (xs (i + 3)) (xs (i + 4)) h_13 (by first | assumption | omega | rfl) h_21 (by first | assumption | omega | rfl) h_29 (by first | assumption | omega | rfl) h_41 h_48) (kV_RL_96 C.2.2.2.2 (Nat.le_of_ble_eq_true rfl) (Nat.le_of_ble_eq_true rfl)) [0, 1, 2, 3, 15, 16] [4, 5, 6, 7, 8, 9, 10, 11, 12, 13, 14, 17, 18, 19, 20, 21, 22, 23, 24, 25, 26, 27, 28, 29, 30, 31, 32, 33, 34, 35, 36, 37, 38, 39, 40, 41, 42, 43, 44, 45, 46, 47, 48, 49, 50, 51, 52, 53, 54, 55, 56, 57, 58, 59] rfl rfl (ci := 10) (qc := (RX11, TX11, 11)) rfl rfl (List.mem_flatten.mpr ⟨_, List.mem_of_getElem? (i := 0) rfl, List.mem_cons_self⟩) rfl rfl hl.1 dL_law_1050 (by show _ + 0 ≤ 600000; omega) (by show _ + 0 ≤ 7302250; omega) (fun r_69 b1 H locs hw G => ?_)
  obtain ⟨cla_49, cfw_50, v0_51, v1_52, v2_53, v3_54, v4_55, v5_56, v6_57, v7_58, wc_59, cpl_60, cf1_61, cf2_62, cf3_63, cst_64, cwh_65, wcp_66, rfl, h_67, h_68⟩ := hw
  have G : zS T A s.heap s [wd0_, wd1_, wg0_, wg1_, [(rd, .inr (7, [.ref rl, .ref rdd, .ref rg, .int r0, .int r1, .ref tq, .int r2, .int r3, .int r4, .int r5, .int r6, .int r7, .int r8]))], z, wd, wg, wwA, wwB, wff, wr, wrp, wp, [(cd, .inl (T.2 0, 1000, .inl fcd))], wta, z0_a, z1_a, wd0_a, wd1_a, wg0_a, wg1_a, wtb, z0_b, z1_b, wd0_b, wd1_b, wg0_b, wg1_b, wtc, z0_c, z1_c, wd0_c, wd1_c, wg0_c, wg1_c, [(im, .inl (T.2 6, 3, .inr (.inr (.inr (.inr qi)))))], [(mk, .inl (T.2 2, 3, .inl fmk))], [(mo, .inr (11, [.ref m_all, .ref m_has, .int i_size, .int i_next, .int i_where, .int i_token, .int i_number, .int i_word, .int i_wrong, .int i_farCrossing, .ref m_read, .int i_z0, .int i_crossings, .int i_inns, .ref m_posts, .ref m_shut, .ref m_here, .int i_steps, .int i_done, .int i_at, .int i_gone, .ref m_was, .ref m_came, .ref m_seenAt, .ref m_rowWorth, .ref m_farBy, .ref m_used, .int i_everywhere, .int i_again0, .int i_d0, .int i_never, .int i_firstCame, .int i_longRun, .int i_moved, .int i_crowd, .int i_l0, .int i_fitMany, .int i_fitLeast, .int i_fitMost, .ref m_fitPost, .ref m_fitEnd, .ref m_keptPosts, .int i_x0]))], [(m_all, .inl (T.2 0, 3952, .inl f_all))], [(m_has, .inl (T.2 2, 3, .inl f_has))], [(m_read, .inl (T.2 0, 121, .inl f_read))], [(m_posts, .inl (T.2 0, 7, .inl f_posts))], [(m_shut, .inl (T.2 0, 7, .inl f_shut))], [(m_here, .inl (T.2 0, 7, .inl f_here))], [(m_was, .inl (T.2 0, 7, .inl f_was))], [(m_came, .inl (T.2 0, 7, .inl f_came))], [(m_seenAt, .inl (T.2 0, 16384, .inl f_seenAt))], [(m_rowWorth, .inl (T.2 0, 512, .inl f_rowWorth))], [(m_farBy, .inl (T.2 0, 49, .inl f_farBy))], [(m_used, .inl (T.2 0, 7, .inl f_used))], [(m_fitPost, .inl (T.2 0, 28, .inl f_fitPost))], [(m_fitEnd, .inl (T.2 0, 49, .inl f_fitEnd))], [(m_keptPosts, .inl (T.2 0, 7, .inl f_keptPosts))], [(xo, .inr (10, [.ref t, .ref im, .ref mk, .ref rd, .ref po, .ref co, .ref tr, .ref wa, .ref wb_, .ref fi, .ref cd]))], wt, z0_, z1_, wc_59, wcp_66] _ _ := G
  refine lv_pop hx hb dL_law_1053 rfl ?_
  refine lv_aload_n hx hb dL_law_1054 rfl (lv_at hl 2 rfl) ?_
  refine lv_aload_n hx hb dL_law_1055 rfl (lv_at hl 0 rfl) ?_
  refine lv_iload_n hx hb dL_law_1056 rfl (lv_at hl 3 rfl) ?_
  refine lv_iconst (v := 1) hx hb dL_law_1057 (by decide) ?_
  refine lv_iadd hx hb dL_law_1058 ?_
  refine lv_topi (fun y_70 ey_70 => ?_)
  obtain rfl : y_70 = nI (i + 1) := ey_70.trans (z_iaddn i 1 rfl rfl)
  refine va_sld hx hb hX hbl hbA G.2.2.2.1 (vp_in_nI (by omega) (by omega)) dL_law_1059 ?_
  refine lv_topi (fun v_71 ev_71 => ?_)
  rw [nI_clamp (by omega)] at ev_71
  have ev_71 : v_71 = xs (i + 1) := ev_71
  subst ev_71
  refine lv_aload_n hx hb dL_law_1060 rfl (lv_at hl 0 rfl) ?_
  refine lv_iload_n hx hb dL_law_1061 rfl (lv_at hl 3 rfl) ?_
  refine lv_iconst (v := 2) hx hb dL_law_1062 (by decide) ?_
  refine lv_iadd hx hb dL_law_1063 ?_
  refine lv_topi (fun y_72 ey_72 => ?_)
  obtain rfl : y_72 = nI (i + 2) := ey_72.trans (z_iaddn i 2 rfl rfl)
  refine va_sld hx hb hX hbl hbA G.2.2.2.1 (vp_in_nI (by omega) (by omega)) dL_law_1064 ?_
  refine lv_topi (fun v_73 ev_73 => ?_)
  rw [nI_clamp (by omega)] at ev_73
  have ev_73 : v_73 = xs (i + 2) := ev_73
  subst ev_73
  refine lv_aload_n hx hb dL_law_1065 rfl (lv_at hl 0 rfl) ?_
  refine lv_iload_n hx hb dL_law_1066 rfl (lv_at hl 3 rfl) ?_
  refine lv_iconst (v := 3) hx hb dL_law_1067 (by decide) ?_
  refine lv_iadd hx hb dL_law_1068 ?_
  refine lv_topi (fun y_74 ey_74 => ?_)
  obtain rfl : y_74 = nI (i + 3) := ey_74.trans (z_iaddn i 3 rfl rfl)
  refine va_sld hx hb hX hbl hbA G.2.2.2.1 (vp_in_nI (by omega) (by omega)) dL_law_1069 ?_
  refine lv_topi (fun v_75 ev_75 => ?_)
  rw [nI_clamp (by omega)] at ev_75
  have ev_75 : v_75 = xs (i + 3) := ev_75
  subst ev_75
  refine lv_aload_n hx hb dL_law_1070 rfl (lv_at hl 0 rfl) ?_
  refine lv_iload_n hx hb dL_law_1071 rfl (lv_at hl 3 rfl) ?_
  refine lv_iconst (v := 4) hx hb dL_law_1072 (by decide) ?_
  refine lv_iadd hx hb dL_law_1073 ?_
  refine lv_topi (fun y_76 ey_76 => ?_)
  obtain rfl : y_76 = nI (i + 4) := ey_76.trans (z_iaddn i 4 rfl rfl)
  refine va_sld hx hb hX hbl hbA G.2.2.2.1 (vp_in_nI (by omega) (by omega)) dL_law_1074 ?_
  refine lv_topi (fun v_77 ev_77 => ?_)
  rw [nI_clamp (by omega)] at ev_77
  have ev_77 : v_77 = xs (i + 4) := ev_77
  subst ev_77
  refine z_Vi (bc := [[(mo, .inr (11, [.ref m_all, .ref m_has, .int i_size, .int i_next, .int i_where, .int i_token, .int i_number, .int i_word, .int i_wrong, .int i_farCrossing, .ref m_read, .int i_z0, .int i_crossings, .int i_inns, .ref m_posts, .ref m_shut, .ref m_here, .int i_steps, .int i_done, .int i_at, .int i_gone, .ref m_was, .ref m_came, .ref m_seenAt, .ref m_rowWorth, .ref m_farBy, .ref m_used, .int i_everywhere, .int i_again0, .int i_d0, .int i_never, .int i_firstCame, .int i_longRun, .int i_moved, .int i_crowd, .int i_l0, .int i_fitMany, .int i_fitLeast, .int i_fitMost, .ref m_fitPost, .ref m_fitEnd, .ref m_keptPosts, .int i_x0]))], [(m_all, .inl (T.2 0, 3952, .inl f_all))], [(m_posts, .inl (T.2 0, 7, .inl f_posts))], [(m_shut, .inl (T.2 0, 7, .inl f_shut))], [(m_here, .inl (T.2 0, 7, .inl f_here))], [(m_was, .inl (T.2 0, 7, .inl f_was))]]) (br := [wd0_, wd1_, wg0_, wg1_, [(rd, .inr (7, [.ref rl, .ref rdd, .ref rg, .int r0, .int r1, .ref tq, .int r2, .int r3, .int r4, .int r5, .int r6, .int r7, .int r8]))], z, wd, wg, wwA, wwB, wff, wr, wrp, wp, [(cd, .inl (T.2 0, 1000, .inl fcd))], wta, z0_a, z1_a, wd0_a, wd1_a, wg0_a, wg1_a, wtb, z0_b, z1_b, wd0_b, wd1_b, wg0_b, wg1_b, wtc, z0_c, z1_c, wd0_c, wd1_c, wg0_c, wg1_c, [(im, .inl (T.2 6, 3, .inr (.inr (.inr (.inr qi)))))], [(mk, .inl (T.2 2, 3, .inl fmk))], [(m_has, .inl (T.2 2, 3, .inl f_has))], [(m_read, .inl (T.2 0, 121, .inl f_read))], [(m_came, .inl (T.2 0, 7, .inl f_came))], [(m_seenAt, .inl (T.2 0, 16384, .inl f_seenAt))], [(m_rowWorth, .inl (T.2 0, 512, .inl f_rowWorth))], [(m_farBy, .inl (T.2 0, 49, .inl f_farBy))], [(m_used, .inl (T.2 0, 7, .inl f_used))], [(m_fitPost, .inl (T.2 0, 28, .inl f_fitPost))], [(m_fitEnd, .inl (T.2 0, 49, .inl f_fitEnd))], [(m_keptPosts, .inl (T.2 0, 7, .inl f_keptPosts))], [(xo, .inr (10, [.ref t, .ref im, .ref mk, .ref rd, .ref po, .ref co, .ref tr, .ref wa, .ref wb_, .ref fi, .ref cd]))], wt, z0_, z1_, wc_59, wcp_66]) (As := [.int (xs (i + 1)), .int (xs (i + 2)), .int (xs (i + 3)), .int (xs (i + 4))]) (rest := []) C G (c_m_drawn l T mo m_all m_has i_size i_next i_where i_token i_number i_word i_wrong i_farCrossing m_read i_z0 i_crossings i_inns m_posts m_shut m_here i_steps i_done i_at i_gone m_was m_came m_seenAt m_rowWorth m_farBy m_used i_everywhere i_again0 i_d0 i_never i_firstCame i_longRun i_moved i_crowd i_l0 i_fitMany i_fitLeast i_fitMost m_fitPost m_fitEnd m_keptPosts i_x0 f_all f_posts f_shut f_here f_was (xs (i + 1)) (xs (i + 2)) (xs (i + 3)) (xs (i + 4)) (by first | assumption | omega | rfl)) (kV_RL_99 C.2.2.2.2 (Nat.le_of_ble_eq_true rfl) (Nat.le_of_ble_eq_true rfl)) [38, 39, 42, 43, 44, 45] [0, 1, 2, 3, 4, 5, 6, 7, 8, 9, 10, 11, 12, 13, 14, 15, 16, 17, 18, 19, 20, 21, 22, 23, 24, 25, 26, 27, 28, 29, 30, 31, 32, 33, 34, 35, 36, 37, 40, 41, 46, 47, 48, 49, 50, 51, 52, 53, 54, 55, 56, 57, 58, 59] rfl rfl (ci := 11) (qc := (RX12, TX12, 43)) rfl rfl (List.mem_flatten.mpr ⟨_, List.mem_of_getElem? (i := 0) rfl, List.mem_cons_self⟩) rfl rfl hl.1 dL_law_1075 (by show _ + 0 ≤ 600000; omega) (by show _ + 0 ≤ 7302250; omega) (fun r_95 b1 H locs hw G => ?_)
  obtain ⟨j_z0_78, j_crossings_79, j_inns_80, j_steps_81, j_done_82, j_at_83, j_gone_84, j_x0_85, j_never_86, j_firstCame_87, j_longRun_88, j_moved_89, j_crowd_90, g_posts_91, g_shut_92, g_here_93, g_was_94, rfl⟩ := hw
  have G : zS T A s.heap s [wd0_, wd1_, wg0_, wg1_, [(rd, .inr (7, [.ref rl, .ref rdd, .ref rg, .int r0, .int r1, .ref tq, .int r2, .int r3, .int r4, .int r5, .int r6, .int r7, .int r8]))], z, wd, wg, wwA, wwB, wff, wr, wrp, wp, [(cd, .inl (T.2 0, 1000, .inl fcd))], wta, z0_a, z1_a, wd0_a, wd1_a, wg0_a, wg1_a, wtb, z0_b, z1_b, wd0_b, wd1_b, wg0_b, wg1_b, wtc, z0_c, z1_c, wd0_c, wd1_c, wg0_c, wg1_c, [(im, .inl (T.2 6, 3, .inr (.inr (.inr (.inr qi)))))], [(mk, .inl (T.2 2, 3, .inl fmk))], [(m_has, .inl (T.2 2, 3, .inl f_has))], [(m_read, .inl (T.2 0, 121, .inl f_read))], [(m_came, .inl (T.2 0, 7, .inl f_came))], [(m_seenAt, .inl (T.2 0, 16384, .inl f_seenAt))], [(m_rowWorth, .inl (T.2 0, 512, .inl f_rowWorth))], [(m_farBy, .inl (T.2 0, 49, .inl f_farBy))], [(m_used, .inl (T.2 0, 7, .inl f_used))], [(m_fitPost, .inl (T.2 0, 28, .inl f_fitPost))], [(m_fitEnd, .inl (T.2 0, 49, .inl f_fitEnd))], [(m_keptPosts, .inl (T.2 0, 7, .inl f_keptPosts))], [(xo, .inr (10, [.ref t, .ref im, .ref mk, .ref rd, .ref po, .ref co, .ref tr, .ref wa, .ref wb_, .ref fi, .ref cd]))], wt, z0_, z1_, wc_59, wcp_66, [(mo, .inr (11, [.ref m_all, .ref m_has, .int i_size, .int i_next, .int i_where, .int i_token, .int i_number, .int i_word, .int i_wrong, .int i_farCrossing, .ref m_read, .int j_z0_78, .int j_crossings_79, .int j_inns_80, .ref m_posts, .ref m_shut, .ref m_here, .int j_steps_81, .int j_done_82, .int j_at_83, .int j_gone_84, .ref m_was, .ref m_came, .ref m_seenAt, .ref m_rowWorth, .ref m_farBy, .ref m_used, .int i_everywhere, .int i_again0, .int i_d0, .int j_never_86, .int j_firstCame_87, .int j_longRun_88, .int j_moved_89, .int j_crowd_90, .int i_l0, .int i_fitMany, .int i_fitLeast, .int i_fitMost, .ref m_fitPost, .ref m_fitEnd, .ref m_keptPosts, .int j_x0_85]))], [(m_all, .inl (T.2 0, 3952, .inl f_all))], [(m_posts, .inl (T.2 0, 7, .inl g_posts_91))], [(m_shut, .inl (T.2 0, 7, .inl g_shut_92))], [(m_here, .inl (T.2 0, 7, .inl g_here_93))], [(m_was, .inl (T.2 0, 7, .inl g_was_94))]] _ _ := G
  refine lv_pop hx hb dL_law_1078 rfl ?_
  refine lv_goto (tgt := 1767) hx hb dL_law_1079 (by decide) ?_
  have G := G.sub (bs' := [[(xo, .inr (10, [.ref t, .ref im, .ref mk, .ref rd, .ref po, .ref co, .ref tr, .ref wa, .ref wb_, .ref fi, .ref cd]))], wt, z0_, z1_, wd0_, wd1_, wg0_, wg1_, [(rd, .inr (7, [.ref rl, .ref rdd, .ref rg, .int r0, .int r1, .ref tq, .int r2, .int r3, .int r4, .int r5, .int r6, .int r7, .int r8]))], z, wd, wg, wwA, wwB, wff, wc_59, wcp_66, wr, wrp, wp, [(cd, .inl (T.2 0, 1000, .inl fcd))], wta, z0_a, z1_a, wd0_a, wd1_a, wg0_a, wg1_a, wtb, z0_b, z1_b, wd0_b, wd1_b, wg0_b, wg1_b, wtc, z0_c, z1_c, wd0_c, wd1_c, wg0_c, wg1_c, [(im, .inl (T.2 6, 3, .inr (.inr (.inr (.inr qi)))))], [(mk, .inl (T.2 2, 3, .inl fmk))], [(mo, .inr (11, [.ref m_all, .ref m_has, .int i_size, .int i_next, .int i_where, .int i_token, .int i_number, .int i_word, .int i_wrong, .int i_farCrossing, .ref m_read, .int j_z0_78, .int j_crossings_79, .int j_inns_80, .ref m_posts, .ref m_shut, .ref m_here, .int j_steps_81, .int j_done_82, .int j_at_83, .int j_gone_84, .ref m_was, .ref m_came, .ref m_seenAt, .ref m_rowWorth, .ref m_farBy, .ref m_used, .int i_everywhere, .int i_again0, .int i_d0, .int j_never_86, .int j_firstCame_87, .int j_longRun_88, .int j_moved_89, .int j_crowd_90, .int i_l0, .int i_fitMany, .int i_fitLeast, .int i_fitMost, .ref m_fitPost, .ref m_fitEnd, .ref m_keptPosts, .int j_x0_85]))], [(m_all, .inl (T.2 0, 3952, .inl f_all))], [(m_has, .inl (T.2 2, 3, .inl f_has))], [(m_read, .inl (T.2 0, 121, .inl f_read))], [(m_posts, .inl (T.2 0, 7, .inl g_posts_91))], [(m_shut, .inl (T.2 0, 7, .inl g_shut_92))], [(m_here, .inl (T.2 0, 7, .inl g_here_93))], [(m_was, .inl (T.2 0, 7, .inl g_was_94))], [(m_came, .inl (T.2 0, 7, .inl f_came))], [(m_seenAt, .inl (T.2 0, 16384, .inl f_seenAt))], [(m_rowWorth, .inl (T.2 0, 512, .inl f_rowWorth))], [(m_farBy, .inl (T.2 0, 49, .inl f_farBy))], [(m_used, .inl (T.2 0, 7, .inl f_used))], [(m_fitPost, .inl (T.2 0, 28, .inl f_fitPost))], [(m_fitEnd, .inl (T.2 0, 49, .inl f_fitEnd))], [(m_keptPosts, .inl (T.2 0, 7, .inl f_keptPosts))]]) [48, 49, 50, 51, 0, 1, 2, 3, 4, 5, 6, 7, 8, 9, 10, 52, 53, 11, 12, 13, 14, 15, 16, 17, 18, 19, 20, 21, 22, 23, 24, 25, 26, 27, 28, 29, 30, 31, 32, 33, 34, 35, 36, 37, 54, 55, 38, 39, 56, 57, 58, 59, 40, 41, 42, 43, 44, 45, 46, 47] rfl
  refine W.widen (k := 216 + 2 * i + 12) (n := 27000 + 6 * (n4A + n4B) + 2 * m1f) (by omega) (by omega) ?_
  exact kk n4A n4B m1f _ ⟨⟨t, im, mk, rd, po, co, tr, wa, wb_, fi, cd, wt, l0, l1, d0, d1, g0, g1, ln, z0_, z1_, wd0_, wd1_, wg0_, wg1_, rl, rdd, rg, r0, r1, tq, r2, r3, r4, r5, r6, r7, r8, z, wd, wg, wwA, mdA, wwB, mdB, wff, e0f, e1f, wc_59, cpo, wcp_66, wr, tpo, wrp, wp, fcd, m0, wta, l0a, l1a, d0a, d1a, g0a, g1a, lna, z0_a, z1_a, wd0_a, wd1_a, wg0_a, wg1_a, m1, wtb, l0b, l1b, d0b, d1b, g0b, g1b, lnb, z0_b, z1_b, wd0_b, wd1_b, wg0_b, wg1_b, m2, wtc, l0c, l1c, d0c, d1c, g0c, g1c, lnc, z0_c, z1_c, wd0_c, wd1_c, wg0_c, wg1_c, qi, fmk, m_all, m_has, i_size, i_next, i_where, i_token, i_number, i_word, i_wrong, i_farCrossing, m_read, j_z0_78, j_crossings_79, j_inns_80, m_posts, m_shut, m_here, j_steps_81, j_done_82, j_at_83, j_gone_84, m_was, m_came, m_seenAt, m_rowWorth, m_farBy, m_used, i_everywhere, i_again0, i_d0, j_never_86, j_firstCame_87, j_longRun_88, j_moved_89, j_crowd_90, i_l0, i_fitMany, i_fitLeast, i_fitMost, m_fitPost, m_fitEnd, m_keptPosts, j_x0_85, f_all, f_has, f_read, g_posts_91, g_shut_92, g_here_93, g_was_94, f_came, f_seenAt, f_rowWorth, f_farBy, f_used, f_fitPost, f_fitEnd, f_keptPosts⟩, rfl, ⟨v_9, v_10, v_11, v_12, h_13, (by first | assumption | omega)⟩, ⟨v_15, v_16, v_17, v_18, v_19, v_20, h_21, (by first | assumption | omega)⟩, ⟨v_23, v_24, v_25, v_26, v_27, v_28, h_29, (by first | assumption | omega)⟩, H_wd0_, H_wd1_, H_wg0_, H_wg1_, H_z, H_wd, H_wg, H_wwA, H_wwB, H_wff, ⟨cla_49, cfw_50, v0_51, v1_52, v2_53, v3_54, v4_55, v5_56, v6_57, v7_58, h_67⟩, ⟨cpl_60, cf1_61, cf2_62, cf3_63, cst_64, cwh_65, h_68⟩, H_wr, H_wrp, H_wp, H_wta, H_z0_a, H_z1_a, H_wd0_a, H_wd1_a, H_wg0_a, H_wg1_a, H_wtb, H_z0_b, H_z1_b, H_wd0_b, H_wd1_b, H_wg0_b, H_wg1_b, H_wtc, H_z0_c, H_z1_c, H_wd0_c, H_wd1_c, H_wg0_c, H_wg1_c, (by first | assumption | omega), (by first | assumption | omega), (by first | assumption | omega), (by first | assumption | omega), (by first | assumption | omega), (by first | assumption | omega), (by first | assumption | omega), (by first | assumption | omega)⟩ _ _ ls G (lv_sub hl [0, 1, 2, 3] rfl)
set_option maxHeartbeats 40000000 in
set_option maxRecDepth 100000 in
theorem z_case_far (l : Launch) {p : Program} {e : Env} {s : State} {m : MethodId} {b : Nat} {below : List Frame} {meth : Method} {c : Code} {Q : State → Prop} {T : zTy} {A : Nat → Prop} {L i : Nat} {xs : Nat → Int32} (hx : p.tables.exec = Jvm.exec) (hb : c.code = cL_law) (C : CallFix p m c cL_law 4 s #[Value.ref b] zT RL) (hX : va_X b L xs s s.heap) (hbl : b < s.heap.size) (hbA : ¬ A b) (hL : L ≤ 3072) (hi6 : i + 6 ≤ L) {xo mo n4A n4B m1f : Nat} (hnA : n4A ≤ 131072) (hnB : n4B ≤ 131072) (hmf : m1f ≤ 16384) {bs : List va_W} (hI : zInv T xo mo n4A n4B m1f bs) {H : Heap} {locs : List Loc} {ls : Array Slot} (G : zS T A s.heap s bs H locs) (hl : lv_has ls 4 [(0, .ref b), (1, .ref xo), (2, .ref mo), (3, .int (nI i))]) (kk : ∀ (n1 n2 n3 : Nat) (bs1 : List va_W), zInv T xo mo n1 n2 n3 bs1 → ∀ (H1 : Heap) (locs1 : List Loc) (ls1 : Array Slot), zS T A s.heap s bs1 H1 locs1 → lv_has ls1 4 [(0, .ref b), (1, .ref xo), (2, .ref mo), (3, .int (nI i))] → W p l e room_1 s m #[Value.ref b] below meth c H1 locs1 (216 + 2 * i + 12) (27000 + 6 * (n1 + n2) + 2 * n3) Q (F0 m 1767 ls1 [])) : W p l e room_1 s m #[Value.ref b] below meth c H locs (216 + 2 * i) (27000 + 6 * (n4A + n4B) + 2 * m1f) Q (F0 m 1082 ls []) := by
  obtain ⟨⟨t, im, mk, rd, po, co, tr, wa, wb_, fi, cd, wt, l0, l1, d0, d1, g0, g1, ln, z0_, z1_, wd0_, wd1_, wg0_, wg1_, rl, rdd, rg, r0, r1, tq, r2, r3, r4, r5, r6, r7, r8, z, wd, wg, wwA, mdA, wwB, mdB, wff, e0f, e1f, wc, cpo, wcp, wr, tpo, wrp, wp, fcd, m0, wta, l0a, l1a, d0a, d1a, g0a, g1a, lna, z0_a, z1_a, wd0_a, wd1_a, wg0_a, wg1_a, m1, wtb, l0b, l1b, d0b, d1b, g0b, g1b, lnb, z0_b, z1_b, wd0_b, wd1_b, wg0_b, wg1_b, m2, wtc, l0c, l1c, d0c, d1c, g0c, g1c, lnc, z0_c, z1_c, wd0_c, wd1_c, wg0_c, wg1_c, qi, fmk, m_all, m_has, i_size, i_next, i_where, i_token, i_number, i_word, i_wrong, i_farCrossing, m_read, i_z0, i_crossings, i_inns, m_posts, m_shut, m_here, i_steps, i_done, i_at, i_gone, m_was, m_came, m_seenAt, m_rowWorth, m_farBy, m_used, i_everywhere, i_again0, i_d0, i_never, i_firstCame, i_longRun, i_moved, i_crowd, i_l0, i_fitMany, i_fitLeast, i_fitMost, m_fitPost, m_fitEnd, m_keptPosts, i_x0, f_all, f_has, f_read, f_posts, f_shut, f_here, f_was, f_came, f_seenAt, f_rowWorth, f_farBy, f_used, f_fitPost, f_fitEnd, f_keptPosts⟩, rfl, H_wt, H_z0_, H_z1_, H_wd0_, H_wd1_, H_wg0_, H_wg1_, H_z, H_wd, H_wg, H_wwA, H_wwB, H_wff, H_wc, H_wcp, H_wr, H_wrp, H_wp, H_wta, H_z0_a, H_z1_a, H_wd0_a, H_wd1_a, H_wg0_a, H_wg1_a, H_wtb, H_z0_b, H_z1_b, H_wd0_b, H_wd1_b, H_wg0_b, H_wg1_b, H_wtc, H_z0_c, H_z1_c, H_wd0_c, H_wd1_c, H_wg0_c, H_wg1_c, hm0, hm1, hm2, h56, hFI, hAI, hRl, hHs⟩ := hI
  replace H_wt : hTold T t l0 l1 d0 d1 g0 g1 ln wt := H_wt
  replace H_z0_ : hLand T l0 z0_ := H_z0_
  replace H_z1_ : hLand T l1 z1_ := H_z1_
  replace H_wd0_ : hDay T d0 wd0_ := H_wd0_
  replace H_wd1_ : hDay T d1 wd1_ := H_wd1_
  replace H_wg0_ : hLog T g0 wg0_ := H_wg0_
  replace H_wg1_ : hLog T g1 wg1_ := H_wg1_
  replace H_z : hLandR T rl z := H_z
  replace H_wd : hDay T rdd wd := H_wd
  replace H_wg : hLog T rg wg := H_wg
  replace H_wwA : hWays T wa mdA n4A l0 wwA := H_wwA
  replace H_wwB : hWays T wb_ mdB n4B l1 wwB := H_wwB
  replace H_wff : hFit T fi e0f e1f m1f wff := H_wff
  replace H_wc : hCourse T co cpo wc := H_wc
  replace H_wcp : hPosts T cpo wcp := H_wcp
  replace H_wr : hTrail T tr tpo wr := H_wr
  replace H_wrp : hPosts T tpo wrp := H_wrp
  replace H_wp : hPosts T po wp := H_wp
  replace H_wta : hTold T m0 l0a l1a d0a d1a g0a g1a lna wta := H_wta
  replace H_z0_a : hLand T l0a z0_a := H_z0_a
  replace H_z1_a : hLand T l1a z1_a := H_z1_a
  replace H_wd0_a : hDay T d0a wd0_a := H_wd0_a
  replace H_wd1_a : hDay T d1a wd1_a := H_wd1_a
  replace H_wg0_a : hLog T g0a wg0_a := H_wg0_a
  replace H_wg1_a : hLog T g1a wg1_a := H_wg1_a
  replace H_wtb : hTold T m1 l0b l1b d0b d1b g0b g1b lnb wtb := H_wtb
  replace H_z0_b : hLand T l0b z0_b := H_z0_b
  replace H_z1_b : hLand T l1b z1_b := H_z1_b
  replace H_wd0_b : hDay T d0b wd0_b := H_wd0_b
  replace H_wd1_b : hDay T d1b wd1_b := H_wd1_b
  replace H_wg0_b : hLog T g0b wg0_b := H_wg0_b
  replace H_wg1_b : hLog T g1b wg1_b := H_wg1_b
  replace H_wtc : hTold T m2 l0c l1c d0c d1c g0c g1c lnc wtc := H_wtc
  replace H_z0_c : hLand T l0c z0_c := H_z0_c
  replace H_z1_c : hLand T l1c z1_c := H_z1_c
  replace H_wd0_c : hDay T d0c wd0_c := H_wd0_c
  replace H_wd1_c : hDay T d1c wd1_c := H_wd1_c
  replace H_wg0_c : hLog T g0c wg0_c := H_wg0_c
  replace H_wg1_c : hLog T g1c wg1_c := H_wg1_c
  replace hm0 : qi 0 = some m0 := hm0
  replace hm1 : qi 1 = some m1 := hm1
  replace hm2 : qi 2 = some m2 := hm2
  replace h56 : ((0 ≤ r5.toInt ∧ r5.toInt ≤ 600) ∧ 0 ≤ r6.toInt ∧ r6.toInt ≤ 1000) := h56
  replace hFI : (¬ e0f = 0 → e1f.toInt = 0 ∧ ¬ mdA = 0 ∨ e1f.toInt = 1 ∧ ¬ mdB = 0) := hFI
  replace hAI : zAI f_all := hAI
  replace hRl : zRl ln lna lnb lnc f_all := hRl
  replace hHs : zHs fmk f_has := hHs
  replace G : zS T A s.heap s [[(xo, .inr (10, [.ref t, .ref im, .ref mk, .ref rd, .ref po, .ref co, .ref tr, .ref wa, .ref wb_, .ref fi, .ref cd]))], wt, z0_, z1_, wd0_, wd1_, wg0_, wg1_, [(rd, .inr (7, [.ref rl, .ref rdd, .ref rg, .int r0, .int r1, .ref tq, .int r2, .int r3, .int r4, .int r5, .int r6, .int r7, .int r8]))], z, wd, wg, wwA, wwB, wff, wc, wcp, wr, wrp, wp, [(cd, .inl (T.2 0, 1000, .inl fcd))], wta, z0_a, z1_a, wd0_a, wd1_a, wg0_a, wg1_a, wtb, z0_b, z1_b, wd0_b, wd1_b, wg0_b, wg1_b, wtc, z0_c, z1_c, wd0_c, wd1_c, wg0_c, wg1_c, [(im, .inl (T.2 6, 3, .inr (.inr (.inr (.inr qi)))))], [(mk, .inl (T.2 2, 3, .inl fmk))], [(mo, .inr (11, [.ref m_all, .ref m_has, .int i_size, .int i_next, .int i_where, .int i_token, .int i_number, .int i_word, .int i_wrong, .int i_farCrossing, .ref m_read, .int i_z0, .int i_crossings, .int i_inns, .ref m_posts, .ref m_shut, .ref m_here, .int i_steps, .int i_done, .int i_at, .int i_gone, .ref m_was, .ref m_came, .ref m_seenAt, .ref m_rowWorth, .ref m_farBy, .ref m_used, .int i_everywhere, .int i_again0, .int i_d0, .int i_never, .int i_firstCame, .int i_longRun, .int i_moved, .int i_crowd, .int i_l0, .int i_fitMany, .int i_fitLeast, .int i_fitMost, .ref m_fitPost, .ref m_fitEnd, .ref m_keptPosts, .int i_x0]))], [(m_all, .inl (T.2 0, 3952, .inl f_all))], [(m_has, .inl (T.2 2, 3, .inl f_has))], [(m_read, .inl (T.2 0, 121, .inl f_read))], [(m_posts, .inl (T.2 0, 7, .inl f_posts))], [(m_shut, .inl (T.2 0, 7, .inl f_shut))], [(m_here, .inl (T.2 0, 7, .inl f_here))], [(m_was, .inl (T.2 0, 7, .inl f_was))], [(m_came, .inl (T.2 0, 7, .inl f_came))], [(m_seenAt, .inl (T.2 0, 16384, .inl f_seenAt))], [(m_rowWorth, .inl (T.2 0, 512, .inl f_rowWorth))], [(m_farBy, .inl (T.2 0, 49, .inl f_farBy))], [(m_used, .inl (T.2 0, 7, .inl f_used))], [(m_fitPost, .inl (T.2 0, 28, .inl f_fitPost))], [(m_fitEnd, .inl (T.2 0, 49, .inl f_fitEnd))], [(m_keptPosts, .inl (T.2 0, 7, .inl f_keptPosts))]] H locs := G
  have hB := zAI_0 hAI
  have hB4 := hB.1
  obtain ⟨hln, hlna, hlnb, hlnc⟩ := zRl_in hAI hRl
  refine lv_aload_n hx hb dL_law_1082 rfl (lv_at hl 1 rfl) ?_
  refine lv_aload_n hx hb dL_law_1083 rfl (lv_at hl 0 rfl) ?_
  refine lv_iload_n hx hb dL_law_1084 rfl (lv_at hl 3 rfl) ?_
  refine lv_iconst (v := 1) hx hb dL_law_1085 (by decide) ?_
  refine lv_iadd hx hb dL_law_1086 ?_
  refine lv_topi (fun y_1 ey_1 => ?_)
  obtain rfl : y_1 = nI (i + 1) := ey_1.trans (z_iaddn i 1 rfl rfl)
  refine va_sld hx hb hX hbl hbA G.2.2.2.1 (vp_in_nI (by omega) (by omega)) dL_law_1087 ?_
  refine lv_topi (fun v_2 ev_2 => ?_)
  rw [nI_clamp (by omega)] at ev_2
  have ev_2 : v_2 = xs (i + 1) := ev_2
  subst ev_2
  refine lv_aload_n hx hb dL_law_1088 rfl (lv_at hl 0 rfl) ?_
  refine lv_iload_n hx hb dL_law_1089 rfl (lv_at hl 3 rfl) ?_
  refine lv_iconst (v := 2) hx hb dL_law_1090 (by decide) ?_
  refine lv_iadd hx hb dL_law_1091 ?_
  refine lv_topi (fun y_3 ey_3 => ?_)
  obtain rfl : y_3 = nI (i + 2) := ey_3.trans (z_iaddn i 2 rfl rfl)
  refine va_sld hx hb hX hbl hbA G.2.2.2.1 (vp_in_nI (by omega) (by omega)) dL_law_1092 ?_
  refine lv_topi (fun v_4 ev_4 => ?_)
  rw [nI_clamp (by omega)] at ev_4
  have ev_4 : v_4 = xs (i + 2) := ev_4
  subst ev_4
  refine lv_aload_n hx hb dL_law_1093 rfl (lv_at hl 0 rfl) ?_
  refine lv_iload_n hx hb dL_law_1094 rfl (lv_at hl 3 rfl) ?_
  refine lv_iconst (v := 3) hx hb dL_law_1095 (by decide) ?_
  refine lv_iadd hx hb dL_law_1096 ?_
  refine lv_topi (fun y_5 ey_5 => ?_)
  obtain rfl : y_5 = nI (i + 3) := ey_5.trans (z_iaddn i 3 rfl rfl)
  refine va_sld hx hb hX hbl hbA G.2.2.2.1 (vp_in_nI (by omega) (by omega)) dL_law_1097 ?_
  refine lv_topi (fun v_6 ev_6 => ?_)
  rw [nI_clamp (by omega)] at ev_6
  have ev_6 : v_6 = xs (i + 3) := ev_6
  subst ev_6
  obtain ⟨v_7, v_8, v_9, v_10, h_11, h_12⟩ := H_wt
  have h_12 : zKT v_10 := h_12
  obtain ⟨v_13, v_14, v_15, v_16, v_17, v_18, h_19, h_20⟩ := H_z0_
  have h_20 : zLI v_13 v_15 v_17 := h_20
  obtain ⟨v_21, v_22, v_23, v_24, v_25, v_26, h_27, h_28⟩ := H_z1_
  have h_28 : zLI v_21 v_23 v_25 := h_28
  refine z_Vi (bc := [[(xo, .inr (10, [.ref t, .ref im, .ref mk, .ref rd, .ref po, .ref co, .ref tr, .ref wa, .ref wb_, .ref fi, .ref cd]))], wt, z0_, z1_]) (br := [wd0_, wd1_, wg0_, wg1_, [(rd, .inr (7, [.ref rl, .ref rdd, .ref rg, .int r0, .int r1, .ref tq, .int r2, .int r3, .int r4, .int r5, .int r6, .int r7, .int r8]))], z, wd, wg, wwA, wwB, wff, wc, wcp, wr, wrp, wp, [(cd, .inl (T.2 0, 1000, .inl fcd))], wta, z0_a, z1_a, wd0_a, wd1_a, wg0_a, wg1_a, wtb, z0_b, z1_b, wd0_b, wd1_b, wg0_b, wg1_b, wtc, z0_c, z1_c, wd0_c, wd1_c, wg0_c, wg1_c, [(im, .inl (T.2 6, 3, .inr (.inr (.inr (.inr qi)))))], [(mk, .inl (T.2 2, 3, .inl fmk))], [(mo, .inr (11, [.ref m_all, .ref m_has, .int i_size, .int i_next, .int i_where, .int i_token, .int i_number, .int i_word, .int i_wrong, .int i_farCrossing, .ref m_read, .int i_z0, .int i_crossings, .int i_inns, .ref m_posts, .ref m_shut, .ref m_here, .int i_steps, .int i_done, .int i_at, .int i_gone, .ref m_was, .ref m_came, .ref m_seenAt, .ref m_rowWorth, .ref m_farBy, .ref m_used, .int i_everywhere, .int i_again0, .int i_d0, .int i_never, .int i_firstCame, .int i_longRun, .int i_moved, .int i_crowd, .int i_l0, .int i_fitMany, .int i_fitLeast, .int i_fitMost, .ref m_fitPost, .ref m_fitEnd, .ref m_keptPosts, .int i_x0]))], [(m_all, .inl (T.2 0, 3952, .inl f_all))], [(m_has, .inl (T.2 2, 3, .inl f_has))], [(m_read, .inl (T.2 0, 121, .inl f_read))], [(m_posts, .inl (T.2 0, 7, .inl f_posts))], [(m_shut, .inl (T.2 0, 7, .inl f_shut))], [(m_here, .inl (T.2 0, 7, .inl f_here))], [(m_was, .inl (T.2 0, 7, .inl f_was))], [(m_came, .inl (T.2 0, 7, .inl f_came))], [(m_seenAt, .inl (T.2 0, 16384, .inl f_seenAt))], [(m_rowWorth, .inl (T.2 0, 512, .inl f_rowWorth))], [(m_farBy, .inl (T.2 0, 49, .inl f_farBy))], [(m_used, .inl (T.2 0, 7, .inl f_used))], [(m_fitPost, .inl (T.2 0, 28, .inl f_fitPost))], [(m_fitEnd, .inl (T.2 0, 49, .inl f_fitEnd))], [(m_keptPosts, .inl (T.2 0, 7, .inl f_keptPosts))]]) (As := [.int (xs (i + 1)), .int (xs (i + 2)), .int (xs (i + 3))]) (rest := []) C G (c_far l T xo t im mk rd po co tr wa wb_ fi cd l0 l1 d0 d1 g0 g1 ln v_7 v_8 v_9 v_10 wt v_13 v_14 v_15 v_16 v_17 v_18 z0_ v_21 v_22 v_23 v_24 v_25 v_26 z1_ (xs (i + 1)) (xs (i + 2)) (xs (i + 3)) h_11 (by first | assumption | omega | rfl) h_19 (by first | assumption | omega | rfl) h_27 (by first | assumption | omega | rfl)) (kV_RL_100 C.2.2.2.2 (Nat.le_of_ble_eq_true rfl) (Nat.le_of_ble_eq_true rfl)) [0, 1, 2, 3] [4, 5, 6, 7, 8, 9, 10, 11, 12, 13, 14, 15, 16, 17, 18, 19, 20, 21, 22, 23, 24, 25, 26, 27, 28, 29, 30, 31, 32, 33, 34, 35, 36, 37, 38, 39, 40, 41, 42, 43, 44, 45, 46, 47, 48, 49, 50, 51, 52, 53, 54, 55, 56, 57, 58, 59] rfl rfl (ci := 10) (qc := (RX11, TX11, 11)) rfl rfl (List.mem_flatten.mpr ⟨_, List.mem_of_getElem? (i := 0) rfl, List.mem_cons_self⟩) rfl rfl hl.1 dL_law_1098 (by show _ + 0 ≤ 600000; omega) (by show _ + 0 ≤ 7302250; omega) (fun r_29 b1 H locs hw G => ?_)
  obtain rfl := hw
  have G : zS T A s.heap s [wd0_, wd1_, wg0_, wg1_, [(rd, .inr (7, [.ref rl, .ref rdd, .ref rg, .int r0, .int r1, .ref tq, .int r2, .int r3, .int r4, .int r5, .int r6, .int r7, .int r8]))], z, wd, wg, wwA, wwB, wff, wc, wcp, wr, wrp, wp, [(cd, .inl (T.2 0, 1000, .inl fcd))], wta, z0_a, z1_a, wd0_a, wd1_a, wg0_a, wg1_a, wtb, z0_b, z1_b, wd0_b, wd1_b, wg0_b, wg1_b, wtc, z0_c, z1_c, wd0_c, wd1_c, wg0_c, wg1_c, [(im, .inl (T.2 6, 3, .inr (.inr (.inr (.inr qi)))))], [(mk, .inl (T.2 2, 3, .inl fmk))], [(mo, .inr (11, [.ref m_all, .ref m_has, .int i_size, .int i_next, .int i_where, .int i_token, .int i_number, .int i_word, .int i_wrong, .int i_farCrossing, .ref m_read, .int i_z0, .int i_crossings, .int i_inns, .ref m_posts, .ref m_shut, .ref m_here, .int i_steps, .int i_done, .int i_at, .int i_gone, .ref m_was, .ref m_came, .ref m_seenAt, .ref m_rowWorth, .ref m_farBy, .ref m_used, .int i_everywhere, .int i_again0, .int i_d0, .int i_never, .int i_firstCame, .int i_longRun, .int i_moved, .int i_crowd, .int i_l0, .int i_fitMany, .int i_fitLeast, .int i_fitMost, .ref m_fitPost, .ref m_fitEnd, .ref m_keptPosts, .int i_x0]))], [(m_all, .inl (T.2 0, 3952, .inl f_all))], [(m_has, .inl (T.2 2, 3, .inl f_has))], [(m_read, .inl (T.2 0, 121, .inl f_read))], [(m_posts, .inl (T.2 0, 7, .inl f_posts))], [(m_shut, .inl (T.2 0, 7, .inl f_shut))], [(m_here, .inl (T.2 0, 7, .inl f_here))], [(m_was, .inl (T.2 0, 7, .inl f_was))], [(m_came, .inl (T.2 0, 7, .inl f_came))], [(m_seenAt, .inl (T.2 0, 16384, .inl f_seenAt))], [(m_rowWorth, .inl (T.2 0, 512, .inl f_rowWorth))], [(m_farBy, .inl (T.2 0, 49, .inl f_farBy))], [(m_used, .inl (T.2 0, 7, .inl f_used))], [(m_fitPost, .inl (T.2 0, 28, .inl f_fitPost))], [(m_fitEnd, .inl (T.2 0, 49, .inl f_fitEnd))], [(m_keptPosts, .inl (T.2 0, 7, .inl f_keptPosts))], [(xo, .inr (10, [.ref t, .ref im, .ref mk, .ref rd, .ref po, .ref co, .ref tr, .ref wa, .ref wb_, .ref fi, .ref cd]))], wt, z0_, z1_] _ _ := G
  refine lv_pop hx hb dL_law_1101 rfl ?_
  refine lv_aload_n hx hb dL_law_1102 rfl (lv_at hl 2 rfl) ?_
  refine lv_aload_n hx hb dL_law_1103 rfl (lv_at hl 0 rfl) ?_
  refine lv_iload_n hx hb dL_law_1104 rfl (lv_at hl 3 rfl) ?_
  refine lv_iconst (v := 1) hx hb dL_law_1105 (by decide) ?_
  refine lv_iadd hx hb dL_law_1106 ?_
  refine lv_topi (fun y_30 ey_30 => ?_)
  obtain rfl : y_30 = nI (i + 1) := ey_30.trans (z_iaddn i 1 rfl rfl)
  refine va_sld hx hb hX hbl hbA G.2.2.2.1 (vp_in_nI (by omega) (by omega)) dL_law_1107 ?_
  refine lv_topi (fun v_31 ev_31 => ?_)
  rw [nI_clamp (by omega)] at ev_31
  have ev_31 : v_31 = xs (i + 1) := ev_31
  subst ev_31
  refine lv_aload_n hx hb dL_law_1108 rfl (lv_at hl 0 rfl) ?_
  refine lv_iload_n hx hb dL_law_1109 rfl (lv_at hl 3 rfl) ?_
  refine lv_iconst (v := 2) hx hb dL_law_1110 (by decide) ?_
  refine lv_iadd hx hb dL_law_1111 ?_
  refine lv_topi (fun y_32 ey_32 => ?_)
  obtain rfl : y_32 = nI (i + 2) := ey_32.trans (z_iaddn i 2 rfl rfl)
  refine va_sld hx hb hX hbl hbA G.2.2.2.1 (vp_in_nI (by omega) (by omega)) dL_law_1112 ?_
  refine lv_topi (fun v_33 ev_33 => ?_)
  rw [nI_clamp (by omega)] at ev_33
  have ev_33 : v_33 = xs (i + 2) := ev_33
  subst ev_33
  refine lv_aload_n hx hb dL_law_1113 rfl (lv_at hl 0 rfl) ?_
  refine lv_iload_n hx hb dL_law_1114 rfl (lv_at hl 3 rfl) ?_
  refine lv_iconst (v := 3) hx hb dL_law_1115 (by decide) ?_
  refine lv_iadd hx hb dL_law_1116 ?_
  refine lv_topi (fun y_34 ey_34 => ?_)
  obtain rfl : y_34 = nI (i + 3) := ey_34.trans (z_iaddn i 3 rfl rfl)
  refine va_sld hx hb hX hbl hbA G.2.2.2.1 (vp_in_nI (by omega) (by omega)) dL_law_1117 ?_
  refine lv_topi (fun v_35 ev_35 => ?_)
  rw [nI_clamp (by omega)] at ev_35
  have ev_35 : v_35 = xs (i + 3) := ev_35
  subst ev_35
  refine z_Vi (bc := [[(mo, .inr (11, [.ref m_all, .ref m_has, .int i_size, .int i_next, .int i_where, .int i_token, .int i_number, .int i_word, .int i_wrong, .int i_farCrossing, .ref m_read, .int i_z0, .int i_crossings, .int i_inns, .ref m_posts, .ref m_shut, .ref m_here, .int i_steps, .int i_done, .int i_at, .int i_gone, .ref m_was, .ref m_came, .ref m_seenAt, .ref m_rowWorth, .ref m_farBy, .ref m_used, .int i_everywhere, .int i_again0, .int i_d0, .int i_never, .int i_firstCame, .int i_longRun, .int i_moved, .int i_crowd, .int i_l0, .int i_fitMany, .int i_fitLeast, .int i_fitMost, .ref m_fitPost, .ref m_fitEnd, .ref m_keptPosts, .int i_x0]))], [(m_all, .inl (T.2 0, 3952, .inl f_all))], [(m_posts, .inl (T.2 0, 7, .inl f_posts))], [(m_shut, .inl (T.2 0, 7, .inl f_shut))], [(m_here, .inl (T.2 0, 7, .inl f_here))], [(m_farBy, .inl (T.2 0, 49, .inl f_farBy))]]) (br := [wd0_, wd1_, wg0_, wg1_, [(rd, .inr (7, [.ref rl, .ref rdd, .ref rg, .int r0, .int r1, .ref tq, .int r2, .int r3, .int r4, .int r5, .int r6, .int r7, .int r8]))], z, wd, wg, wwA, wwB, wff, wc, wcp, wr, wrp, wp, [(cd, .inl (T.2 0, 1000, .inl fcd))], wta, z0_a, z1_a, wd0_a, wd1_a, wg0_a, wg1_a, wtb, z0_b, z1_b, wd0_b, wd1_b, wg0_b, wg1_b, wtc, z0_c, z1_c, wd0_c, wd1_c, wg0_c, wg1_c, [(im, .inl (T.2 6, 3, .inr (.inr (.inr (.inr qi)))))], [(mk, .inl (T.2 2, 3, .inl fmk))], [(m_has, .inl (T.2 2, 3, .inl f_has))], [(m_read, .inl (T.2 0, 121, .inl f_read))], [(m_was, .inl (T.2 0, 7, .inl f_was))], [(m_came, .inl (T.2 0, 7, .inl f_came))], [(m_seenAt, .inl (T.2 0, 16384, .inl f_seenAt))], [(m_rowWorth, .inl (T.2 0, 512, .inl f_rowWorth))], [(m_used, .inl (T.2 0, 7, .inl f_used))], [(m_fitPost, .inl (T.2 0, 28, .inl f_fitPost))], [(m_fitEnd, .inl (T.2 0, 49, .inl f_fitEnd))], [(m_keptPosts, .inl (T.2 0, 7, .inl f_keptPosts))], [(xo, .inr (10, [.ref t, .ref im, .ref mk, .ref rd, .ref po, .ref co, .ref tr, .ref wa, .ref wb_, .ref fi, .ref cd]))], wt, z0_, z1_]) (As := [.int (xs (i + 1)), .int (xs (i + 2)), .int (xs (i + 3))]) (rest := []) C G (c_m_far l T mo m_all m_has i_size i_next i_where i_token i_number i_word i_wrong i_farCrossing m_read i_z0 i_crossings i_inns m_posts m_shut m_here i_steps i_done i_at i_gone m_was m_came m_seenAt m_rowWorth m_farBy m_used i_everywhere i_again0 i_d0 i_never i_firstCame i_longRun i_moved i_crowd i_l0 i_fitMany i_fitLeast i_fitMost m_fitPost m_fitEnd m_keptPosts i_x0 f_all f_posts f_shut f_here f_farBy (xs (i + 1)) (xs (i + 2)) (xs (i + 3)) (by first | assumption | omega | rfl)) (kV_RL_103 C.2.2.2.2 (Nat.le_of_ble_eq_true rfl) (Nat.le_of_ble_eq_true rfl)) [40, 41, 44, 45, 46, 51] [0, 1, 2, 3, 4, 5, 6, 7, 8, 9, 10, 11, 12, 13, 14, 15, 16, 17, 18, 19, 20, 21, 22, 23, 24, 25, 26, 27, 28, 29, 30, 31, 32, 33, 34, 35, 36, 37, 38, 39, 42, 43, 47, 48, 49, 50, 52, 53, 54, 55, 56, 57, 58, 59] rfl rfl (ci := 11) (qc := (RX12, TX12, 43)) rfl rfl (List.mem_flatten.mpr ⟨_, List.mem_of_getElem? (i := 0) rfl, List.mem_cons_self⟩) rfl rfl hl.1 dL_law_1118 (by show _ + 0 ≤ 600000; omega) (by show _ + 0 ≤ 7302250; omega) (fun r_45 b1 H locs hw G => ?_)
  obtain ⟨j_z0_36, j_crossings_37, j_inns_38, j_steps_39, j_done_40, g_posts_41, g_shut_42, g_here_43, g_farBy_44, rfl⟩ := hw
  have G : zS T A s.heap s [wd0_, wd1_, wg0_, wg1_, [(rd, .inr (7, [.ref rl, .ref rdd, .ref rg, .int r0, .int r1, .ref tq, .int r2, .int r3, .int r4, .int r5, .int r6, .int r7, .int r8]))], z, wd, wg, wwA, wwB, wff, wc, wcp, wr, wrp, wp, [(cd, .inl (T.2 0, 1000, .inl fcd))], wta, z0_a, z1_a, wd0_a, wd1_a, wg0_a, wg1_a, wtb, z0_b, z1_b, wd0_b, wd1_b, wg0_b, wg1_b, wtc, z0_c, z1_c, wd0_c, wd1_c, wg0_c, wg1_c, [(im, .inl (T.2 6, 3, .inr (.inr (.inr (.inr qi)))))], [(mk, .inl (T.2 2, 3, .inl fmk))], [(m_has, .inl (T.2 2, 3, .inl f_has))], [(m_read, .inl (T.2 0, 121, .inl f_read))], [(m_was, .inl (T.2 0, 7, .inl f_was))], [(m_came, .inl (T.2 0, 7, .inl f_came))], [(m_seenAt, .inl (T.2 0, 16384, .inl f_seenAt))], [(m_rowWorth, .inl (T.2 0, 512, .inl f_rowWorth))], [(m_used, .inl (T.2 0, 7, .inl f_used))], [(m_fitPost, .inl (T.2 0, 28, .inl f_fitPost))], [(m_fitEnd, .inl (T.2 0, 49, .inl f_fitEnd))], [(m_keptPosts, .inl (T.2 0, 7, .inl f_keptPosts))], [(xo, .inr (10, [.ref t, .ref im, .ref mk, .ref rd, .ref po, .ref co, .ref tr, .ref wa, .ref wb_, .ref fi, .ref cd]))], wt, z0_, z1_, [(mo, .inr (11, [.ref m_all, .ref m_has, .int i_size, .int i_next, .int i_where, .int i_token, .int i_number, .int i_word, .int i_wrong, .int i_farCrossing, .ref m_read, .int j_z0_36, .int j_crossings_37, .int j_inns_38, .ref m_posts, .ref m_shut, .ref m_here, .int j_steps_39, .int j_done_40, .int i_at, .int i_gone, .ref m_was, .ref m_came, .ref m_seenAt, .ref m_rowWorth, .ref m_farBy, .ref m_used, .int i_everywhere, .int i_again0, .int i_d0, .int i_never, .int i_firstCame, .int i_longRun, .int i_moved, .int i_crowd, .int i_l0, .int i_fitMany, .int i_fitLeast, .int i_fitMost, .ref m_fitPost, .ref m_fitEnd, .ref m_keptPosts, .int i_x0]))], [(m_all, .inl (T.2 0, 3952, .inl f_all))], [(m_posts, .inl (T.2 0, 7, .inl g_posts_41))], [(m_shut, .inl (T.2 0, 7, .inl g_shut_42))], [(m_here, .inl (T.2 0, 7, .inl g_here_43))], [(m_farBy, .inl (T.2 0, 49, .inl g_farBy_44))]] _ _ := G
  refine lv_pop hx hb dL_law_1121 rfl ?_
  refine lv_goto (tgt := 1767) hx hb dL_law_1122 (by decide) ?_
  have G := G.sub (bs' := [[(xo, .inr (10, [.ref t, .ref im, .ref mk, .ref rd, .ref po, .ref co, .ref tr, .ref wa, .ref wb_, .ref fi, .ref cd]))], wt, z0_, z1_, wd0_, wd1_, wg0_, wg1_, [(rd, .inr (7, [.ref rl, .ref rdd, .ref rg, .int r0, .int r1, .ref tq, .int r2, .int r3, .int r4, .int r5, .int r6, .int r7, .int r8]))], z, wd, wg, wwA, wwB, wff, wc, wcp, wr, wrp, wp, [(cd, .inl (T.2 0, 1000, .inl fcd))], wta, z0_a, z1_a, wd0_a, wd1_a, wg0_a, wg1_a, wtb, z0_b, z1_b, wd0_b, wd1_b, wg0_b, wg1_b, wtc, z0_c, z1_c, wd0_c, wd1_c, wg0_c, wg1_c, [(im, .inl (T.2 6, 3, .inr (.inr (.inr (.inr qi)))))], [(mk, .inl (T.2 2, 3, .inl fmk))], [(mo, .inr (11, [.ref m_all, .ref m_has, .int i_size, .int i_next, .int i_where, .int i_token, .int i_number, .int i_word, .int i_wrong, .int i_farCrossing, .ref m_read, .int j_z0_36, .int j_crossings_37, .int j_inns_38, .ref m_posts, .ref m_shut, .ref m_here, .int j_steps_39, .int j_done_40, .int i_at, .int i_gone, .ref m_was, .ref m_came, .ref m_seenAt, .ref m_rowWorth, .ref m_farBy, .ref m_used, .int i_everywhere, .int i_again0, .int i_d0, .int i_never, .int i_firstCame, .int i_longRun, .int i_moved, .int i_crowd, .int i_l0, .int i_fitMany, .int i_fitLeast, .int i_fitMost, .ref m_fitPost, .ref m_fitEnd, .ref m_keptPosts, .int i_x0]))], [(m_all, .inl (T.2 0, 3952, .inl f_all))], [(m_has, .inl (T.2 2, 3, .inl f_has))], [(m_read, .inl (T.2 0, 121, .inl f_read))], [(m_posts, .inl (T.2 0, 7, .inl g_posts_41))], [(m_shut, .inl (T.2 0, 7, .inl g_shut_42))], [(m_here, .inl (T.2 0, 7, .inl g_here_43))], [(m_was, .inl (T.2 0, 7, .inl f_was))], [(m_came, .inl (T.2 0, 7, .inl f_came))], [(m_seenAt, .inl (T.2 0, 16384, .inl f_seenAt))], [(m_rowWorth, .inl (T.2 0, 512, .inl f_rowWorth))], [(m_farBy, .inl (T.2 0, 49, .inl g_farBy_44))], [(m_used, .inl (T.2 0, 7, .inl f_used))], [(m_fitPost, .inl (T.2 0, 28, .inl f_fitPost))], [(m_fitEnd, .inl (T.2 0, 49, .inl f_fitEnd))], [(m_keptPosts, .inl (T.2 0, 7, .inl f_keptPosts))]]) [50, 51, 52, 53, 0, 1, 2, 3, 4, 5, 6, 7, 8, 9, 10, 11, 12, 13, 14, 15, 16, 17, 18, 19, 20, 21, 22, 23, 24, 25, 26, 27, 28, 29, 30, 31, 32, 33, 34, 35, 36, 37, 38, 39, 54, 55, 40, 41, 56, 57, 58, 42, 43, 44, 45, 59, 46, 47, 48, 49] rfl
  refine W.widen (k := 216 + 2 * i + 12) (n := 27000 + 6 * (n4A + n4B) + 2 * m1f) (by omega) (by omega) ?_
  exact kk n4A n4B m1f _ ⟨⟨t, im, mk, rd, po, co, tr, wa, wb_, fi, cd, wt, l0, l1, d0, d1, g0, g1, ln, z0_, z1_, wd0_, wd1_, wg0_, wg1_, rl, rdd, rg, r0, r1, tq, r2, r3, r4, r5, r6, r7, r8, z, wd, wg, wwA, mdA, wwB, mdB, wff, e0f, e1f, wc, cpo, wcp, wr, tpo, wrp, wp, fcd, m0, wta, l0a, l1a, d0a, d1a, g0a, g1a, lna, z0_a, z1_a, wd0_a, wd1_a, wg0_a, wg1_a, m1, wtb, l0b, l1b, d0b, d1b, g0b, g1b, lnb, z0_b, z1_b, wd0_b, wd1_b, wg0_b, wg1_b, m2, wtc, l0c, l1c, d0c, d1c, g0c, g1c, lnc, z0_c, z1_c, wd0_c, wd1_c, wg0_c, wg1_c, qi, fmk, m_all, m_has, i_size, i_next, i_where, i_token, i_number, i_word, i_wrong, i_farCrossing, m_read, j_z0_36, j_crossings_37, j_inns_38, m_posts, m_shut, m_here, j_steps_39, j_done_40, i_at, i_gone, m_was, m_came, m_seenAt, m_rowWorth, m_farBy, m_used, i_everywhere, i_again0, i_d0, i_never, i_firstCame, i_longRun, i_moved, i_crowd, i_l0, i_fitMany, i_fitLeast, i_fitMost, m_fitPost, m_fitEnd, m_keptPosts, i_x0, f_all, f_has, f_read, g_posts_41, g_shut_42, g_here_43, f_was, f_came, f_seenAt, f_rowWorth, g_farBy_44, f_used, f_fitPost, f_fitEnd, f_keptPosts⟩, rfl, ⟨v_7, v_8, v_9, v_10, h_11, (by first | assumption | omega)⟩, ⟨v_13, v_14, v_15, v_16, v_17, v_18, h_19, (by first | assumption | omega)⟩, ⟨v_21, v_22, v_23, v_24, v_25, v_26, h_27, (by first | assumption | omega)⟩, H_wd0_, H_wd1_, H_wg0_, H_wg1_, H_z, H_wd, H_wg, H_wwA, H_wwB, H_wff, H_wc, H_wcp, H_wr, H_wrp, H_wp, H_wta, H_z0_a, H_z1_a, H_wd0_a, H_wd1_a, H_wg0_a, H_wg1_a, H_wtb, H_z0_b, H_z1_b, H_wd0_b, H_wd1_b, H_wg0_b, H_wg1_b, H_wtc, H_z0_c, H_z1_c, H_wd0_c, H_wd1_c, H_wg0_c, H_wg1_c, (by first | assumption | omega), (by first | assumption | omega), (by first | assumption | omega), (by first | assumption | omega), (by first | assumption | omega), (by first | assumption | omega), (by first | assumption | omega), (by first | assumption | omega)⟩ _ _ ls G (lv_sub hl [0, 1, 2, 3] rfl)
set_option maxHeartbeats 40000000 in
set_option maxRecDepth 100000 in
theorem z_case_reach (l : Launch) {p : Program} {e : Env} {s : State} {m : MethodId} {b : Nat} {below : List Frame} {meth : Method} {c : Code} {Q : State → Prop} {T : zTy} {A : Nat → Prop} {L i : Nat} {xs : Nat → Int32} (hx : p.tables.exec = Jvm.exec) (hb : c.code = cL_law) (C : CallFix p m c cL_law 4 s #[Value.ref b] zT RL) (hX : va_X b L xs s s.heap) (hbl : b < s.heap.size) (hbA : ¬ A b) (hL : L ≤ 3072) (hi6 : i + 6 ≤ L) {xo mo n4A n4B m1f : Nat} (hnA : n4A ≤ 131072) (hnB : n4B ≤ 131072) (hmf : m1f ≤ 16384) {bs : List va_W} (hI : zInv T xo mo n4A n4B m1f bs) {H : Heap} {locs : List Loc} {ls : Array Slot} (G : zS T A s.heap s bs H locs) (hl : lv_has ls 4 [(0, .ref b), (1, .ref xo), (2, .ref mo), (3, .int (nI i))]) (kk : ∀ (n1 n2 n3 : Nat) (bs1 : List va_W), zInv T xo mo n1 n2 n3 bs1 → ∀ (H1 : Heap) (locs1 : List Loc) (ls1 : Array Slot), zS T A s.heap s bs1 H1 locs1 → lv_has ls1 4 [(0, .ref b), (1, .ref xo), (2, .ref mo), (3, .int (nI i))] → W p l e room_1 s m #[Value.ref b] below meth c H1 locs1 (216 + 2 * i + 12) (27000 + 6 * (n1 + n2) + 2 * n3) Q (F0 m 1767 ls1 [])) : W p l e room_1 s m #[Value.ref b] below meth c H locs (216 + 2 * i) (27000 + 6 * (n4A + n4B) + 2 * m1f) Q (F0 m 1125 ls []) := by
  obtain ⟨⟨t, im, mk, rd, po, co, tr, wa, wb_, fi, cd, wt, l0, l1, d0, d1, g0, g1, ln, z0_, z1_, wd0_, wd1_, wg0_, wg1_, rl, rdd, rg, r0, r1, tq, r2, r3, r4, r5, r6, r7, r8, z, wd, wg, wwA, mdA, wwB, mdB, wff, e0f, e1f, wc, cpo, wcp, wr, tpo, wrp, wp, fcd, m0, wta, l0a, l1a, d0a, d1a, g0a, g1a, lna, z0_a, z1_a, wd0_a, wd1_a, wg0_a, wg1_a, m1, wtb, l0b, l1b, d0b, d1b, g0b, g1b, lnb, z0_b, z1_b, wd0_b, wd1_b, wg0_b, wg1_b, m2, wtc, l0c, l1c, d0c, d1c, g0c, g1c, lnc, z0_c, z1_c, wd0_c, wd1_c, wg0_c, wg1_c, qi, fmk, m_all, m_has, i_size, i_next, i_where, i_token, i_number, i_word, i_wrong, i_farCrossing, m_read, i_z0, i_crossings, i_inns, m_posts, m_shut, m_here, i_steps, i_done, i_at, i_gone, m_was, m_came, m_seenAt, m_rowWorth, m_farBy, m_used, i_everywhere, i_again0, i_d0, i_never, i_firstCame, i_longRun, i_moved, i_crowd, i_l0, i_fitMany, i_fitLeast, i_fitMost, m_fitPost, m_fitEnd, m_keptPosts, i_x0, f_all, f_has, f_read, f_posts, f_shut, f_here, f_was, f_came, f_seenAt, f_rowWorth, f_farBy, f_used, f_fitPost, f_fitEnd, f_keptPosts⟩, rfl, H_wt, H_z0_, H_z1_, H_wd0_, H_wd1_, H_wg0_, H_wg1_, H_z, H_wd, H_wg, H_wwA, H_wwB, H_wff, H_wc, H_wcp, H_wr, H_wrp, H_wp, H_wta, H_z0_a, H_z1_a, H_wd0_a, H_wd1_a, H_wg0_a, H_wg1_a, H_wtb, H_z0_b, H_z1_b, H_wd0_b, H_wd1_b, H_wg0_b, H_wg1_b, H_wtc, H_z0_c, H_z1_c, H_wd0_c, H_wd1_c, H_wg0_c, H_wg1_c, hm0, hm1, hm2, h56, hFI, hAI, hRl, hHs⟩ := hI
  replace H_wt : hTold T t l0 l1 d0 d1 g0 g1 ln wt := H_wt
  replace H_z0_ : hLand T l0 z0_ := H_z0_
  replace H_z1_ : hLand T l1 z1_ := H_z1_
  replace H_wd0_ : hDay T d0 wd0_ := H_wd0_
  replace H_wd1_ : hDay T d1 wd1_ := H_wd1_
  replace H_wg0_ : hLog T g0 wg0_ := H_wg0_
  replace H_wg1_ : hLog T g1 wg1_ := H_wg1_
  replace H_z : hLandR T rl z := H_z
  replace H_wd : hDay T rdd wd := H_wd
  replace H_wg : hLog T rg wg := H_wg
  replace H_wwA : hWays T wa mdA n4A l0 wwA := H_wwA
  replace H_wwB : hWays T wb_ mdB n4B l1 wwB := H_wwB
  replace H_wff : hFit T fi e0f e1f m1f wff := H_wff
  replace H_wc : hCourse T co cpo wc := H_wc
  replace H_wcp : hPosts T cpo wcp := H_wcp
  replace H_wr : hTrail T tr tpo wr := H_wr
  replace H_wrp : hPosts T tpo wrp := H_wrp
  replace H_wp : hPosts T po wp := H_wp
  replace H_wta : hTold T m0 l0a l1a d0a d1a g0a g1a lna wta := H_wta
  replace H_z0_a : hLand T l0a z0_a := H_z0_a
  replace H_z1_a : hLand T l1a z1_a := H_z1_a
  replace H_wd0_a : hDay T d0a wd0_a := H_wd0_a
  replace H_wd1_a : hDay T d1a wd1_a := H_wd1_a
  replace H_wg0_a : hLog T g0a wg0_a := H_wg0_a
  replace H_wg1_a : hLog T g1a wg1_a := H_wg1_a
  replace H_wtb : hTold T m1 l0b l1b d0b d1b g0b g1b lnb wtb := H_wtb
  replace H_z0_b : hLand T l0b z0_b := H_z0_b
  replace H_z1_b : hLand T l1b z1_b := H_z1_b
  replace H_wd0_b : hDay T d0b wd0_b := H_wd0_b
  replace H_wd1_b : hDay T d1b wd1_b := H_wd1_b
  replace H_wg0_b : hLog T g0b wg0_b := H_wg0_b
  replace H_wg1_b : hLog T g1b wg1_b := H_wg1_b
  replace H_wtc : hTold T m2 l0c l1c d0c d1c g0c g1c lnc wtc := H_wtc
  replace H_z0_c : hLand T l0c z0_c := H_z0_c
  replace H_z1_c : hLand T l1c z1_c := H_z1_c
  replace H_wd0_c : hDay T d0c wd0_c := H_wd0_c
  replace H_wd1_c : hDay T d1c wd1_c := H_wd1_c
  replace H_wg0_c : hLog T g0c wg0_c := H_wg0_c
  replace H_wg1_c : hLog T g1c wg1_c := H_wg1_c
  replace hm0 : qi 0 = some m0 := hm0
  replace hm1 : qi 1 = some m1 := hm1
  replace hm2 : qi 2 = some m2 := hm2
  replace h56 : ((0 ≤ r5.toInt ∧ r5.toInt ≤ 600) ∧ 0 ≤ r6.toInt ∧ r6.toInt ≤ 1000) := h56
  replace hFI : (¬ e0f = 0 → e1f.toInt = 0 ∧ ¬ mdA = 0 ∨ e1f.toInt = 1 ∧ ¬ mdB = 0) := hFI
  replace hAI : zAI f_all := hAI
  replace hRl : zRl ln lna lnb lnc f_all := hRl
  replace hHs : zHs fmk f_has := hHs
  replace G : zS T A s.heap s [[(xo, .inr (10, [.ref t, .ref im, .ref mk, .ref rd, .ref po, .ref co, .ref tr, .ref wa, .ref wb_, .ref fi, .ref cd]))], wt, z0_, z1_, wd0_, wd1_, wg0_, wg1_, [(rd, .inr (7, [.ref rl, .ref rdd, .ref rg, .int r0, .int r1, .ref tq, .int r2, .int r3, .int r4, .int r5, .int r6, .int r7, .int r8]))], z, wd, wg, wwA, wwB, wff, wc, wcp, wr, wrp, wp, [(cd, .inl (T.2 0, 1000, .inl fcd))], wta, z0_a, z1_a, wd0_a, wd1_a, wg0_a, wg1_a, wtb, z0_b, z1_b, wd0_b, wd1_b, wg0_b, wg1_b, wtc, z0_c, z1_c, wd0_c, wd1_c, wg0_c, wg1_c, [(im, .inl (T.2 6, 3, .inr (.inr (.inr (.inr qi)))))], [(mk, .inl (T.2 2, 3, .inl fmk))], [(mo, .inr (11, [.ref m_all, .ref m_has, .int i_size, .int i_next, .int i_where, .int i_token, .int i_number, .int i_word, .int i_wrong, .int i_farCrossing, .ref m_read, .int i_z0, .int i_crossings, .int i_inns, .ref m_posts, .ref m_shut, .ref m_here, .int i_steps, .int i_done, .int i_at, .int i_gone, .ref m_was, .ref m_came, .ref m_seenAt, .ref m_rowWorth, .ref m_farBy, .ref m_used, .int i_everywhere, .int i_again0, .int i_d0, .int i_never, .int i_firstCame, .int i_longRun, .int i_moved, .int i_crowd, .int i_l0, .int i_fitMany, .int i_fitLeast, .int i_fitMost, .ref m_fitPost, .ref m_fitEnd, .ref m_keptPosts, .int i_x0]))], [(m_all, .inl (T.2 0, 3952, .inl f_all))], [(m_has, .inl (T.2 2, 3, .inl f_has))], [(m_read, .inl (T.2 0, 121, .inl f_read))], [(m_posts, .inl (T.2 0, 7, .inl f_posts))], [(m_shut, .inl (T.2 0, 7, .inl f_shut))], [(m_here, .inl (T.2 0, 7, .inl f_here))], [(m_was, .inl (T.2 0, 7, .inl f_was))], [(m_came, .inl (T.2 0, 7, .inl f_came))], [(m_seenAt, .inl (T.2 0, 16384, .inl f_seenAt))], [(m_rowWorth, .inl (T.2 0, 512, .inl f_rowWorth))], [(m_farBy, .inl (T.2 0, 49, .inl f_farBy))], [(m_used, .inl (T.2 0, 7, .inl f_used))], [(m_fitPost, .inl (T.2 0, 28, .inl f_fitPost))], [(m_fitEnd, .inl (T.2 0, 49, .inl f_fitEnd))], [(m_keptPosts, .inl (T.2 0, 7, .inl f_keptPosts))]] H locs := G
  have hB := zAI_0 hAI
  have hB4 := hB.1
  obtain ⟨hln, hlna, hlnb, hlnc⟩ := zRl_in hAI hRl
  refine lv_aload_n hx hb dL_law_1125 rfl (lv_at hl 1 rfl) ?_
  refine lv_aload_n hx hb dL_law_1126 rfl (lv_at hl 0 rfl) ?_
  refine lv_iload_n hx hb dL_law_1127 rfl (lv_at hl 3 rfl) ?_
  refine lv_iconst (v := 1) hx hb dL_law_1128 (by decide) ?_
  refine lv_iadd hx hb dL_law_1129 ?_
  refine lv_topi (fun y_1 ey_1 => ?_)
  obtain rfl : y_1 = nI (i + 1) := ey_1.trans (z_iaddn i 1 rfl rfl)
  refine va_sld hx hb hX hbl hbA G.2.2.2.1 (vp_in_nI (by omega) (by omega)) dL_law_1130 ?_
  refine lv_topi (fun v_2 ev_2 => ?_)
  rw [nI_clamp (by omega)] at ev_2
  have ev_2 : v_2 = xs (i + 1) := ev_2
  subst ev_2
  refine lv_aload_n hx hb dL_law_1131 rfl (lv_at hl 0 rfl) ?_
  refine lv_iload_n hx hb dL_law_1132 rfl (lv_at hl 3 rfl) ?_
  refine lv_iconst (v := 2) hx hb dL_law_1133 (by decide) ?_
  refine lv_iadd hx hb dL_law_1134 ?_
  refine lv_topi (fun y_3 ey_3 => ?_)
  obtain rfl : y_3 = nI (i + 2) := ey_3.trans (z_iaddn i 2 rfl rfl)
  refine va_sld hx hb hX hbl hbA G.2.2.2.1 (vp_in_nI (by omega) (by omega)) dL_law_1135 ?_
  refine lv_topi (fun v_4 ev_4 => ?_)
  rw [nI_clamp (by omega)] at ev_4
  have ev_4 : v_4 = xs (i + 2) := ev_4
  subst ev_4
  refine lv_aload_n hx hb dL_law_1136 rfl (lv_at hl 0 rfl) ?_
  refine lv_iload_n hx hb dL_law_1137 rfl (lv_at hl 3 rfl) ?_
  refine lv_iconst (v := 3) hx hb dL_law_1138 (by decide) ?_
  refine lv_iadd hx hb dL_law_1139 ?_
  refine lv_topi (fun y_5 ey_5 => ?_)
  obtain rfl : y_5 = nI (i + 3) := ey_5.trans (z_iaddn i 3 rfl rfl)
  refine va_sld hx hb hX hbl hbA G.2.2.2.1 (vp_in_nI (by omega) (by omega)) dL_law_1140 ?_
  refine lv_topi (fun v_6 ev_6 => ?_)
  rw [nI_clamp (by omega)] at ev_6
  have ev_6 : v_6 = xs (i + 3) := ev_6
  subst ev_6
  obtain ⟨v_7, v_8, v_9, v_10, h_11, h_12⟩ := H_wt
  have h_12 : zKT v_10 := h_12
  obtain ⟨v_13, v_14, v_15, v_16, v_17, v_18, h_19, h_20⟩ := H_z0_
  have h_20 : zLI v_13 v_15 v_17 := h_20
  obtain ⟨v_21, v_22, v_23, v_24, v_25, v_26, h_27, h_28⟩ := H_z1_
  have h_28 : zLI v_21 v_23 v_25 := h_28
  refine z_Vi (bc := [[(xo, .inr (10, [.ref t, .ref im, .ref mk, .ref rd, .ref po, .ref co, .ref tr, .ref wa, .ref wb_, .ref fi, .ref cd]))], wt, z0_, z1_]) (br := [wd0_, wd1_, wg0_, wg1_, [(rd, .inr (7, [.ref rl, .ref rdd, .ref rg, .int r0, .int r1, .ref tq, .int r2, .int r3, .int r4, .int r5, .int r6, .int r7, .int r8]))], z, wd, wg, wwA, wwB, wff, wc, wcp, wr, wrp, wp, [(cd, .inl (T.2 0, 1000, .inl fcd))], wta, z0_a, z1_a, wd0_a, wd1_a, wg0_a, wg1_a, wtb, z0_b, z1_b, wd0_b, wd1_b, wg0_b, wg1_b, wtc, z0_c, z1_c, wd0_c, wd1_c, wg0_c, wg1_c, [(im, .inl (T.2 6, 3, .inr (.inr (.inr (.inr qi)))))], [(mk, .inl (T.2 2, 3, .inl fmk))], [(mo, .inr (11, [.ref m_all, .ref m_has, .int i_size, .int i_next, .int i_where, .int i_token, .int i_number, .int i_word, .int i_wrong, .int i_farCrossing, .ref m_read, .int i_z0, .int i_crossings, .int i_inns, .ref m_posts, .ref m_shut, .ref m_here, .int i_steps, .int i_done, .int i_at, .int i_gone, .ref m_was, .ref m_came, .ref m_seenAt, .ref m_rowWorth, .ref m_farBy, .ref m_used, .int i_everywhere, .int i_again0, .int i_d0, .int i_never, .int i_firstCame, .int i_longRun, .int i_moved, .int i_crowd, .int i_l0, .int i_fitMany, .int i_fitLeast, .int i_fitMost, .ref m_fitPost, .ref m_fitEnd, .ref m_keptPosts, .int i_x0]))], [(m_all, .inl (T.2 0, 3952, .inl f_all))], [(m_has, .inl (T.2 2, 3, .inl f_has))], [(m_read, .inl (T.2 0, 121, .inl f_read))], [(m_posts, .inl (T.2 0, 7, .inl f_posts))], [(m_shut, .inl (T.2 0, 7, .inl f_shut))], [(m_here, .inl (T.2 0, 7, .inl f_here))], [(m_was, .inl (T.2 0, 7, .inl f_was))], [(m_came, .inl (T.2 0, 7, .inl f_came))], [(m_seenAt, .inl (T.2 0, 16384, .inl f_seenAt))], [(m_rowWorth, .inl (T.2 0, 512, .inl f_rowWorth))], [(m_farBy, .inl (T.2 0, 49, .inl f_farBy))], [(m_used, .inl (T.2 0, 7, .inl f_used))], [(m_fitPost, .inl (T.2 0, 28, .inl f_fitPost))], [(m_fitEnd, .inl (T.2 0, 49, .inl f_fitEnd))], [(m_keptPosts, .inl (T.2 0, 7, .inl f_keptPosts))]]) (As := [.int (xs (i + 1)), .int (xs (i + 2)), .int (xs (i + 3))]) (rest := []) C G (c_reach l T xo t im mk rd po co tr wa wb_ fi cd l0 l1 d0 d1 g0 g1 ln v_7 v_8 v_9 v_10 wt v_13 v_14 v_15 v_16 v_17 v_18 z0_ v_21 v_22 v_23 v_24 v_25 v_26 z1_ (xs (i + 1)) (xs (i + 2)) (xs (i + 3)) h_11 (by first | assumption | omega | rfl) h_19 (by first | assumption | omega | rfl) h_27 (by first | assumption | omega | rfl)) (kV_RL_104 C.2.2.2.2 (Nat.le_of_ble_eq_true rfl) (Nat.le_of_ble_eq_true rfl)) [0, 1, 2, 3] [4, 5, 6, 7, 8, 9, 10, 11, 12, 13, 14, 15, 16, 17, 18, 19, 20, 21, 22, 23, 24, 25, 26, 27, 28, 29, 30, 31, 32, 33, 34, 35, 36, 37, 38, 39, 40, 41, 42, 43, 44, 45, 46, 47, 48, 49, 50, 51, 52, 53, 54, 55, 56, 57, 58, 59] rfl rfl (ci := 10) (qc := (RX11, TX11, 11)) rfl rfl (List.mem_flatten.mpr ⟨_, List.mem_of_getElem? (i := 0) rfl, List.mem_cons_self⟩) rfl rfl hl.1 dL_law_1141 (by show _ + 0 ≤ 600000; omega) (by show _ + 0 ≤ 7302250; omega) (fun r_29 b1 H locs hw G => ?_)
  obtain rfl := hw
  have G : zS T A s.heap s [wd0_, wd1_, wg0_, wg1_, [(rd, .inr (7, [.ref rl, .ref rdd, .ref rg, .int r0, .int r1, .ref tq, .int r2, .int r3, .int r4, .int r5, .int r6, .int r7, .int r8]))], z, wd, wg, wwA, wwB, wff, wc, wcp, wr, wrp, wp, [(cd, .inl (T.2 0, 1000, .inl fcd))], wta, z0_a, z1_a, wd0_a, wd1_a, wg0_a, wg1_a, wtb, z0_b, z1_b, wd0_b, wd1_b, wg0_b, wg1_b, wtc, z0_c, z1_c, wd0_c, wd1_c, wg0_c, wg1_c, [(im, .inl (T.2 6, 3, .inr (.inr (.inr (.inr qi)))))], [(mk, .inl (T.2 2, 3, .inl fmk))], [(mo, .inr (11, [.ref m_all, .ref m_has, .int i_size, .int i_next, .int i_where, .int i_token, .int i_number, .int i_word, .int i_wrong, .int i_farCrossing, .ref m_read, .int i_z0, .int i_crossings, .int i_inns, .ref m_posts, .ref m_shut, .ref m_here, .int i_steps, .int i_done, .int i_at, .int i_gone, .ref m_was, .ref m_came, .ref m_seenAt, .ref m_rowWorth, .ref m_farBy, .ref m_used, .int i_everywhere, .int i_again0, .int i_d0, .int i_never, .int i_firstCame, .int i_longRun, .int i_moved, .int i_crowd, .int i_l0, .int i_fitMany, .int i_fitLeast, .int i_fitMost, .ref m_fitPost, .ref m_fitEnd, .ref m_keptPosts, .int i_x0]))], [(m_all, .inl (T.2 0, 3952, .inl f_all))], [(m_has, .inl (T.2 2, 3, .inl f_has))], [(m_read, .inl (T.2 0, 121, .inl f_read))], [(m_posts, .inl (T.2 0, 7, .inl f_posts))], [(m_shut, .inl (T.2 0, 7, .inl f_shut))], [(m_here, .inl (T.2 0, 7, .inl f_here))], [(m_was, .inl (T.2 0, 7, .inl f_was))], [(m_came, .inl (T.2 0, 7, .inl f_came))], [(m_seenAt, .inl (T.2 0, 16384, .inl f_seenAt))], [(m_rowWorth, .inl (T.2 0, 512, .inl f_rowWorth))], [(m_farBy, .inl (T.2 0, 49, .inl f_farBy))], [(m_used, .inl (T.2 0, 7, .inl f_used))], [(m_fitPost, .inl (T.2 0, 28, .inl f_fitPost))], [(m_fitEnd, .inl (T.2 0, 49, .inl f_fitEnd))], [(m_keptPosts, .inl (T.2 0, 7, .inl f_keptPosts))], [(xo, .inr (10, [.ref t, .ref im, .ref mk, .ref rd, .ref po, .ref co, .ref tr, .ref wa, .ref wb_, .ref fi, .ref cd]))], wt, z0_, z1_] _ _ := G
  refine lv_pop hx hb dL_law_1144 rfl ?_
  refine lv_aload_n hx hb dL_law_1145 rfl (lv_at hl 2 rfl) ?_
  refine lv_aload_n hx hb dL_law_1146 rfl (lv_at hl 0 rfl) ?_
  refine lv_iload_n hx hb dL_law_1147 rfl (lv_at hl 3 rfl) ?_
  refine lv_iconst (v := 1) hx hb dL_law_1148 (by decide) ?_
  refine lv_iadd hx hb dL_law_1149 ?_
  refine lv_topi (fun y_30 ey_30 => ?_)
  obtain rfl : y_30 = nI (i + 1) := ey_30.trans (z_iaddn i 1 rfl rfl)
  refine va_sld hx hb hX hbl hbA G.2.2.2.1 (vp_in_nI (by omega) (by omega)) dL_law_1150 ?_
  refine lv_topi (fun v_31 ev_31 => ?_)
  rw [nI_clamp (by omega)] at ev_31
  have ev_31 : v_31 = xs (i + 1) := ev_31
  subst ev_31
  refine lv_aload_n hx hb dL_law_1151 rfl (lv_at hl 0 rfl) ?_
  refine lv_iload_n hx hb dL_law_1152 rfl (lv_at hl 3 rfl) ?_
  refine lv_iconst (v := 2) hx hb dL_law_1153 (by decide) ?_
  refine lv_iadd hx hb dL_law_1154 ?_
  refine lv_topi (fun y_32 ey_32 => ?_)
  obtain rfl : y_32 = nI (i + 2) := ey_32.trans (z_iaddn i 2 rfl rfl)
  refine va_sld hx hb hX hbl hbA G.2.2.2.1 (vp_in_nI (by omega) (by omega)) dL_law_1155 ?_
  refine lv_topi (fun v_33 ev_33 => ?_)
  rw [nI_clamp (by omega)] at ev_33
  have ev_33 : v_33 = xs (i + 2) := ev_33
  subst ev_33
  refine lv_aload_n hx hb dL_law_1156 rfl (lv_at hl 0 rfl) ?_
  refine lv_iload_n hx hb dL_law_1157 rfl (lv_at hl 3 rfl) ?_
  refine lv_iconst (v := 3) hx hb dL_law_1158 (by decide) ?_
  refine lv_iadd hx hb dL_law_1159 ?_
  refine lv_topi (fun y_34 ey_34 => ?_)
  obtain rfl : y_34 = nI (i + 3) := ey_34.trans (z_iaddn i 3 rfl rfl)
  refine va_sld hx hb hX hbl hbA G.2.2.2.1 (vp_in_nI (by omega) (by omega)) dL_law_1160 ?_
  refine lv_topi (fun v_35 ev_35 => ?_)
  rw [nI_clamp (by omega)] at ev_35
  have ev_35 : v_35 = xs (i + 3) := ev_35
  subst ev_35
  refine z_Vi (bc := [[(mo, .inr (11, [.ref m_all, .ref m_has, .int i_size, .int i_next, .int i_where, .int i_token, .int i_number, .int i_word, .int i_wrong, .int i_farCrossing, .ref m_read, .int i_z0, .int i_crossings, .int i_inns, .ref m_posts, .ref m_shut, .ref m_here, .int i_steps, .int i_done, .int i_at, .int i_gone, .ref m_was, .ref m_came, .ref m_seenAt, .ref m_rowWorth, .ref m_farBy, .ref m_used, .int i_everywhere, .int i_again0, .int i_d0, .int i_never, .int i_firstCame, .int i_longRun, .int i_moved, .int i_crowd, .int i_l0, .int i_fitMany, .int i_fitLeast, .int i_fitMost, .ref m_fitPost, .ref m_fitEnd, .ref m_keptPosts, .int i_x0]))], [(m_all, .inl (T.2 0, 3952, .inl f_all))], [(m_posts, .inl (T.2 0, 7, .inl f_posts))], [(m_shut, .inl (T.2 0, 7, .inl f_shut))], [(m_here, .inl (T.2 0, 7, .inl f_here))], [(m_farBy, .inl (T.2 0, 49, .inl f_farBy))]]) (br := [wd0_, wd1_, wg0_, wg1_, [(rd, .inr (7, [.ref rl, .ref rdd, .ref rg, .int r0, .int r1, .ref tq, .int r2, .int r3, .int r4, .int r5, .int r6, .int r7, .int r8]))], z, wd, wg, wwA, wwB, wff, wc, wcp, wr, wrp, wp, [(cd, .inl (T.2 0, 1000, .inl fcd))], wta, z0_a, z1_a, wd0_a, wd1_a, wg0_a, wg1_a, wtb, z0_b, z1_b, wd0_b, wd1_b, wg0_b, wg1_b, wtc, z0_c, z1_c, wd0_c, wd1_c, wg0_c, wg1_c, [(im, .inl (T.2 6, 3, .inr (.inr (.inr (.inr qi)))))], [(mk, .inl (T.2 2, 3, .inl fmk))], [(m_has, .inl (T.2 2, 3, .inl f_has))], [(m_read, .inl (T.2 0, 121, .inl f_read))], [(m_was, .inl (T.2 0, 7, .inl f_was))], [(m_came, .inl (T.2 0, 7, .inl f_came))], [(m_seenAt, .inl (T.2 0, 16384, .inl f_seenAt))], [(m_rowWorth, .inl (T.2 0, 512, .inl f_rowWorth))], [(m_used, .inl (T.2 0, 7, .inl f_used))], [(m_fitPost, .inl (T.2 0, 28, .inl f_fitPost))], [(m_fitEnd, .inl (T.2 0, 49, .inl f_fitEnd))], [(m_keptPosts, .inl (T.2 0, 7, .inl f_keptPosts))], [(xo, .inr (10, [.ref t, .ref im, .ref mk, .ref rd, .ref po, .ref co, .ref tr, .ref wa, .ref wb_, .ref fi, .ref cd]))], wt, z0_, z1_]) (As := [.int (xs (i + 1)), .int (xs (i + 2)), .int (xs (i + 3))]) (rest := []) C G (c_m_reach l T mo m_all m_has i_size i_next i_where i_token i_number i_word i_wrong i_farCrossing m_read i_z0 i_crossings i_inns m_posts m_shut m_here i_steps i_done i_at i_gone m_was m_came m_seenAt m_rowWorth m_farBy m_used i_everywhere i_again0 i_d0 i_never i_firstCame i_longRun i_moved i_crowd i_l0 i_fitMany i_fitLeast i_fitMost m_fitPost m_fitEnd m_keptPosts i_x0 f_all f_posts f_shut f_here f_farBy (xs (i + 1)) (xs (i + 2)) (xs (i + 3)) (by first | assumption | omega | rfl)) (kV_RL_107 C.2.2.2.2 (Nat.le_of_ble_eq_true rfl) (Nat.le_of_ble_eq_true rfl)) [40, 41, 44, 45, 46, 51] [0, 1, 2, 3, 4, 5, 6, 7, 8, 9, 10, 11, 12, 13, 14, 15, 16, 17, 18, 19, 20, 21, 22, 23, 24, 25, 26, 27, 28, 29, 30, 31, 32, 33, 34, 35, 36, 37, 38, 39, 42, 43, 47, 48, 49, 50, 52, 53, 54, 55, 56, 57, 58, 59] rfl rfl (ci := 11) (qc := (RX12, TX12, 43)) rfl rfl (List.mem_flatten.mpr ⟨_, List.mem_of_getElem? (i := 0) rfl, List.mem_cons_self⟩) rfl rfl hl.1 dL_law_1161 (by show _ + 0 ≤ 600000; omega) (by show _ + 0 ≤ 7302250; omega) (fun r_45 b1 H locs hw G => ?_)
  obtain ⟨j_z0_36, j_crossings_37, j_inns_38, j_steps_39, j_done_40, g_posts_41, g_shut_42, g_here_43, g_farBy_44, rfl⟩ := hw
  have G : zS T A s.heap s [wd0_, wd1_, wg0_, wg1_, [(rd, .inr (7, [.ref rl, .ref rdd, .ref rg, .int r0, .int r1, .ref tq, .int r2, .int r3, .int r4, .int r5, .int r6, .int r7, .int r8]))], z, wd, wg, wwA, wwB, wff, wc, wcp, wr, wrp, wp, [(cd, .inl (T.2 0, 1000, .inl fcd))], wta, z0_a, z1_a, wd0_a, wd1_a, wg0_a, wg1_a, wtb, z0_b, z1_b, wd0_b, wd1_b, wg0_b, wg1_b, wtc, z0_c, z1_c, wd0_c, wd1_c, wg0_c, wg1_c, [(im, .inl (T.2 6, 3, .inr (.inr (.inr (.inr qi)))))], [(mk, .inl (T.2 2, 3, .inl fmk))], [(m_has, .inl (T.2 2, 3, .inl f_has))], [(m_read, .inl (T.2 0, 121, .inl f_read))], [(m_was, .inl (T.2 0, 7, .inl f_was))], [(m_came, .inl (T.2 0, 7, .inl f_came))], [(m_seenAt, .inl (T.2 0, 16384, .inl f_seenAt))], [(m_rowWorth, .inl (T.2 0, 512, .inl f_rowWorth))], [(m_used, .inl (T.2 0, 7, .inl f_used))], [(m_fitPost, .inl (T.2 0, 28, .inl f_fitPost))], [(m_fitEnd, .inl (T.2 0, 49, .inl f_fitEnd))], [(m_keptPosts, .inl (T.2 0, 7, .inl f_keptPosts))], [(xo, .inr (10, [.ref t, .ref im, .ref mk, .ref rd, .ref po, .ref co, .ref tr, .ref wa, .ref wb_, .ref fi, .ref cd]))], wt, z0_, z1_, [(mo, .inr (11, [.ref m_all, .ref m_has, .int i_size, .int i_next, .int i_where, .int i_token, .int i_number, .int i_word, .int i_wrong, .int i_farCrossing, .ref m_read, .int j_z0_36, .int j_crossings_37, .int j_inns_38, .ref m_posts, .ref m_shut, .ref m_here, .int j_steps_39, .int j_done_40, .int i_at, .int i_gone, .ref m_was, .ref m_came, .ref m_seenAt, .ref m_rowWorth, .ref m_farBy, .ref m_used, .int i_everywhere, .int i_again0, .int i_d0, .int i_never, .int i_firstCame, .int i_longRun, .int i_moved, .int i_crowd, .int i_l0, .int i_fitMany, .int i_fitLeast, .int i_fitMost, .ref m_fitPost, .ref m_fitEnd, .ref m_keptPosts, .int i_x0]))], [(m_all, .inl (T.2 0, 3952, .inl f_all))], [(m_posts, .inl (T.2 0, 7, .inl g_posts_41))], [(m_shut, .inl (T.2 0, 7, .inl g_shut_42))], [(m_here, .inl (T.2 0, 7, .inl g_here_43))], [(m_farBy, .inl (T.2 0, 49, .inl g_farBy_44))]] _ _ := G
  refine lv_pop hx hb dL_law_1164 rfl ?_
  refine lv_goto (tgt := 1767) hx hb dL_law_1165 (by decide) ?_
  have G := G.sub (bs' := [[(xo, .inr (10, [.ref t, .ref im, .ref mk, .ref rd, .ref po, .ref co, .ref tr, .ref wa, .ref wb_, .ref fi, .ref cd]))], wt, z0_, z1_, wd0_, wd1_, wg0_, wg1_, [(rd, .inr (7, [.ref rl, .ref rdd, .ref rg, .int r0, .int r1, .ref tq, .int r2, .int r3, .int r4, .int r5, .int r6, .int r7, .int r8]))], z, wd, wg, wwA, wwB, wff, wc, wcp, wr, wrp, wp, [(cd, .inl (T.2 0, 1000, .inl fcd))], wta, z0_a, z1_a, wd0_a, wd1_a, wg0_a, wg1_a, wtb, z0_b, z1_b, wd0_b, wd1_b, wg0_b, wg1_b, wtc, z0_c, z1_c, wd0_c, wd1_c, wg0_c, wg1_c, [(im, .inl (T.2 6, 3, .inr (.inr (.inr (.inr qi)))))], [(mk, .inl (T.2 2, 3, .inl fmk))], [(mo, .inr (11, [.ref m_all, .ref m_has, .int i_size, .int i_next, .int i_where, .int i_token, .int i_number, .int i_word, .int i_wrong, .int i_farCrossing, .ref m_read, .int j_z0_36, .int j_crossings_37, .int j_inns_38, .ref m_posts, .ref m_shut, .ref m_here, .int j_steps_39, .int j_done_40, .int i_at, .int i_gone, .ref m_was, .ref m_came, .ref m_seenAt, .ref m_rowWorth, .ref m_farBy, .ref m_used, .int i_everywhere, .int i_again0, .int i_d0, .int i_never, .int i_firstCame, .int i_longRun, .int i_moved, .int i_crowd, .int i_l0, .int i_fitMany, .int i_fitLeast, .int i_fitMost, .ref m_fitPost, .ref m_fitEnd, .ref m_keptPosts, .int i_x0]))], [(m_all, .inl (T.2 0, 3952, .inl f_all))], [(m_has, .inl (T.2 2, 3, .inl f_has))], [(m_read, .inl (T.2 0, 121, .inl f_read))], [(m_posts, .inl (T.2 0, 7, .inl g_posts_41))], [(m_shut, .inl (T.2 0, 7, .inl g_shut_42))], [(m_here, .inl (T.2 0, 7, .inl g_here_43))], [(m_was, .inl (T.2 0, 7, .inl f_was))], [(m_came, .inl (T.2 0, 7, .inl f_came))], [(m_seenAt, .inl (T.2 0, 16384, .inl f_seenAt))], [(m_rowWorth, .inl (T.2 0, 512, .inl f_rowWorth))], [(m_farBy, .inl (T.2 0, 49, .inl g_farBy_44))], [(m_used, .inl (T.2 0, 7, .inl f_used))], [(m_fitPost, .inl (T.2 0, 28, .inl f_fitPost))], [(m_fitEnd, .inl (T.2 0, 49, .inl f_fitEnd))], [(m_keptPosts, .inl (T.2 0, 7, .inl f_keptPosts))]]) [50, 51, 52, 53, 0, 1, 2, 3, 4, 5, 6, 7, 8, 9, 10, 11, 12, 13, 14, 15, 16, 17, 18, 19, 20, 21, 22, 23, 24, 25, 26, 27, 28, 29, 30, 31, 32, 33, 34, 35, 36, 37, 38, 39, 54, 55, 40, 41, 56, 57, 58, 42, 43, 44, 45, 59, 46, 47, 48, 49] rfl
  refine W.widen (k := 216 + 2 * i + 12) (n := 27000 + 6 * (n4A + n4B) + 2 * m1f) (by omega) (by omega) ?_
  exact kk n4A n4B m1f _ ⟨⟨t, im, mk, rd, po, co, tr, wa, wb_, fi, cd, wt, l0, l1, d0, d1, g0, g1, ln, z0_, z1_, wd0_, wd1_, wg0_, wg1_, rl, rdd, rg, r0, r1, tq, r2, r3, r4, r5, r6, r7, r8, z, wd, wg, wwA, mdA, wwB, mdB, wff, e0f, e1f, wc, cpo, wcp, wr, tpo, wrp, wp, fcd, m0, wta, l0a, l1a, d0a, d1a, g0a, g1a, lna, z0_a, z1_a, wd0_a, wd1_a, wg0_a, wg1_a, m1, wtb, l0b, l1b, d0b, d1b, g0b, g1b, lnb, z0_b, z1_b, wd0_b, wd1_b, wg0_b, wg1_b, m2, wtc, l0c, l1c, d0c, d1c, g0c, g1c, lnc, z0_c, z1_c, wd0_c, wd1_c, wg0_c, wg1_c, qi, fmk, m_all, m_has, i_size, i_next, i_where, i_token, i_number, i_word, i_wrong, i_farCrossing, m_read, j_z0_36, j_crossings_37, j_inns_38, m_posts, m_shut, m_here, j_steps_39, j_done_40, i_at, i_gone, m_was, m_came, m_seenAt, m_rowWorth, m_farBy, m_used, i_everywhere, i_again0, i_d0, i_never, i_firstCame, i_longRun, i_moved, i_crowd, i_l0, i_fitMany, i_fitLeast, i_fitMost, m_fitPost, m_fitEnd, m_keptPosts, i_x0, f_all, f_has, f_read, g_posts_41, g_shut_42, g_here_43, f_was, f_came, f_seenAt, f_rowWorth, g_farBy_44, f_used, f_fitPost, f_fitEnd, f_keptPosts⟩, rfl, ⟨v_7, v_8, v_9, v_10, h_11, (by first | assumption | omega)⟩, ⟨v_13, v_14, v_15, v_16, v_17, v_18, h_19, (by first | assumption | omega)⟩, ⟨v_21, v_22, v_23, v_24, v_25, v_26, h_27, (by first | assumption | omega)⟩, H_wd0_, H_wd1_, H_wg0_, H_wg1_, H_z, H_wd, H_wg, H_wwA, H_wwB, H_wff, H_wc, H_wcp, H_wr, H_wrp, H_wp, H_wta, H_z0_a, H_z1_a, H_wd0_a, H_wd1_a, H_wg0_a, H_wg1_a, H_wtb, H_z0_b, H_z1_b, H_wd0_b, H_wd1_b, H_wg0_b, H_wg1_b, H_wtc, H_z0_c, H_z1_c, H_wd0_c, H_wd1_c, H_wg0_c, H_wg1_c, (by first | assumption | omega), (by first | assumption | omega), (by first | assumption | omega), (by first | assumption | omega), (by first | assumption | omega), (by first | assumption | omega), (by first | assumption | omega), (by first | assumption | omega)⟩ _ _ ls G (lv_sub hl [0, 1, 2, 3] rfl)
set_option maxHeartbeats 40000000 in
set_option maxRecDepth 100000 in
theorem z_case_classes (l : Launch) {p : Program} {e : Env} {s : State} {m : MethodId} {b : Nat} {below : List Frame} {meth : Method} {c : Code} {Q : State → Prop} {T : zTy} {A : Nat → Prop} {L i : Nat} {xs : Nat → Int32} (hx : p.tables.exec = Jvm.exec) (hb : c.code = cL_law) (C : CallFix p m c cL_law 4 s #[Value.ref b] zT RL) (hX : va_X b L xs s s.heap) (hbl : b < s.heap.size) (hbA : ¬ A b) (hL : L ≤ 3072) (hi6 : i + 6 ≤ L) {xo mo n4A n4B m1f : Nat} (hnA : n4A ≤ 131072) (hnB : n4B ≤ 131072) (hmf : m1f ≤ 16384) {bs : List va_W} (hI : zInv T xo mo n4A n4B m1f bs) {H : Heap} {locs : List Loc} {ls : Array Slot} (G : zS T A s.heap s bs H locs) (hl : lv_has ls 4 [(0, .ref b), (1, .ref xo), (2, .ref mo), (3, .int (nI i))]) (kk : ∀ (n1 n2 n3 : Nat) (bs1 : List va_W), zInv T xo mo n1 n2 n3 bs1 → ∀ (H1 : Heap) (locs1 : List Loc) (ls1 : Array Slot), zS T A s.heap s bs1 H1 locs1 → lv_has ls1 4 [(0, .ref b), (1, .ref xo), (2, .ref mo), (3, .int (nI i))] → W p l e room_1 s m #[Value.ref b] below meth c H1 locs1 (216 + 2 * i + 12) (27000 + 6 * (n1 + n2) + 2 * n3) Q (F0 m 1767 ls1 [])) : W p l e room_1 s m #[Value.ref b] below meth c H locs (216 + 2 * i) (27000 + 6 * (n4A + n4B) + 2 * m1f) Q (F0 m 1168 ls []) := by
  obtain ⟨⟨t, im, mk, rd, po, co, tr, wa, wb_, fi, cd, wt, l0, l1, d0, d1, g0, g1, ln, z0_, z1_, wd0_, wd1_, wg0_, wg1_, rl, rdd, rg, r0, r1, tq, r2, r3, r4, r5, r6, r7, r8, z, wd, wg, wwA, mdA, wwB, mdB, wff, e0f, e1f, wc, cpo, wcp, wr, tpo, wrp, wp, fcd, m0, wta, l0a, l1a, d0a, d1a, g0a, g1a, lna, z0_a, z1_a, wd0_a, wd1_a, wg0_a, wg1_a, m1, wtb, l0b, l1b, d0b, d1b, g0b, g1b, lnb, z0_b, z1_b, wd0_b, wd1_b, wg0_b, wg1_b, m2, wtc, l0c, l1c, d0c, d1c, g0c, g1c, lnc, z0_c, z1_c, wd0_c, wd1_c, wg0_c, wg1_c, qi, fmk, m_all, m_has, i_size, i_next, i_where, i_token, i_number, i_word, i_wrong, i_farCrossing, m_read, i_z0, i_crossings, i_inns, m_posts, m_shut, m_here, i_steps, i_done, i_at, i_gone, m_was, m_came, m_seenAt, m_rowWorth, m_farBy, m_used, i_everywhere, i_again0, i_d0, i_never, i_firstCame, i_longRun, i_moved, i_crowd, i_l0, i_fitMany, i_fitLeast, i_fitMost, m_fitPost, m_fitEnd, m_keptPosts, i_x0, f_all, f_has, f_read, f_posts, f_shut, f_here, f_was, f_came, f_seenAt, f_rowWorth, f_farBy, f_used, f_fitPost, f_fitEnd, f_keptPosts⟩, rfl, H_wt, H_z0_, H_z1_, H_wd0_, H_wd1_, H_wg0_, H_wg1_, H_z, H_wd, H_wg, H_wwA, H_wwB, H_wff, H_wc, H_wcp, H_wr, H_wrp, H_wp, H_wta, H_z0_a, H_z1_a, H_wd0_a, H_wd1_a, H_wg0_a, H_wg1_a, H_wtb, H_z0_b, H_z1_b, H_wd0_b, H_wd1_b, H_wg0_b, H_wg1_b, H_wtc, H_z0_c, H_z1_c, H_wd0_c, H_wd1_c, H_wg0_c, H_wg1_c, hm0, hm1, hm2, h56, hFI, hAI, hRl, hHs⟩ := hI
  replace H_wt : hTold T t l0 l1 d0 d1 g0 g1 ln wt := H_wt
  replace H_z0_ : hLand T l0 z0_ := H_z0_
  replace H_z1_ : hLand T l1 z1_ := H_z1_
  replace H_wd0_ : hDay T d0 wd0_ := H_wd0_
  replace H_wd1_ : hDay T d1 wd1_ := H_wd1_
  replace H_wg0_ : hLog T g0 wg0_ := H_wg0_
  replace H_wg1_ : hLog T g1 wg1_ := H_wg1_
  replace H_z : hLandR T rl z := H_z
  replace H_wd : hDay T rdd wd := H_wd
  replace H_wg : hLog T rg wg := H_wg
  replace H_wwA : hWays T wa mdA n4A l0 wwA := H_wwA
  replace H_wwB : hWays T wb_ mdB n4B l1 wwB := H_wwB
  replace H_wff : hFit T fi e0f e1f m1f wff := H_wff
  replace H_wc : hCourse T co cpo wc := H_wc
  replace H_wcp : hPosts T cpo wcp := H_wcp
  replace H_wr : hTrail T tr tpo wr := H_wr
  replace H_wrp : hPosts T tpo wrp := H_wrp
  replace H_wp : hPosts T po wp := H_wp
  replace H_wta : hTold T m0 l0a l1a d0a d1a g0a g1a lna wta := H_wta
  replace H_z0_a : hLand T l0a z0_a := H_z0_a
  replace H_z1_a : hLand T l1a z1_a := H_z1_a
  replace H_wd0_a : hDay T d0a wd0_a := H_wd0_a
  replace H_wd1_a : hDay T d1a wd1_a := H_wd1_a
  replace H_wg0_a : hLog T g0a wg0_a := H_wg0_a
  replace H_wg1_a : hLog T g1a wg1_a := H_wg1_a
  replace H_wtb : hTold T m1 l0b l1b d0b d1b g0b g1b lnb wtb := H_wtb
  replace H_z0_b : hLand T l0b z0_b := H_z0_b
  replace H_z1_b : hLand T l1b z1_b := H_z1_b
  replace H_wd0_b : hDay T d0b wd0_b := H_wd0_b
  replace H_wd1_b : hDay T d1b wd1_b := H_wd1_b
  replace H_wg0_b : hLog T g0b wg0_b := H_wg0_b
  replace H_wg1_b : hLog T g1b wg1_b := H_wg1_b
  replace H_wtc : hTold T m2 l0c l1c d0c d1c g0c g1c lnc wtc := H_wtc
  replace H_z0_c : hLand T l0c z0_c := H_z0_c
  replace H_z1_c : hLand T l1c z1_c := H_z1_c
  replace H_wd0_c : hDay T d0c wd0_c := H_wd0_c
  replace H_wd1_c : hDay T d1c wd1_c := H_wd1_c
  replace H_wg0_c : hLog T g0c wg0_c := H_wg0_c
  replace H_wg1_c : hLog T g1c wg1_c := H_wg1_c
  replace hm0 : qi 0 = some m0 := hm0
  replace hm1 : qi 1 = some m1 := hm1
  replace hm2 : qi 2 = some m2 := hm2
  replace h56 : ((0 ≤ r5.toInt ∧ r5.toInt ≤ 600) ∧ 0 ≤ r6.toInt ∧ r6.toInt ≤ 1000) := h56
  replace hFI : (¬ e0f = 0 → e1f.toInt = 0 ∧ ¬ mdA = 0 ∨ e1f.toInt = 1 ∧ ¬ mdB = 0) := hFI
  replace hAI : zAI f_all := hAI
  replace hRl : zRl ln lna lnb lnc f_all := hRl
  replace hHs : zHs fmk f_has := hHs
  replace G : zS T A s.heap s [[(xo, .inr (10, [.ref t, .ref im, .ref mk, .ref rd, .ref po, .ref co, .ref tr, .ref wa, .ref wb_, .ref fi, .ref cd]))], wt, z0_, z1_, wd0_, wd1_, wg0_, wg1_, [(rd, .inr (7, [.ref rl, .ref rdd, .ref rg, .int r0, .int r1, .ref tq, .int r2, .int r3, .int r4, .int r5, .int r6, .int r7, .int r8]))], z, wd, wg, wwA, wwB, wff, wc, wcp, wr, wrp, wp, [(cd, .inl (T.2 0, 1000, .inl fcd))], wta, z0_a, z1_a, wd0_a, wd1_a, wg0_a, wg1_a, wtb, z0_b, z1_b, wd0_b, wd1_b, wg0_b, wg1_b, wtc, z0_c, z1_c, wd0_c, wd1_c, wg0_c, wg1_c, [(im, .inl (T.2 6, 3, .inr (.inr (.inr (.inr qi)))))], [(mk, .inl (T.2 2, 3, .inl fmk))], [(mo, .inr (11, [.ref m_all, .ref m_has, .int i_size, .int i_next, .int i_where, .int i_token, .int i_number, .int i_word, .int i_wrong, .int i_farCrossing, .ref m_read, .int i_z0, .int i_crossings, .int i_inns, .ref m_posts, .ref m_shut, .ref m_here, .int i_steps, .int i_done, .int i_at, .int i_gone, .ref m_was, .ref m_came, .ref m_seenAt, .ref m_rowWorth, .ref m_farBy, .ref m_used, .int i_everywhere, .int i_again0, .int i_d0, .int i_never, .int i_firstCame, .int i_longRun, .int i_moved, .int i_crowd, .int i_l0, .int i_fitMany, .int i_fitLeast, .int i_fitMost, .ref m_fitPost, .ref m_fitEnd, .ref m_keptPosts, .int i_x0]))], [(m_all, .inl (T.2 0, 3952, .inl f_all))], [(m_has, .inl (T.2 2, 3, .inl f_has))], [(m_read, .inl (T.2 0, 121, .inl f_read))], [(m_posts, .inl (T.2 0, 7, .inl f_posts))], [(m_shut, .inl (T.2 0, 7, .inl f_shut))], [(m_here, .inl (T.2 0, 7, .inl f_here))], [(m_was, .inl (T.2 0, 7, .inl f_was))], [(m_came, .inl (T.2 0, 7, .inl f_came))], [(m_seenAt, .inl (T.2 0, 16384, .inl f_seenAt))], [(m_rowWorth, .inl (T.2 0, 512, .inl f_rowWorth))], [(m_farBy, .inl (T.2 0, 49, .inl f_farBy))], [(m_used, .inl (T.2 0, 7, .inl f_used))], [(m_fitPost, .inl (T.2 0, 28, .inl f_fitPost))], [(m_fitEnd, .inl (T.2 0, 49, .inl f_fitEnd))], [(m_keptPosts, .inl (T.2 0, 7, .inl f_keptPosts))]] H locs := G
  have hB := zAI_0 hAI
  have hB4 := hB.1
  obtain ⟨hln, hlna, hlnb, hlnc⟩ := zRl_in hAI hRl
  refine lv_aload_n hx hb dL_law_1168 rfl (lv_at hl 1 rfl) ?_
  refine lv_aload_n hx hb dL_law_1169 rfl (lv_at hl 0 rfl) ?_
  refine lv_iload_n hx hb dL_law_1170 rfl (lv_at hl 3 rfl) ?_
  refine lv_iconst (v := 1) hx hb dL_law_1171 (by decide) ?_
  refine lv_iadd hx hb dL_law_1172 ?_
  refine lv_topi (fun y_1 ey_1 => ?_)
  obtain rfl : y_1 = nI (i + 1) := ey_1.trans (z_iaddn i 1 rfl rfl)
  refine va_sld hx hb hX hbl hbA G.2.2.2.1 (vp_in_nI (by omega) (by omega)) dL_law_1173 ?_
  refine lv_topi (fun v_2 ev_2 => ?_)
  rw [nI_clamp (by omega)] at ev_2
  have ev_2 : v_2 = xs (i + 1) := ev_2
  subst ev_2
  refine lv_aload_n hx hb dL_law_1174 rfl (lv_at hl 0 rfl) ?_
  refine lv_iload_n hx hb dL_law_1175 rfl (lv_at hl 3 rfl) ?_
  refine lv_iconst (v := 2) hx hb dL_law_1176 (by decide) ?_
  refine lv_iadd hx hb dL_law_1177 ?_
  refine lv_topi (fun y_3 ey_3 => ?_)
  obtain rfl : y_3 = nI (i + 2) := ey_3.trans (z_iaddn i 2 rfl rfl)
  refine va_sld hx hb hX hbl hbA G.2.2.2.1 (vp_in_nI (by omega) (by omega)) dL_law_1178 ?_
  refine lv_topi (fun v_4 ev_4 => ?_)
  rw [nI_clamp (by omega)] at ev_4
  have ev_4 : v_4 = xs (i + 2) := ev_4
  subst ev_4
  obtain ⟨v_5, v_6, v_7, v_8, h_9, h_10⟩ := H_wt
  have h_10 : zKT v_8 := h_10
  obtain ⟨v_11, v_12, v_13, v_14, v_15, v_16, h_17, h_18⟩ := H_z0_
  have h_18 : zLI v_11 v_13 v_15 := h_18
  obtain ⟨v_19, v_20, v_21, v_22, v_23, v_24, h_25, h_26⟩ := H_z1_
  have h_26 : zLI v_19 v_21 v_23 := h_26
  refine z_Vi (bc := [[(xo, .inr (10, [.ref t, .ref im, .ref mk, .ref rd, .ref po, .ref co, .ref tr, .ref wa, .ref wb_, .ref fi, .ref cd]))], wt, z0_, z1_]) (br := [wd0_, wd1_, wg0_, wg1_, [(rd, .inr (7, [.ref rl, .ref rdd, .ref rg, .int r0, .int r1, .ref tq, .int r2, .int r3, .int r4, .int r5, .int r6, .int r7, .int r8]))], z, wd, wg, wwA, wwB, wff, wc, wcp, wr, wrp, wp, [(cd, .inl (T.2 0, 1000, .inl fcd))], wta, z0_a, z1_a, wd0_a, wd1_a, wg0_a, wg1_a, wtb, z0_b, z1_b, wd0_b, wd1_b, wg0_b, wg1_b, wtc, z0_c, z1_c, wd0_c, wd1_c, wg0_c, wg1_c, [(im, .inl (T.2 6, 3, .inr (.inr (.inr (.inr qi)))))], [(mk, .inl (T.2 2, 3, .inl fmk))], [(mo, .inr (11, [.ref m_all, .ref m_has, .int i_size, .int i_next, .int i_where, .int i_token, .int i_number, .int i_word, .int i_wrong, .int i_farCrossing, .ref m_read, .int i_z0, .int i_crossings, .int i_inns, .ref m_posts, .ref m_shut, .ref m_here, .int i_steps, .int i_done, .int i_at, .int i_gone, .ref m_was, .ref m_came, .ref m_seenAt, .ref m_rowWorth, .ref m_farBy, .ref m_used, .int i_everywhere, .int i_again0, .int i_d0, .int i_never, .int i_firstCame, .int i_longRun, .int i_moved, .int i_crowd, .int i_l0, .int i_fitMany, .int i_fitLeast, .int i_fitMost, .ref m_fitPost, .ref m_fitEnd, .ref m_keptPosts, .int i_x0]))], [(m_all, .inl (T.2 0, 3952, .inl f_all))], [(m_has, .inl (T.2 2, 3, .inl f_has))], [(m_read, .inl (T.2 0, 121, .inl f_read))], [(m_posts, .inl (T.2 0, 7, .inl f_posts))], [(m_shut, .inl (T.2 0, 7, .inl f_shut))], [(m_here, .inl (T.2 0, 7, .inl f_here))], [(m_was, .inl (T.2 0, 7, .inl f_was))], [(m_came, .inl (T.2 0, 7, .inl f_came))], [(m_seenAt, .inl (T.2 0, 16384, .inl f_seenAt))], [(m_rowWorth, .inl (T.2 0, 512, .inl f_rowWorth))], [(m_farBy, .inl (T.2 0, 49, .inl f_farBy))], [(m_used, .inl (T.2 0, 7, .inl f_used))], [(m_fitPost, .inl (T.2 0, 28, .inl f_fitPost))], [(m_fitEnd, .inl (T.2 0, 49, .inl f_fitEnd))], [(m_keptPosts, .inl (T.2 0, 7, .inl f_keptPosts))]]) (As := [.int (xs (i + 1)), .int (xs (i + 2))]) (rest := []) C G (c_classes l T xo t im mk rd po co tr wa wb_ fi cd l0 l1 d0 d1 g0 g1 ln v_5 v_6 v_7 v_8 wt v_11 v_12 v_13 v_14 v_15 v_16 z0_ v_19 v_20 v_21 v_22 v_23 v_24 z1_ (xs (i + 1)) (xs (i + 2)) h_9 (by first | assumption | omega | rfl) h_17 (by first | assumption | omega | rfl) h_25 (by first | assumption | omega | rfl)) (kV_RL_108 C.2.2.2.2 (Nat.le_of_ble_eq_true rfl) (Nat.le_of_ble_eq_true rfl)) [0, 1, 2, 3] [4, 5, 6, 7, 8, 9, 10, 11, 12, 13, 14, 15, 16, 17, 18, 19, 20, 21, 22, 23, 24, 25, 26, 27, 28, 29, 30, 31, 32, 33, 34, 35, 36, 37, 38, 39, 40, 41, 42, 43, 44, 45, 46, 47, 48, 49, 50, 51, 52, 53, 54, 55, 56, 57, 58, 59] rfl rfl (ci := 10) (qc := (RX11, TX11, 11)) rfl rfl (List.mem_flatten.mpr ⟨_, List.mem_of_getElem? (i := 0) rfl, List.mem_cons_self⟩) rfl rfl hl.1 dL_law_1179 (by show _ + 0 ≤ 600000; omega) (by show _ + 0 ≤ 7302250; omega) (fun r_27 b1 H locs hw G => ?_)
  obtain rfl := hw
  have G : zS T A s.heap s [wd0_, wd1_, wg0_, wg1_, [(rd, .inr (7, [.ref rl, .ref rdd, .ref rg, .int r0, .int r1, .ref tq, .int r2, .int r3, .int r4, .int r5, .int r6, .int r7, .int r8]))], z, wd, wg, wwA, wwB, wff, wc, wcp, wr, wrp, wp, [(cd, .inl (T.2 0, 1000, .inl fcd))], wta, z0_a, z1_a, wd0_a, wd1_a, wg0_a, wg1_a, wtb, z0_b, z1_b, wd0_b, wd1_b, wg0_b, wg1_b, wtc, z0_c, z1_c, wd0_c, wd1_c, wg0_c, wg1_c, [(im, .inl (T.2 6, 3, .inr (.inr (.inr (.inr qi)))))], [(mk, .inl (T.2 2, 3, .inl fmk))], [(mo, .inr (11, [.ref m_all, .ref m_has, .int i_size, .int i_next, .int i_where, .int i_token, .int i_number, .int i_word, .int i_wrong, .int i_farCrossing, .ref m_read, .int i_z0, .int i_crossings, .int i_inns, .ref m_posts, .ref m_shut, .ref m_here, .int i_steps, .int i_done, .int i_at, .int i_gone, .ref m_was, .ref m_came, .ref m_seenAt, .ref m_rowWorth, .ref m_farBy, .ref m_used, .int i_everywhere, .int i_again0, .int i_d0, .int i_never, .int i_firstCame, .int i_longRun, .int i_moved, .int i_crowd, .int i_l0, .int i_fitMany, .int i_fitLeast, .int i_fitMost, .ref m_fitPost, .ref m_fitEnd, .ref m_keptPosts, .int i_x0]))], [(m_all, .inl (T.2 0, 3952, .inl f_all))], [(m_has, .inl (T.2 2, 3, .inl f_has))], [(m_read, .inl (T.2 0, 121, .inl f_read))], [(m_posts, .inl (T.2 0, 7, .inl f_posts))], [(m_shut, .inl (T.2 0, 7, .inl f_shut))], [(m_here, .inl (T.2 0, 7, .inl f_here))], [(m_was, .inl (T.2 0, 7, .inl f_was))], [(m_came, .inl (T.2 0, 7, .inl f_came))], [(m_seenAt, .inl (T.2 0, 16384, .inl f_seenAt))], [(m_rowWorth, .inl (T.2 0, 512, .inl f_rowWorth))], [(m_farBy, .inl (T.2 0, 49, .inl f_farBy))], [(m_used, .inl (T.2 0, 7, .inl f_used))], [(m_fitPost, .inl (T.2 0, 28, .inl f_fitPost))], [(m_fitEnd, .inl (T.2 0, 49, .inl f_fitEnd))], [(m_keptPosts, .inl (T.2 0, 7, .inl f_keptPosts))], [(xo, .inr (10, [.ref t, .ref im, .ref mk, .ref rd, .ref po, .ref co, .ref tr, .ref wa, .ref wb_, .ref fi, .ref cd]))], wt, z0_, z1_] _ _ := G
  refine lv_pop hx hb dL_law_1182 rfl ?_
  refine lv_aload_n hx hb dL_law_1183 rfl (lv_at hl 2 rfl) ?_
  refine lv_aload_n hx hb dL_law_1184 rfl (lv_at hl 0 rfl) ?_
  refine lv_iload_n hx hb dL_law_1185 rfl (lv_at hl 3 rfl) ?_
  refine lv_iconst (v := 1) hx hb dL_law_1186 (by decide) ?_
  refine lv_iadd hx hb dL_law_1187 ?_
  refine lv_topi (fun y_28 ey_28 => ?_)
  obtain rfl : y_28 = nI (i + 1) := ey_28.trans (z_iaddn i 1 rfl rfl)
  refine va_sld hx hb hX hbl hbA G.2.2.2.1 (vp_in_nI (by omega) (by omega)) dL_law_1188 ?_
  refine lv_topi (fun v_29 ev_29 => ?_)
  rw [nI_clamp (by omega)] at ev_29
  have ev_29 : v_29 = xs (i + 1) := ev_29
  subst ev_29
  refine lv_aload_n hx hb dL_law_1189 rfl (lv_at hl 0 rfl) ?_
  refine lv_iload_n hx hb dL_law_1190 rfl (lv_at hl 3 rfl) ?_
  refine lv_iconst (v := 2) hx hb dL_law_1191 (by decide) ?_
  refine lv_iadd hx hb dL_law_1192 ?_
  refine lv_topi (fun y_30 ey_30 => ?_)
  obtain rfl : y_30 = nI (i + 2) := ey_30.trans (z_iaddn i 2 rfl rfl)
  refine va_sld hx hb hX hbl hbA G.2.2.2.1 (vp_in_nI (by omega) (by omega)) dL_law_1193 ?_
  refine lv_topi (fun v_31 ev_31 => ?_)
  rw [nI_clamp (by omega)] at ev_31
  have ev_31 : v_31 = xs (i + 2) := ev_31
  subst ev_31
  refine z_Vi (bc := [[(mo, .inr (11, [.ref m_all, .ref m_has, .int i_size, .int i_next, .int i_where, .int i_token, .int i_number, .int i_word, .int i_wrong, .int i_farCrossing, .ref m_read, .int i_z0, .int i_crossings, .int i_inns, .ref m_posts, .ref m_shut, .ref m_here, .int i_steps, .int i_done, .int i_at, .int i_gone, .ref m_was, .ref m_came, .ref m_seenAt, .ref m_rowWorth, .ref m_farBy, .ref m_used, .int i_everywhere, .int i_again0, .int i_d0, .int i_never, .int i_firstCame, .int i_longRun, .int i_moved, .int i_crowd, .int i_l0, .int i_fitMany, .int i_fitLeast, .int i_fitMost, .ref m_fitPost, .ref m_fitEnd, .ref m_keptPosts, .int i_x0]))], [(m_all, .inl (T.2 0, 3952, .inl f_all))], [(m_posts, .inl (T.2 0, 7, .inl f_posts))], [(m_shut, .inl (T.2 0, 7, .inl f_shut))], [(m_here, .inl (T.2 0, 7, .inl f_here))], [(m_farBy, .inl (T.2 0, 49, .inl f_farBy))]]) (br := [wd0_, wd1_, wg0_, wg1_, [(rd, .inr (7, [.ref rl, .ref rdd, .ref rg, .int r0, .int r1, .ref tq, .int r2, .int r3, .int r4, .int r5, .int r6, .int r7, .int r8]))], z, wd, wg, wwA, wwB, wff, wc, wcp, wr, wrp, wp, [(cd, .inl (T.2 0, 1000, .inl fcd))], wta, z0_a, z1_a, wd0_a, wd1_a, wg0_a, wg1_a, wtb, z0_b, z1_b, wd0_b, wd1_b, wg0_b, wg1_b, wtc, z0_c, z1_c, wd0_c, wd1_c, wg0_c, wg1_c, [(im, .inl (T.2 6, 3, .inr (.inr (.inr (.inr qi)))))], [(mk, .inl (T.2 2, 3, .inl fmk))], [(m_has, .inl (T.2 2, 3, .inl f_has))], [(m_read, .inl (T.2 0, 121, .inl f_read))], [(m_was, .inl (T.2 0, 7, .inl f_was))], [(m_came, .inl (T.2 0, 7, .inl f_came))], [(m_seenAt, .inl (T.2 0, 16384, .inl f_seenAt))], [(m_rowWorth, .inl (T.2 0, 512, .inl f_rowWorth))], [(m_used, .inl (T.2 0, 7, .inl f_used))], [(m_fitPost, .inl (T.2 0, 28, .inl f_fitPost))], [(m_fitEnd, .inl (T.2 0, 49, .inl f_fitEnd))], [(m_keptPosts, .inl (T.2 0, 7, .inl f_keptPosts))], [(xo, .inr (10, [.ref t, .ref im, .ref mk, .ref rd, .ref po, .ref co, .ref tr, .ref wa, .ref wb_, .ref fi, .ref cd]))], wt, z0_, z1_]) (As := [.int (xs (i + 1)), .int (xs (i + 2))]) (rest := []) C G (c_m_classes l T mo m_all m_has i_size i_next i_where i_token i_number i_word i_wrong i_farCrossing m_read i_z0 i_crossings i_inns m_posts m_shut m_here i_steps i_done i_at i_gone m_was m_came m_seenAt m_rowWorth m_farBy m_used i_everywhere i_again0 i_d0 i_never i_firstCame i_longRun i_moved i_crowd i_l0 i_fitMany i_fitLeast i_fitMost m_fitPost m_fitEnd m_keptPosts i_x0 f_all f_posts f_shut f_here f_farBy (xs (i + 1)) (xs (i + 2)) (by first | assumption | omega | rfl)) (kV_RL_111 C.2.2.2.2 (Nat.le_of_ble_eq_true rfl) (Nat.le_of_ble_eq_true rfl)) [40, 41, 44, 45, 46, 51] [0, 1, 2, 3, 4, 5, 6, 7, 8, 9, 10, 11, 12, 13, 14, 15, 16, 17, 18, 19, 20, 21, 22, 23, 24, 25, 26, 27, 28, 29, 30, 31, 32, 33, 34, 35, 36, 37, 38, 39, 42, 43, 47, 48, 49, 50, 52, 53, 54, 55, 56, 57, 58, 59] rfl rfl (ci := 11) (qc := (RX12, TX12, 43)) rfl rfl (List.mem_flatten.mpr ⟨_, List.mem_of_getElem? (i := 0) rfl, List.mem_cons_self⟩) rfl rfl hl.1 dL_law_1194 (by show _ + 0 ≤ 600000; omega) (by show _ + 0 ≤ 7302250; omega) (fun r_41 b1 H locs hw G => ?_)
  obtain ⟨j_z0_32, j_crossings_33, j_inns_34, j_steps_35, j_done_36, g_posts_37, g_shut_38, g_here_39, g_farBy_40, rfl⟩ := hw
  have G : zS T A s.heap s [wd0_, wd1_, wg0_, wg1_, [(rd, .inr (7, [.ref rl, .ref rdd, .ref rg, .int r0, .int r1, .ref tq, .int r2, .int r3, .int r4, .int r5, .int r6, .int r7, .int r8]))], z, wd, wg, wwA, wwB, wff, wc, wcp, wr, wrp, wp, [(cd, .inl (T.2 0, 1000, .inl fcd))], wta, z0_a, z1_a, wd0_a, wd1_a, wg0_a, wg1_a, wtb, z0_b, z1_b, wd0_b, wd1_b, wg0_b, wg1_b, wtc, z0_c, z1_c, wd0_c, wd1_c, wg0_c, wg1_c, [(im, .inl (T.2 6, 3, .inr (.inr (.inr (.inr qi)))))], [(mk, .inl (T.2 2, 3, .inl fmk))], [(m_has, .inl (T.2 2, 3, .inl f_has))], [(m_read, .inl (T.2 0, 121, .inl f_read))], [(m_was, .inl (T.2 0, 7, .inl f_was))], [(m_came, .inl (T.2 0, 7, .inl f_came))], [(m_seenAt, .inl (T.2 0, 16384, .inl f_seenAt))], [(m_rowWorth, .inl (T.2 0, 512, .inl f_rowWorth))], [(m_used, .inl (T.2 0, 7, .inl f_used))], [(m_fitPost, .inl (T.2 0, 28, .inl f_fitPost))], [(m_fitEnd, .inl (T.2 0, 49, .inl f_fitEnd))], [(m_keptPosts, .inl (T.2 0, 7, .inl f_keptPosts))], [(xo, .inr (10, [.ref t, .ref im, .ref mk, .ref rd, .ref po, .ref co, .ref tr, .ref wa, .ref wb_, .ref fi, .ref cd]))], wt, z0_, z1_, [(mo, .inr (11, [.ref m_all, .ref m_has, .int i_size, .int i_next, .int i_where, .int i_token, .int i_number, .int i_word, .int i_wrong, .int i_farCrossing, .ref m_read, .int j_z0_32, .int j_crossings_33, .int j_inns_34, .ref m_posts, .ref m_shut, .ref m_here, .int j_steps_35, .int j_done_36, .int i_at, .int i_gone, .ref m_was, .ref m_came, .ref m_seenAt, .ref m_rowWorth, .ref m_farBy, .ref m_used, .int i_everywhere, .int i_again0, .int i_d0, .int i_never, .int i_firstCame, .int i_longRun, .int i_moved, .int i_crowd, .int i_l0, .int i_fitMany, .int i_fitLeast, .int i_fitMost, .ref m_fitPost, .ref m_fitEnd, .ref m_keptPosts, .int i_x0]))], [(m_all, .inl (T.2 0, 3952, .inl f_all))], [(m_posts, .inl (T.2 0, 7, .inl g_posts_37))], [(m_shut, .inl (T.2 0, 7, .inl g_shut_38))], [(m_here, .inl (T.2 0, 7, .inl g_here_39))], [(m_farBy, .inl (T.2 0, 49, .inl g_farBy_40))]] _ _ := G
  refine lv_pop hx hb dL_law_1197 rfl ?_
  refine lv_goto (tgt := 1767) hx hb dL_law_1198 (by decide) ?_
  have G := G.sub (bs' := [[(xo, .inr (10, [.ref t, .ref im, .ref mk, .ref rd, .ref po, .ref co, .ref tr, .ref wa, .ref wb_, .ref fi, .ref cd]))], wt, z0_, z1_, wd0_, wd1_, wg0_, wg1_, [(rd, .inr (7, [.ref rl, .ref rdd, .ref rg, .int r0, .int r1, .ref tq, .int r2, .int r3, .int r4, .int r5, .int r6, .int r7, .int r8]))], z, wd, wg, wwA, wwB, wff, wc, wcp, wr, wrp, wp, [(cd, .inl (T.2 0, 1000, .inl fcd))], wta, z0_a, z1_a, wd0_a, wd1_a, wg0_a, wg1_a, wtb, z0_b, z1_b, wd0_b, wd1_b, wg0_b, wg1_b, wtc, z0_c, z1_c, wd0_c, wd1_c, wg0_c, wg1_c, [(im, .inl (T.2 6, 3, .inr (.inr (.inr (.inr qi)))))], [(mk, .inl (T.2 2, 3, .inl fmk))], [(mo, .inr (11, [.ref m_all, .ref m_has, .int i_size, .int i_next, .int i_where, .int i_token, .int i_number, .int i_word, .int i_wrong, .int i_farCrossing, .ref m_read, .int j_z0_32, .int j_crossings_33, .int j_inns_34, .ref m_posts, .ref m_shut, .ref m_here, .int j_steps_35, .int j_done_36, .int i_at, .int i_gone, .ref m_was, .ref m_came, .ref m_seenAt, .ref m_rowWorth, .ref m_farBy, .ref m_used, .int i_everywhere, .int i_again0, .int i_d0, .int i_never, .int i_firstCame, .int i_longRun, .int i_moved, .int i_crowd, .int i_l0, .int i_fitMany, .int i_fitLeast, .int i_fitMost, .ref m_fitPost, .ref m_fitEnd, .ref m_keptPosts, .int i_x0]))], [(m_all, .inl (T.2 0, 3952, .inl f_all))], [(m_has, .inl (T.2 2, 3, .inl f_has))], [(m_read, .inl (T.2 0, 121, .inl f_read))], [(m_posts, .inl (T.2 0, 7, .inl g_posts_37))], [(m_shut, .inl (T.2 0, 7, .inl g_shut_38))], [(m_here, .inl (T.2 0, 7, .inl g_here_39))], [(m_was, .inl (T.2 0, 7, .inl f_was))], [(m_came, .inl (T.2 0, 7, .inl f_came))], [(m_seenAt, .inl (T.2 0, 16384, .inl f_seenAt))], [(m_rowWorth, .inl (T.2 0, 512, .inl f_rowWorth))], [(m_farBy, .inl (T.2 0, 49, .inl g_farBy_40))], [(m_used, .inl (T.2 0, 7, .inl f_used))], [(m_fitPost, .inl (T.2 0, 28, .inl f_fitPost))], [(m_fitEnd, .inl (T.2 0, 49, .inl f_fitEnd))], [(m_keptPosts, .inl (T.2 0, 7, .inl f_keptPosts))]]) [50, 51, 52, 53, 0, 1, 2, 3, 4, 5, 6, 7, 8, 9, 10, 11, 12, 13, 14, 15, 16, 17, 18, 19, 20, 21, 22, 23, 24, 25, 26, 27, 28, 29, 30, 31, 32, 33, 34, 35, 36, 37, 38, 39, 54, 55, 40, 41, 56, 57, 58, 42, 43, 44, 45, 59, 46, 47, 48, 49] rfl
  refine W.widen (k := 216 + 2 * i + 12) (n := 27000 + 6 * (n4A + n4B) + 2 * m1f) (by omega) (by omega) ?_
  exact kk n4A n4B m1f _ ⟨⟨t, im, mk, rd, po, co, tr, wa, wb_, fi, cd, wt, l0, l1, d0, d1, g0, g1, ln, z0_, z1_, wd0_, wd1_, wg0_, wg1_, rl, rdd, rg, r0, r1, tq, r2, r3, r4, r5, r6, r7, r8, z, wd, wg, wwA, mdA, wwB, mdB, wff, e0f, e1f, wc, cpo, wcp, wr, tpo, wrp, wp, fcd, m0, wta, l0a, l1a, d0a, d1a, g0a, g1a, lna, z0_a, z1_a, wd0_a, wd1_a, wg0_a, wg1_a, m1, wtb, l0b, l1b, d0b, d1b, g0b, g1b, lnb, z0_b, z1_b, wd0_b, wd1_b, wg0_b, wg1_b, m2, wtc, l0c, l1c, d0c, d1c, g0c, g1c, lnc, z0_c, z1_c, wd0_c, wd1_c, wg0_c, wg1_c, qi, fmk, m_all, m_has, i_size, i_next, i_where, i_token, i_number, i_word, i_wrong, i_farCrossing, m_read, j_z0_32, j_crossings_33, j_inns_34, m_posts, m_shut, m_here, j_steps_35, j_done_36, i_at, i_gone, m_was, m_came, m_seenAt, m_rowWorth, m_farBy, m_used, i_everywhere, i_again0, i_d0, i_never, i_firstCame, i_longRun, i_moved, i_crowd, i_l0, i_fitMany, i_fitLeast, i_fitMost, m_fitPost, m_fitEnd, m_keptPosts, i_x0, f_all, f_has, f_read, g_posts_37, g_shut_38, g_here_39, f_was, f_came, f_seenAt, f_rowWorth, g_farBy_40, f_used, f_fitPost, f_fitEnd, f_keptPosts⟩, rfl, ⟨v_5, v_6, v_7, v_8, h_9, (by first | assumption | omega)⟩, ⟨v_11, v_12, v_13, v_14, v_15, v_16, h_17, (by first | assumption | omega)⟩, ⟨v_19, v_20, v_21, v_22, v_23, v_24, h_25, (by first | assumption | omega)⟩, H_wd0_, H_wd1_, H_wg0_, H_wg1_, H_z, H_wd, H_wg, H_wwA, H_wwB, H_wff, H_wc, H_wcp, H_wr, H_wrp, H_wp, H_wta, H_z0_a, H_z1_a, H_wd0_a, H_wd1_a, H_wg0_a, H_wg1_a, H_wtb, H_z0_b, H_z1_b, H_wd0_b, H_wd1_b, H_wg0_b, H_wg1_b, H_wtc, H_z0_c, H_z1_c, H_wd0_c, H_wd1_c, H_wg0_c, H_wg1_c, (by first | assumption | omega), (by first | assumption | omega), (by first | assumption | omega), (by first | assumption | omega), (by first | assumption | omega), (by first | assumption | omega), (by first | assumption | omega), (by first | assumption | omega)⟩ _ _ ls G (lv_sub hl [0, 1, 2, 3] rfl)
set_option maxHeartbeats 40000000 in
set_option maxRecDepth 100000 in
theorem z_case_led (l : Launch) {p : Program} {e : Env} {s : State} {m : MethodId} {b : Nat} {below : List Frame} {meth : Method} {c : Code} {Q : State → Prop} {T : zTy} {A : Nat → Prop} {L i : Nat} {xs : Nat → Int32} (hx : p.tables.exec = Jvm.exec) (hb : c.code = cL_law) (C : CallFix p m c cL_law 4 s #[Value.ref b] zT RL) (hX : va_X b L xs s s.heap) (hbl : b < s.heap.size) (hbA : ¬ A b) (hL : L ≤ 3072) (hi6 : i + 6 ≤ L) {xo mo n4A n4B m1f : Nat} (hnA : n4A ≤ 131072) (hnB : n4B ≤ 131072) (hmf : m1f ≤ 16384) {bs : List va_W} (hI : zInv T xo mo n4A n4B m1f bs) {H : Heap} {locs : List Loc} {ls : Array Slot} (G : zS T A s.heap s bs H locs) (hl : lv_has ls 4 [(0, .ref b), (1, .ref xo), (2, .ref mo), (3, .int (nI i))]) (kk : ∀ (n1 n2 n3 : Nat) (bs1 : List va_W), zInv T xo mo n1 n2 n3 bs1 → ∀ (H1 : Heap) (locs1 : List Loc) (ls1 : Array Slot), zS T A s.heap s bs1 H1 locs1 → lv_has ls1 4 [(0, .ref b), (1, .ref xo), (2, .ref mo), (3, .int (nI i))] → W p l e room_1 s m #[Value.ref b] below meth c H1 locs1 (216 + 2 * i + 12) (27000 + 6 * (n1 + n2) + 2 * n3) Q (F0 m 1767 ls1 [])) : W p l e room_1 s m #[Value.ref b] below meth c H locs (216 + 2 * i) (27000 + 6 * (n4A + n4B) + 2 * m1f) Q (F0 m 1201 ls []) := by
  obtain ⟨⟨t, im, mk, rd, po, co, tr, wa, wb_, fi, cd, wt, l0, l1, d0, d1, g0, g1, ln, z0_, z1_, wd0_, wd1_, wg0_, wg1_, rl, rdd, rg, r0, r1, tq, r2, r3, r4, r5, r6, r7, r8, z, wd, wg, wwA, mdA, wwB, mdB, wff, e0f, e1f, wc, cpo, wcp, wr, tpo, wrp, wp, fcd, m0, wta, l0a, l1a, d0a, d1a, g0a, g1a, lna, z0_a, z1_a, wd0_a, wd1_a, wg0_a, wg1_a, m1, wtb, l0b, l1b, d0b, d1b, g0b, g1b, lnb, z0_b, z1_b, wd0_b, wd1_b, wg0_b, wg1_b, m2, wtc, l0c, l1c, d0c, d1c, g0c, g1c, lnc, z0_c, z1_c, wd0_c, wd1_c, wg0_c, wg1_c, qi, fmk, m_all, m_has, i_size, i_next, i_where, i_token, i_number, i_word, i_wrong, i_farCrossing, m_read, i_z0, i_crossings, i_inns, m_posts, m_shut, m_here, i_steps, i_done, i_at, i_gone, m_was, m_came, m_seenAt, m_rowWorth, m_farBy, m_used, i_everywhere, i_again0, i_d0, i_never, i_firstCame, i_longRun, i_moved, i_crowd, i_l0, i_fitMany, i_fitLeast, i_fitMost, m_fitPost, m_fitEnd, m_keptPosts, i_x0, f_all, f_has, f_read, f_posts, f_shut, f_here, f_was, f_came, f_seenAt, f_rowWorth, f_farBy, f_used, f_fitPost, f_fitEnd, f_keptPosts⟩, rfl, H_wt, H_z0_, H_z1_, H_wd0_, H_wd1_, H_wg0_, H_wg1_, H_z, H_wd, H_wg, H_wwA, H_wwB, H_wff, H_wc, H_wcp, H_wr, H_wrp, H_wp, H_wta, H_z0_a, H_z1_a, H_wd0_a, H_wd1_a, H_wg0_a, H_wg1_a, H_wtb, H_z0_b, H_z1_b, H_wd0_b, H_wd1_b, H_wg0_b, H_wg1_b, H_wtc, H_z0_c, H_z1_c, H_wd0_c, H_wd1_c, H_wg0_c, H_wg1_c, hm0, hm1, hm2, h56, hFI, hAI, hRl, hHs⟩ := hI
  replace H_wt : hTold T t l0 l1 d0 d1 g0 g1 ln wt := H_wt
  replace H_z0_ : hLand T l0 z0_ := H_z0_
  replace H_z1_ : hLand T l1 z1_ := H_z1_
  replace H_wd0_ : hDay T d0 wd0_ := H_wd0_
  replace H_wd1_ : hDay T d1 wd1_ := H_wd1_
  replace H_wg0_ : hLog T g0 wg0_ := H_wg0_
  replace H_wg1_ : hLog T g1 wg1_ := H_wg1_
  replace H_z : hLandR T rl z := H_z
  replace H_wd : hDay T rdd wd := H_wd
  replace H_wg : hLog T rg wg := H_wg
  replace H_wwA : hWays T wa mdA n4A l0 wwA := H_wwA
  replace H_wwB : hWays T wb_ mdB n4B l1 wwB := H_wwB
  replace H_wff : hFit T fi e0f e1f m1f wff := H_wff
  replace H_wc : hCourse T co cpo wc := H_wc
  replace H_wcp : hPosts T cpo wcp := H_wcp
  replace H_wr : hTrail T tr tpo wr := H_wr
  replace H_wrp : hPosts T tpo wrp := H_wrp
  replace H_wp : hPosts T po wp := H_wp
  replace H_wta : hTold T m0 l0a l1a d0a d1a g0a g1a lna wta := H_wta
  replace H_z0_a : hLand T l0a z0_a := H_z0_a
  replace H_z1_a : hLand T l1a z1_a := H_z1_a
  replace H_wd0_a : hDay T d0a wd0_a := H_wd0_a
  replace H_wd1_a : hDay T d1a wd1_a := H_wd1_a
  replace H_wg0_a : hLog T g0a wg0_a := H_wg0_a
  replace H_wg1_a : hLog T g1a wg1_a := H_wg1_a
  replace H_wtb : hTold T m1 l0b l1b d0b d1b g0b g1b lnb wtb := H_wtb
  replace H_z0_b : hLand T l0b z0_b := H_z0_b
  replace H_z1_b : hLand T l1b z1_b := H_z1_b
  replace H_wd0_b : hDay T d0b wd0_b := H_wd0_b
  replace H_wd1_b : hDay T d1b wd1_b := H_wd1_b
  replace H_wg0_b : hLog T g0b wg0_b := H_wg0_b
  replace H_wg1_b : hLog T g1b wg1_b := H_wg1_b
  replace H_wtc : hTold T m2 l0c l1c d0c d1c g0c g1c lnc wtc := H_wtc
  replace H_z0_c : hLand T l0c z0_c := H_z0_c
  replace H_z1_c : hLand T l1c z1_c := H_z1_c
  replace H_wd0_c : hDay T d0c wd0_c := H_wd0_c
  replace H_wd1_c : hDay T d1c wd1_c := H_wd1_c
  replace H_wg0_c : hLog T g0c wg0_c := H_wg0_c
  replace H_wg1_c : hLog T g1c wg1_c := H_wg1_c
  replace hm0 : qi 0 = some m0 := hm0
  replace hm1 : qi 1 = some m1 := hm1
  replace hm2 : qi 2 = some m2 := hm2
  replace h56 : ((0 ≤ r5.toInt ∧ r5.toInt ≤ 600) ∧ 0 ≤ r6.toInt ∧ r6.toInt ≤ 1000) := h56
  replace hFI : (¬ e0f = 0 → e1f.toInt = 0 ∧ ¬ mdA = 0 ∨ e1f.toInt = 1 ∧ ¬ mdB = 0) := hFI
  replace hAI : zAI f_all := hAI
  replace hRl : zRl ln lna lnb lnc f_all := hRl
  replace hHs : zHs fmk f_has := hHs
  replace G : zS T A s.heap s [[(xo, .inr (10, [.ref t, .ref im, .ref mk, .ref rd, .ref po, .ref co, .ref tr, .ref wa, .ref wb_, .ref fi, .ref cd]))], wt, z0_, z1_, wd0_, wd1_, wg0_, wg1_, [(rd, .inr (7, [.ref rl, .ref rdd, .ref rg, .int r0, .int r1, .ref tq, .int r2, .int r3, .int r4, .int r5, .int r6, .int r7, .int r8]))], z, wd, wg, wwA, wwB, wff, wc, wcp, wr, wrp, wp, [(cd, .inl (T.2 0, 1000, .inl fcd))], wta, z0_a, z1_a, wd0_a, wd1_a, wg0_a, wg1_a, wtb, z0_b, z1_b, wd0_b, wd1_b, wg0_b, wg1_b, wtc, z0_c, z1_c, wd0_c, wd1_c, wg0_c, wg1_c, [(im, .inl (T.2 6, 3, .inr (.inr (.inr (.inr qi)))))], [(mk, .inl (T.2 2, 3, .inl fmk))], [(mo, .inr (11, [.ref m_all, .ref m_has, .int i_size, .int i_next, .int i_where, .int i_token, .int i_number, .int i_word, .int i_wrong, .int i_farCrossing, .ref m_read, .int i_z0, .int i_crossings, .int i_inns, .ref m_posts, .ref m_shut, .ref m_here, .int i_steps, .int i_done, .int i_at, .int i_gone, .ref m_was, .ref m_came, .ref m_seenAt, .ref m_rowWorth, .ref m_farBy, .ref m_used, .int i_everywhere, .int i_again0, .int i_d0, .int i_never, .int i_firstCame, .int i_longRun, .int i_moved, .int i_crowd, .int i_l0, .int i_fitMany, .int i_fitLeast, .int i_fitMost, .ref m_fitPost, .ref m_fitEnd, .ref m_keptPosts, .int i_x0]))], [(m_all, .inl (T.2 0, 3952, .inl f_all))], [(m_has, .inl (T.2 2, 3, .inl f_has))], [(m_read, .inl (T.2 0, 121, .inl f_read))], [(m_posts, .inl (T.2 0, 7, .inl f_posts))], [(m_shut, .inl (T.2 0, 7, .inl f_shut))], [(m_here, .inl (T.2 0, 7, .inl f_here))], [(m_was, .inl (T.2 0, 7, .inl f_was))], [(m_came, .inl (T.2 0, 7, .inl f_came))], [(m_seenAt, .inl (T.2 0, 16384, .inl f_seenAt))], [(m_rowWorth, .inl (T.2 0, 512, .inl f_rowWorth))], [(m_farBy, .inl (T.2 0, 49, .inl f_farBy))], [(m_used, .inl (T.2 0, 7, .inl f_used))], [(m_fitPost, .inl (T.2 0, 28, .inl f_fitPost))], [(m_fitEnd, .inl (T.2 0, 49, .inl f_fitEnd))], [(m_keptPosts, .inl (T.2 0, 7, .inl f_keptPosts))]] H locs := G
  have hB := zAI_0 hAI
  have hB4 := hB.1
  obtain ⟨hln, hlna, hlnb, hlnc⟩ := zRl_in hAI hRl
  refine lv_aload_n hx hb dL_law_1201 rfl (lv_at hl 1 rfl) ?_
  refine lv_aload_n hx hb dL_law_1202 rfl (lv_at hl 0 rfl) ?_
  refine lv_iload_n hx hb dL_law_1203 rfl (lv_at hl 3 rfl) ?_
  refine lv_iconst (v := 1) hx hb dL_law_1204 (by decide) ?_
  refine lv_iadd hx hb dL_law_1205 ?_
  refine lv_topi (fun y_1 ey_1 => ?_)
  obtain rfl : y_1 = nI (i + 1) := ey_1.trans (z_iaddn i 1 rfl rfl)
  refine va_sld hx hb hX hbl hbA G.2.2.2.1 (vp_in_nI (by omega) (by omega)) dL_law_1206 ?_
  refine lv_topi (fun v_2 ev_2 => ?_)
  rw [nI_clamp (by omega)] at ev_2
  have ev_2 : v_2 = xs (i + 1) := ev_2
  subst ev_2
  refine lv_aload_n hx hb dL_law_1207 rfl (lv_at hl 0 rfl) ?_
  refine lv_iload_n hx hb dL_law_1208 rfl (lv_at hl 3 rfl) ?_
  refine lv_iconst (v := 2) hx hb dL_law_1209 (by decide) ?_
  refine lv_iadd hx hb dL_law_1210 ?_
  refine lv_topi (fun y_3 ey_3 => ?_)
  obtain rfl : y_3 = nI (i + 2) := ey_3.trans (z_iaddn i 2 rfl rfl)
  refine va_sld hx hb hX hbl hbA G.2.2.2.1 (vp_in_nI (by omega) (by omega)) dL_law_1211 ?_
  refine lv_topi (fun v_4 ev_4 => ?_)
  rw [nI_clamp (by omega)] at ev_4
  have ev_4 : v_4 = xs (i + 2) := ev_4
  subst ev_4
  refine lv_aload_n hx hb dL_law_1212 rfl (lv_at hl 0 rfl) ?_
  refine lv_iload_n hx hb dL_law_1213 rfl (lv_at hl 3 rfl) ?_
  refine lv_iconst (v := 3) hx hb dL_law_1214 (by decide) ?_
  refine lv_iadd hx hb dL_law_1215 ?_
  refine lv_topi (fun y_5 ey_5 => ?_)
  obtain rfl : y_5 = nI (i + 3) := ey_5.trans (z_iaddn i 3 rfl rfl)
  refine va_sld hx hb hX hbl hbA G.2.2.2.1 (vp_in_nI (by omega) (by omega)) dL_law_1216 ?_
  refine lv_topi (fun v_6 ev_6 => ?_)
  rw [nI_clamp (by omega)] at ev_6
  have ev_6 : v_6 = xs (i + 3) := ev_6
  subst ev_6
  obtain ⟨v_7, v_8, v_9, v_10, h_11, h_12⟩ := H_wt
  have h_12 : zKT v_10 := h_12
  obtain ⟨v_13, v_14, v_15, v_16, v_17, v_18, h_19, h_20⟩ := H_z0_
  have h_20 : zLI v_13 v_15 v_17 := h_20
  obtain ⟨v_21, v_22, v_23, v_24, v_25, v_26, h_27, h_28⟩ := H_z1_
  have h_28 : zLI v_21 v_23 v_25 := h_28
  refine z_Vi (bc := [[(xo, .inr (10, [.ref t, .ref im, .ref mk, .ref rd, .ref po, .ref co, .ref tr, .ref wa, .ref wb_, .ref fi, .ref cd]))], wt, z0_, z1_]) (br := [wd0_, wd1_, wg0_, wg1_, [(rd, .inr (7, [.ref rl, .ref rdd, .ref rg, .int r0, .int r1, .ref tq, .int r2, .int r3, .int r4, .int r5, .int r6, .int r7, .int r8]))], z, wd, wg, wwA, wwB, wff, wc, wcp, wr, wrp, wp, [(cd, .inl (T.2 0, 1000, .inl fcd))], wta, z0_a, z1_a, wd0_a, wd1_a, wg0_a, wg1_a, wtb, z0_b, z1_b, wd0_b, wd1_b, wg0_b, wg1_b, wtc, z0_c, z1_c, wd0_c, wd1_c, wg0_c, wg1_c, [(im, .inl (T.2 6, 3, .inr (.inr (.inr (.inr qi)))))], [(mk, .inl (T.2 2, 3, .inl fmk))], [(mo, .inr (11, [.ref m_all, .ref m_has, .int i_size, .int i_next, .int i_where, .int i_token, .int i_number, .int i_word, .int i_wrong, .int i_farCrossing, .ref m_read, .int i_z0, .int i_crossings, .int i_inns, .ref m_posts, .ref m_shut, .ref m_here, .int i_steps, .int i_done, .int i_at, .int i_gone, .ref m_was, .ref m_came, .ref m_seenAt, .ref m_rowWorth, .ref m_farBy, .ref m_used, .int i_everywhere, .int i_again0, .int i_d0, .int i_never, .int i_firstCame, .int i_longRun, .int i_moved, .int i_crowd, .int i_l0, .int i_fitMany, .int i_fitLeast, .int i_fitMost, .ref m_fitPost, .ref m_fitEnd, .ref m_keptPosts, .int i_x0]))], [(m_all, .inl (T.2 0, 3952, .inl f_all))], [(m_has, .inl (T.2 2, 3, .inl f_has))], [(m_read, .inl (T.2 0, 121, .inl f_read))], [(m_posts, .inl (T.2 0, 7, .inl f_posts))], [(m_shut, .inl (T.2 0, 7, .inl f_shut))], [(m_here, .inl (T.2 0, 7, .inl f_here))], [(m_was, .inl (T.2 0, 7, .inl f_was))], [(m_came, .inl (T.2 0, 7, .inl f_came))], [(m_seenAt, .inl (T.2 0, 16384, .inl f_seenAt))], [(m_rowWorth, .inl (T.2 0, 512, .inl f_rowWorth))], [(m_farBy, .inl (T.2 0, 49, .inl f_farBy))], [(m_used, .inl (T.2 0, 7, .inl f_used))], [(m_fitPost, .inl (T.2 0, 28, .inl f_fitPost))], [(m_fitEnd, .inl (T.2 0, 49, .inl f_fitEnd))], [(m_keptPosts, .inl (T.2 0, 7, .inl f_keptPosts))]]) (As := [.int (xs (i + 1)), .int (xs (i + 2)), .int (xs (i + 3))]) (rest := []) C G (c_led l T xo t im mk rd po co tr wa wb_ fi cd l0 l1 d0 d1 g0 g1 ln v_7 v_8 v_9 v_10 wt v_13 v_14 v_15 v_16 v_17 v_18 z0_ v_21 v_22 v_23 v_24 v_25 v_26 z1_ (xs (i + 1)) (xs (i + 2)) (xs (i + 3)) h_11 (by first | assumption | omega | rfl) h_19 (by first | assumption | omega | rfl) h_27 (by first | assumption | omega | rfl)) (kV_RL_112 C.2.2.2.2 (Nat.le_of_ble_eq_true rfl) (Nat.le_of_ble_eq_true rfl)) [0, 1, 2, 3] [4, 5, 6, 7, 8, 9, 10, 11, 12, 13, 14, 15, 16, 17, 18, 19, 20, 21, 22, 23, 24, 25, 26, 27, 28, 29, 30, 31, 32, 33, 34, 35, 36, 37, 38, 39, 40, 41, 42, 43, 44, 45, 46, 47, 48, 49, 50, 51, 52, 53, 54, 55, 56, 57, 58, 59] rfl rfl (ci := 10) (qc := (RX11, TX11, 11)) rfl rfl (List.mem_flatten.mpr ⟨_, List.mem_of_getElem? (i := 0) rfl, List.mem_cons_self⟩) rfl rfl hl.1 dL_law_1217 (by show _ + 0 ≤ 600000; omega) (by show _ + 0 ≤ 7302250; omega) (fun r_29 b1 H locs hw G => ?_)
  obtain rfl := hw
  have G : zS T A s.heap s [wd0_, wd1_, wg0_, wg1_, [(rd, .inr (7, [.ref rl, .ref rdd, .ref rg, .int r0, .int r1, .ref tq, .int r2, .int r3, .int r4, .int r5, .int r6, .int r7, .int r8]))], z, wd, wg, wwA, wwB, wff, wc, wcp, wr, wrp, wp, [(cd, .inl (T.2 0, 1000, .inl fcd))], wta, z0_a, z1_a, wd0_a, wd1_a, wg0_a, wg1_a, wtb, z0_b, z1_b, wd0_b, wd1_b, wg0_b, wg1_b, wtc, z0_c, z1_c, wd0_c, wd1_c, wg0_c, wg1_c, [(im, .inl (T.2 6, 3, .inr (.inr (.inr (.inr qi)))))], [(mk, .inl (T.2 2, 3, .inl fmk))], [(mo, .inr (11, [.ref m_all, .ref m_has, .int i_size, .int i_next, .int i_where, .int i_token, .int i_number, .int i_word, .int i_wrong, .int i_farCrossing, .ref m_read, .int i_z0, .int i_crossings, .int i_inns, .ref m_posts, .ref m_shut, .ref m_here, .int i_steps, .int i_done, .int i_at, .int i_gone, .ref m_was, .ref m_came, .ref m_seenAt, .ref m_rowWorth, .ref m_farBy, .ref m_used, .int i_everywhere, .int i_again0, .int i_d0, .int i_never, .int i_firstCame, .int i_longRun, .int i_moved, .int i_crowd, .int i_l0, .int i_fitMany, .int i_fitLeast, .int i_fitMost, .ref m_fitPost, .ref m_fitEnd, .ref m_keptPosts, .int i_x0]))], [(m_all, .inl (T.2 0, 3952, .inl f_all))], [(m_has, .inl (T.2 2, 3, .inl f_has))], [(m_read, .inl (T.2 0, 121, .inl f_read))], [(m_posts, .inl (T.2 0, 7, .inl f_posts))], [(m_shut, .inl (T.2 0, 7, .inl f_shut))], [(m_here, .inl (T.2 0, 7, .inl f_here))], [(m_was, .inl (T.2 0, 7, .inl f_was))], [(m_came, .inl (T.2 0, 7, .inl f_came))], [(m_seenAt, .inl (T.2 0, 16384, .inl f_seenAt))], [(m_rowWorth, .inl (T.2 0, 512, .inl f_rowWorth))], [(m_farBy, .inl (T.2 0, 49, .inl f_farBy))], [(m_used, .inl (T.2 0, 7, .inl f_used))], [(m_fitPost, .inl (T.2 0, 28, .inl f_fitPost))], [(m_fitEnd, .inl (T.2 0, 49, .inl f_fitEnd))], [(m_keptPosts, .inl (T.2 0, 7, .inl f_keptPosts))], [(xo, .inr (10, [.ref t, .ref im, .ref mk, .ref rd, .ref po, .ref co, .ref tr, .ref wa, .ref wb_, .ref fi, .ref cd]))], wt, z0_, z1_] _ _ := G
  refine lv_pop hx hb dL_law_1220 rfl ?_
  refine lv_aload_n hx hb dL_law_1221 rfl (lv_at hl 2 rfl) ?_
  refine lv_aload_n hx hb dL_law_1222 rfl (lv_at hl 0 rfl) ?_
  refine lv_iload_n hx hb dL_law_1223 rfl (lv_at hl 3 rfl) ?_
  refine lv_iconst (v := 1) hx hb dL_law_1224 (by decide) ?_
  refine lv_iadd hx hb dL_law_1225 ?_
  refine lv_topi (fun y_30 ey_30 => ?_)
  obtain rfl : y_30 = nI (i + 1) := ey_30.trans (z_iaddn i 1 rfl rfl)
  refine va_sld hx hb hX hbl hbA G.2.2.2.1 (vp_in_nI (by omega) (by omega)) dL_law_1226 ?_
  refine lv_topi (fun v_31 ev_31 => ?_)
  rw [nI_clamp (by omega)] at ev_31
  have ev_31 : v_31 = xs (i + 1) := ev_31
  subst ev_31
  refine lv_aload_n hx hb dL_law_1227 rfl (lv_at hl 0 rfl) ?_
  refine lv_iload_n hx hb dL_law_1228 rfl (lv_at hl 3 rfl) ?_
  refine lv_iconst (v := 2) hx hb dL_law_1229 (by decide) ?_
  refine lv_iadd hx hb dL_law_1230 ?_
  refine lv_topi (fun y_32 ey_32 => ?_)
  obtain rfl : y_32 = nI (i + 2) := ey_32.trans (z_iaddn i 2 rfl rfl)
  refine va_sld hx hb hX hbl hbA G.2.2.2.1 (vp_in_nI (by omega) (by omega)) dL_law_1231 ?_
  refine lv_topi (fun v_33 ev_33 => ?_)
  rw [nI_clamp (by omega)] at ev_33
  have ev_33 : v_33 = xs (i + 2) := ev_33
  subst ev_33
  refine lv_aload_n hx hb dL_law_1232 rfl (lv_at hl 0 rfl) ?_
  refine lv_iload_n hx hb dL_law_1233 rfl (lv_at hl 3 rfl) ?_
  refine lv_iconst (v := 3) hx hb dL_law_1234 (by decide) ?_
  refine lv_iadd hx hb dL_law_1235 ?_
  refine lv_topi (fun y_34 ey_34 => ?_)
  obtain rfl : y_34 = nI (i + 3) := ey_34.trans (z_iaddn i 3 rfl rfl)
  refine va_sld hx hb hX hbl hbA G.2.2.2.1 (vp_in_nI (by omega) (by omega)) dL_law_1236 ?_
  refine lv_topi (fun v_35 ev_35 => ?_)
  rw [nI_clamp (by omega)] at ev_35
  have ev_35 : v_35 = xs (i + 3) := ev_35
  subst ev_35
  refine z_Vi (bc := [[(mo, .inr (11, [.ref m_all, .ref m_has, .int i_size, .int i_next, .int i_where, .int i_token, .int i_number, .int i_word, .int i_wrong, .int i_farCrossing, .ref m_read, .int i_z0, .int i_crossings, .int i_inns, .ref m_posts, .ref m_shut, .ref m_here, .int i_steps, .int i_done, .int i_at, .int i_gone, .ref m_was, .ref m_came, .ref m_seenAt, .ref m_rowWorth, .ref m_farBy, .ref m_used, .int i_everywhere, .int i_again0, .int i_d0, .int i_never, .int i_firstCame, .int i_longRun, .int i_moved, .int i_crowd, .int i_l0, .int i_fitMany, .int i_fitLeast, .int i_fitMost, .ref m_fitPost, .ref m_fitEnd, .ref m_keptPosts, .int i_x0]))], [(m_all, .inl (T.2 0, 3952, .inl f_all))], [(m_posts, .inl (T.2 0, 7, .inl f_posts))], [(m_shut, .inl (T.2 0, 7, .inl f_shut))], [(m_here, .inl (T.2 0, 7, .inl f_here))]]) (br := [wd0_, wd1_, wg0_, wg1_, [(rd, .inr (7, [.ref rl, .ref rdd, .ref rg, .int r0, .int r1, .ref tq, .int r2, .int r3, .int r4, .int r5, .int r6, .int r7, .int r8]))], z, wd, wg, wwA, wwB, wff, wc, wcp, wr, wrp, wp, [(cd, .inl (T.2 0, 1000, .inl fcd))], wta, z0_a, z1_a, wd0_a, wd1_a, wg0_a, wg1_a, wtb, z0_b, z1_b, wd0_b, wd1_b, wg0_b, wg1_b, wtc, z0_c, z1_c, wd0_c, wd1_c, wg0_c, wg1_c, [(im, .inl (T.2 6, 3, .inr (.inr (.inr (.inr qi)))))], [(mk, .inl (T.2 2, 3, .inl fmk))], [(m_has, .inl (T.2 2, 3, .inl f_has))], [(m_read, .inl (T.2 0, 121, .inl f_read))], [(m_was, .inl (T.2 0, 7, .inl f_was))], [(m_came, .inl (T.2 0, 7, .inl f_came))], [(m_seenAt, .inl (T.2 0, 16384, .inl f_seenAt))], [(m_rowWorth, .inl (T.2 0, 512, .inl f_rowWorth))], [(m_farBy, .inl (T.2 0, 49, .inl f_farBy))], [(m_used, .inl (T.2 0, 7, .inl f_used))], [(m_fitPost, .inl (T.2 0, 28, .inl f_fitPost))], [(m_fitEnd, .inl (T.2 0, 49, .inl f_fitEnd))], [(m_keptPosts, .inl (T.2 0, 7, .inl f_keptPosts))], [(xo, .inr (10, [.ref t, .ref im, .ref mk, .ref rd, .ref po, .ref co, .ref tr, .ref wa, .ref wb_, .ref fi, .ref cd]))], wt, z0_, z1_]) (As := [.int (xs (i + 1)), .int (xs (i + 2)), .int (xs (i + 3))]) (rest := []) C G (c_m_led l T mo m_all m_has i_size i_next i_where i_token i_number i_word i_wrong i_farCrossing m_read i_z0 i_crossings i_inns m_posts m_shut m_here i_steps i_done i_at i_gone m_was m_came m_seenAt m_rowWorth m_farBy m_used i_everywhere i_again0 i_d0 i_never i_firstCame i_longRun i_moved i_crowd i_l0 i_fitMany i_fitLeast i_fitMost m_fitPost m_fitEnd m_keptPosts i_x0 f_all f_posts f_shut f_here (xs (i + 1)) (xs (i + 2)) (xs (i + 3)) (by first | assumption | omega | rfl)) (kV_RL_115 C.2.2.2.2 (Nat.le_of_ble_eq_true rfl) (Nat.le_of_ble_eq_true rfl)) [40, 41, 44, 45, 46] [0, 1, 2, 3, 4, 5, 6, 7, 8, 9, 10, 11, 12, 13, 14, 15, 16, 17, 18, 19, 20, 21, 22, 23, 24, 25, 26, 27, 28, 29, 30, 31, 32, 33, 34, 35, 36, 37, 38, 39, 42, 43, 47, 48, 49, 50, 51, 52, 53, 54, 55, 56, 57, 58, 59] rfl rfl (ci := 11) (qc := (RX12, TX12, 43)) rfl rfl (List.mem_flatten.mpr ⟨_, List.mem_of_getElem? (i := 0) rfl, List.mem_cons_self⟩) rfl rfl hl.1 dL_law_1237 (by show _ + 0 ≤ 600000; omega) (by show _ + 0 ≤ 7302250; omega) (fun r_44 b1 H locs hw G => ?_)
  obtain ⟨j_z0_36, j_crossings_37, j_inns_38, j_steps_39, j_done_40, g_posts_41, g_shut_42, g_here_43, rfl⟩ := hw
  have G : zS T A s.heap s [wd0_, wd1_, wg0_, wg1_, [(rd, .inr (7, [.ref rl, .ref rdd, .ref rg, .int r0, .int r1, .ref tq, .int r2, .int r3, .int r4, .int r5, .int r6, .int r7, .int r8]))], z, wd, wg, wwA, wwB, wff, wc, wcp, wr, wrp, wp, [(cd, .inl (T.2 0, 1000, .inl fcd))], wta, z0_a, z1_a, wd0_a, wd1_a, wg0_a, wg1_a, wtb, z0_b, z1_b, wd0_b, wd1_b, wg0_b, wg1_b, wtc, z0_c, z1_c, wd0_c, wd1_c, wg0_c, wg1_c, [(im, .inl (T.2 6, 3, .inr (.inr (.inr (.inr qi)))))], [(mk, .inl (T.2 2, 3, .inl fmk))], [(m_has, .inl (T.2 2, 3, .inl f_has))], [(m_read, .inl (T.2 0, 121, .inl f_read))], [(m_was, .inl (T.2 0, 7, .inl f_was))], [(m_came, .inl (T.2 0, 7, .inl f_came))], [(m_seenAt, .inl (T.2 0, 16384, .inl f_seenAt))], [(m_rowWorth, .inl (T.2 0, 512, .inl f_rowWorth))], [(m_farBy, .inl (T.2 0, 49, .inl f_farBy))], [(m_used, .inl (T.2 0, 7, .inl f_used))], [(m_fitPost, .inl (T.2 0, 28, .inl f_fitPost))], [(m_fitEnd, .inl (T.2 0, 49, .inl f_fitEnd))], [(m_keptPosts, .inl (T.2 0, 7, .inl f_keptPosts))], [(xo, .inr (10, [.ref t, .ref im, .ref mk, .ref rd, .ref po, .ref co, .ref tr, .ref wa, .ref wb_, .ref fi, .ref cd]))], wt, z0_, z1_, [(mo, .inr (11, [.ref m_all, .ref m_has, .int i_size, .int i_next, .int i_where, .int i_token, .int i_number, .int i_word, .int i_wrong, .int i_farCrossing, .ref m_read, .int j_z0_36, .int j_crossings_37, .int j_inns_38, .ref m_posts, .ref m_shut, .ref m_here, .int j_steps_39, .int j_done_40, .int i_at, .int i_gone, .ref m_was, .ref m_came, .ref m_seenAt, .ref m_rowWorth, .ref m_farBy, .ref m_used, .int i_everywhere, .int i_again0, .int i_d0, .int i_never, .int i_firstCame, .int i_longRun, .int i_moved, .int i_crowd, .int i_l0, .int i_fitMany, .int i_fitLeast, .int i_fitMost, .ref m_fitPost, .ref m_fitEnd, .ref m_keptPosts, .int i_x0]))], [(m_all, .inl (T.2 0, 3952, .inl f_all))], [(m_posts, .inl (T.2 0, 7, .inl g_posts_41))], [(m_shut, .inl (T.2 0, 7, .inl g_shut_42))], [(m_here, .inl (T.2 0, 7, .inl g_here_43))]] _ _ := G
  refine lv_pop hx hb dL_law_1240 rfl ?_
  refine lv_goto (tgt := 1767) hx hb dL_law_1241 (by decide) ?_
  have G := G.sub (bs' := [[(xo, .inr (10, [.ref t, .ref im, .ref mk, .ref rd, .ref po, .ref co, .ref tr, .ref wa, .ref wb_, .ref fi, .ref cd]))], wt, z0_, z1_, wd0_, wd1_, wg0_, wg1_, [(rd, .inr (7, [.ref rl, .ref rdd, .ref rg, .int r0, .int r1, .ref tq, .int r2, .int r3, .int r4, .int r5, .int r6, .int r7, .int r8]))], z, wd, wg, wwA, wwB, wff, wc, wcp, wr, wrp, wp, [(cd, .inl (T.2 0, 1000, .inl fcd))], wta, z0_a, z1_a, wd0_a, wd1_a, wg0_a, wg1_a, wtb, z0_b, z1_b, wd0_b, wd1_b, wg0_b, wg1_b, wtc, z0_c, z1_c, wd0_c, wd1_c, wg0_c, wg1_c, [(im, .inl (T.2 6, 3, .inr (.inr (.inr (.inr qi)))))], [(mk, .inl (T.2 2, 3, .inl fmk))], [(mo, .inr (11, [.ref m_all, .ref m_has, .int i_size, .int i_next, .int i_where, .int i_token, .int i_number, .int i_word, .int i_wrong, .int i_farCrossing, .ref m_read, .int j_z0_36, .int j_crossings_37, .int j_inns_38, .ref m_posts, .ref m_shut, .ref m_here, .int j_steps_39, .int j_done_40, .int i_at, .int i_gone, .ref m_was, .ref m_came, .ref m_seenAt, .ref m_rowWorth, .ref m_farBy, .ref m_used, .int i_everywhere, .int i_again0, .int i_d0, .int i_never, .int i_firstCame, .int i_longRun, .int i_moved, .int i_crowd, .int i_l0, .int i_fitMany, .int i_fitLeast, .int i_fitMost, .ref m_fitPost, .ref m_fitEnd, .ref m_keptPosts, .int i_x0]))], [(m_all, .inl (T.2 0, 3952, .inl f_all))], [(m_has, .inl (T.2 2, 3, .inl f_has))], [(m_read, .inl (T.2 0, 121, .inl f_read))], [(m_posts, .inl (T.2 0, 7, .inl g_posts_41))], [(m_shut, .inl (T.2 0, 7, .inl g_shut_42))], [(m_here, .inl (T.2 0, 7, .inl g_here_43))], [(m_was, .inl (T.2 0, 7, .inl f_was))], [(m_came, .inl (T.2 0, 7, .inl f_came))], [(m_seenAt, .inl (T.2 0, 16384, .inl f_seenAt))], [(m_rowWorth, .inl (T.2 0, 512, .inl f_rowWorth))], [(m_farBy, .inl (T.2 0, 49, .inl f_farBy))], [(m_used, .inl (T.2 0, 7, .inl f_used))], [(m_fitPost, .inl (T.2 0, 28, .inl f_fitPost))], [(m_fitEnd, .inl (T.2 0, 49, .inl f_fitEnd))], [(m_keptPosts, .inl (T.2 0, 7, .inl f_keptPosts))]]) [51, 52, 53, 54, 0, 1, 2, 3, 4, 5, 6, 7, 8, 9, 10, 11, 12, 13, 14, 15, 16, 17, 18, 19, 20, 21, 22, 23, 24, 25, 26, 27, 28, 29, 30, 31, 32, 33, 34, 35, 36, 37, 38, 39, 55, 56, 40, 41, 57, 58, 59, 42, 43, 44, 45, 46, 47, 48, 49, 50] rfl
  refine W.widen (k := 216 + 2 * i + 12) (n := 27000 + 6 * (n4A + n4B) + 2 * m1f) (by omega) (by omega) ?_
  exact kk n4A n4B m1f _ ⟨⟨t, im, mk, rd, po, co, tr, wa, wb_, fi, cd, wt, l0, l1, d0, d1, g0, g1, ln, z0_, z1_, wd0_, wd1_, wg0_, wg1_, rl, rdd, rg, r0, r1, tq, r2, r3, r4, r5, r6, r7, r8, z, wd, wg, wwA, mdA, wwB, mdB, wff, e0f, e1f, wc, cpo, wcp, wr, tpo, wrp, wp, fcd, m0, wta, l0a, l1a, d0a, d1a, g0a, g1a, lna, z0_a, z1_a, wd0_a, wd1_a, wg0_a, wg1_a, m1, wtb, l0b, l1b, d0b, d1b, g0b, g1b, lnb, z0_b, z1_b, wd0_b, wd1_b, wg0_b, wg1_b, m2, wtc, l0c, l1c, d0c, d1c, g0c, g1c, lnc, z0_c, z1_c, wd0_c, wd1_c, wg0_c, wg1_c, qi, fmk, m_all, m_has, i_size, i_next, i_where, i_token, i_number, i_word, i_wrong, i_farCrossing, m_read, j_z0_36, j_crossings_37, j_inns_38, m_posts, m_shut, m_here, j_steps_39, j_done_40, i_at, i_gone, m_was, m_came, m_seenAt, m_rowWorth, m_farBy, m_used, i_everywhere, i_again0, i_d0, i_never, i_firstCame, i_longRun, i_moved, i_crowd, i_l0, i_fitMany, i_fitLeast, i_fitMost, m_fitPost, m_fitEnd, m_keptPosts, i_x0, f_all, f_has, f_read, g_posts_41, g_shut_42, g_here_43, f_was, f_came, f_seenAt, f_rowWorth, f_farBy, f_used, f_fitPost, f_fitEnd, f_keptPosts⟩, rfl, ⟨v_7, v_8, v_9, v_10, h_11, (by first | assumption | omega)⟩, ⟨v_13, v_14, v_15, v_16, v_17, v_18, h_19, (by first | assumption | omega)⟩, ⟨v_21, v_22, v_23, v_24, v_25, v_26, h_27, (by first | assumption | omega)⟩, H_wd0_, H_wd1_, H_wg0_, H_wg1_, H_z, H_wd, H_wg, H_wwA, H_wwB, H_wff, H_wc, H_wcp, H_wr, H_wrp, H_wp, H_wta, H_z0_a, H_z1_a, H_wd0_a, H_wd1_a, H_wg0_a, H_wg1_a, H_wtb, H_z0_b, H_z1_b, H_wd0_b, H_wd1_b, H_wg0_b, H_wg1_b, H_wtc, H_z0_c, H_z1_c, H_wd0_c, H_wd1_c, H_wg0_c, H_wg1_c, (by first | assumption | omega), (by first | assumption | omega), (by first | assumption | omega), (by first | assumption | omega), (by first | assumption | omega), (by first | assumption | omega), (by first | assumption | omega), (by first | assumption | omega)⟩ _ _ ls G (lv_sub hl [0, 1, 2, 3] rfl)

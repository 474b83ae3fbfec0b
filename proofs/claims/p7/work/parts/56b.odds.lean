set_option maxHeartbeats 4000000 in
set_option maxRecDepth 100000 in
/-- c_least -/
theorem c_least (l : Launch) (T : zTy) (xo : Nat) (t : Nat) (im : Nat) (mk : Nat) (rd : Nat) (po : Nat) (co : Nat) (tr : Nat) (wa : Nat) (wb_ : Nat) (fi : Nat) (cd : Nat) (l0 : Nat) (l1 : Nat) (d0 : Nat) (d1 : Nat) (g0 : Nat) (g1 : Nat) (ln : Int32) (fl : Int32) (pl : Int32) (ft : Nat → Int32) (fk : Nat → Int32) (wt : va_W) (cr0_ : Int32) (inn0_ : Int32) (k10_ : Nat → Int32) (k20_ : Nat → Int32) (k30_ : Nat → Int32) (k40_ : Nat → Int32) (z0_ : va_W) (cr1_ : Int32) (inn1_ : Int32) (k11_ : Nat → Int32) (k21_ : Nat → Int32) (k31_ : Nat → Int32) (k41_ : Nat → Int32) (z1_ : va_W) (gg0_ : Int32) (q10_ : Nat → Int32) (q20_ : Nat → Int32) (wg0_ : va_W) (gg1_ : Int32) (q11_ : Nat → Int32) (q21_ : Nat → Int32) (wg1_ : va_W) (laA : Nat) (mdA : Int32) (wyA : Int32) (pc_A : Int32) (f1A : Nat → Int32) (f2A : Nat → Int32) (f3A : Nat → Int32) (f4A : Nat → Int32) (f5A : Nat → Int32) (f6A : Nat → Int32) (n4A : Nat) (wwA : va_W) (laB : Nat) (mdB : Int32) (wyB : Int32) (pc_B : Int32) (f1B : Nat → Int32) (f2B : Nat → Int32) (f3B : Nat → Int32) (f4B : Nat → Int32) (f5B : Nat → Int32) (f6B : Nat → Int32) (n4B : Nat) (wwB : va_W) (e0f : Int32) (e1f : Int32) (e2f : Int32) (e3f : Int32) (e4f : Int32) (e5f : Int32) (r1f : Nat → Int32) (m1f : Nat) (r2f : Nat → Int32) (wff : va_W) (i1 : Int32) (i2 : Int32) (w_ : Int32) (ht : bTold T t l0 l1 d0 d1 g0 g1 ln fl pl ft fk wt) (hK : zKT fk) (hz0_ : bLand T l0 cr0_ inn0_ k10_ k20_ k30_ k40_ z0_) (hI0_ : zLI cr0_ k10_ k30_) (hz1_ : bLand T l1 cr1_ inn1_ k11_ k21_ k31_ k41_ z1_) (hI1_ : zLI cr1_ k11_ k31_) (hg0_ : bLog T g0 gg0_ q10_ q20_ wg0_) (hg1_ : bLog T g1 gg1_ q11_ q21_ wg1_) (hwwA : bWays T wa laA mdA wyA pc_A f1A f2A f3A f4A f5A f6A n4A wwA) (hpwA : zPw n4A) (hmdA : mdA = 0 ∨ laA = l0) (hwmA : 0 ≤ wyA.toInt ∧ wyA.toInt ≤ 16384) (hwwB : bWays T wb_ laB mdB wyB pc_B f1B f2B f3B f4B f5B f6B n4B wwB) (hpwB : zPw n4B) (hmdB : mdB = 0 ∨ laB = l1) (hwmB : 0 ≤ wyB.toInt ∧ wyB.toInt ≤ 16384) (hwff : bFit T fi e0f e1f e2f e3f e4f e5f r1f m1f r2f wff) (hfw : zFw m1f) (hf3 : 0 ≤ e3f.toInt) (hFI : (¬ e0f = 0 → e1f.toInt = 0 ∧ ¬ mdA = 0 ∨ e1f.toInt = 1 ∧ ¬ mdB = 0)) : zMi l T yX11_least cX11_least 4 (some .int) 8 4 (6 * (zNA (i1.toInt = 0 ∧ 0 < (fk 0).toInt ∧ (0 ≤ i2.toInt ∧ i2.toInt < (fk 2).toInt ∧ i2.toInt < 2) ∧ (e0f.toInt = 0 ∨ ¬ e1f.toInt = i1.toInt ∨ ¬ e2f.toInt = i2.toInt)) mdA n4A (zPl cr0_ inn0_ k10_) - n4A) + 6 * (zNA (i1.toInt = 1 ∧ 1 < (fk 0).toInt ∧ (0 ≤ i2.toInt ∧ i2.toInt < (fk 2).toInt ∧ i2.toInt < 2) ∧ (e0f.toInt = 0 ∨ ¬ e1f.toInt = i1.toInt ∨ ¬ e2f.toInt = i2.toInt)) mdB n4B (zPl cr1_ inn1_ k11_) - n4B) + 2 * (zNF (i1.toInt = 1 ∧ 1 < (fk 0).toInt ∧ (0 ≤ i2.toInt ∧ i2.toInt < (fk 2).toInt ∧ i2.toInt < 2) ∧ (e0f.toInt = 0 ∨ ¬ e1f.toInt = i1.toInt ∨ ¬ e2f.toInt = i2.toInt)) (zNF (i1.toInt = 0 ∧ 0 < (fk 0).toInt ∧ (0 ≤ i2.toInt ∧ i2.toInt < (fk 2).toInt ∧ i2.toInt < 2) ∧ (e0f.toInt = 0 ∨ ¬ e1f.toInt = i1.toInt ∨ ¬ e2f.toInt = i2.toInt)) m1f (zMw mdA wyA cr0_ inn0_ k10_)) (zMw mdB wyB cr1_ inn1_ k11_) - m1f)) [.ref xo, .int i1, .int i2, .int w_] [[(xo, .inr (10, [.ref t, .ref im, .ref mk, .ref rd, .ref po, .ref co, .ref tr, .ref wa, .ref wb_, .ref fi, .ref cd]))], wt, z0_, z1_, wg0_, wg1_, wwA, wwB, wff] (fun (r : Int32) bs => ∃ (laA_2 : Nat) (mdA_2 : Int32) (wyA_2 : Int32) (pc_A_2 : Int32) (f1A_2 : Nat → Int32) (f2A_2 : Nat → Int32) (f3A_2 : Nat → Int32) (f4A_2 : Nat → Int32) (f5A_2 : Nat → Int32) (f6A_2 : Nat → Int32) (n4A_2 : Nat) (wwA_2 : va_W) (laB_2 : Nat) (mdB_2 : Int32) (wyB_2 : Int32) (pc_B_2 : Int32) (f1B_2 : Nat → Int32) (f2B_2 : Nat → Int32) (f3B_2 : Nat → Int32) (f4B_2 : Nat → Int32) (f5B_2 : Nat → Int32) (f6B_2 : Nat → Int32) (n4B_2 : Nat) (wwB_2 : va_W) (e0f_2 : Int32) (e1f_2 : Int32) (e2f_2 : Int32) (e3f_2 : Int32) (e4f_2 : Int32) (e5f_2 : Int32) (r1f_2 : Nat → Int32) (m1f_2 : Nat) (r2f_2 : Nat → Int32) (wff_2 : va_W), bs = [[(xo, .inr (10, [.ref t, .ref im, .ref mk, .ref rd, .ref po, .ref co, .ref tr, .ref wa, .ref wb_, .ref fi, .ref cd]))], wt, z0_, z1_, wg0_, wg1_, wwA_2, wwB_2, wff_2] ∧ bWays T wa laA_2 mdA_2 wyA_2 pc_A_2 f1A_2 f2A_2 f3A_2 f4A_2 f5A_2 f6A_2 n4A_2 wwA_2 ∧ (mdA_2 = 0 ∨ laA_2 = l0) ∧ (0 ≤ wyA_2.toInt ∧ wyA_2.toInt ≤ 16384) ∧ n4A_2 = zNA (i1.toInt = 0 ∧ 0 < (fk 0).toInt ∧ (0 ≤ i2.toInt ∧ i2.toInt < (fk 2).toInt ∧ i2.toInt < 2) ∧ (e0f.toInt = 0 ∨ ¬ e1f.toInt = i1.toInt ∨ ¬ e2f.toInt = i2.toInt)) mdA n4A (zPl cr0_ inn0_ k10_) ∧ zPw n4A_2 ∧ (¬ mdA = 0 → ¬ mdA_2 = 0) ∧ bWays T wb_ laB_2 mdB_2 wyB_2 pc_B_2 f1B_2 f2B_2 f3B_2 f4B_2 f5B_2 f6B_2 n4B_2 wwB_2 ∧ (mdB_2 = 0 ∨ laB_2 = l1) ∧ (0 ≤ wyB_2.toInt ∧ wyB_2.toInt ≤ 16384) ∧ n4B_2 = zNA (i1.toInt = 1 ∧ 1 < (fk 0).toInt ∧ (0 ≤ i2.toInt ∧ i2.toInt < (fk 2).toInt ∧ i2.toInt < 2) ∧ (e0f.toInt = 0 ∨ ¬ e1f.toInt = i1.toInt ∨ ¬ e2f.toInt = i2.toInt)) mdB n4B (zPl cr1_ inn1_ k11_) ∧ zPw n4B_2 ∧ (¬ mdB = 0 → ¬ mdB_2 = 0) ∧ bFit T fi e0f_2 e1f_2 e2f_2 e3f_2 e4f_2 e5f_2 r1f_2 m1f_2 r2f_2 wff_2 ∧ m1f_2 = zNF (i1.toInt = 1 ∧ 1 < (fk 0).toInt ∧ (0 ≤ i2.toInt ∧ i2.toInt < (fk 2).toInt ∧ i2.toInt < 2) ∧ (e0f.toInt = 0 ∨ ¬ e1f.toInt = i1.toInt ∨ ¬ e2f.toInt = i2.toInt)) (zNF (i1.toInt = 0 ∧ 0 < (fk 0).toInt ∧ (0 ≤ i2.toInt ∧ i2.toInt < (fk 2).toInt ∧ i2.toInt < 2) ∧ (e0f.toInt = 0 ∨ ¬ e1f.toInt = i1.toInt ∨ ¬ e2f.toInt = i2.toInt)) m1f (zMw mdA wyA cr0_ inn0_ k10_)) (zMw mdB wyB cr1_ inn1_ k11_) ∧ zFw m1f_2 ∧ 0 ≤ e3f_2.toInt ∧ (¬ e0f_2 = 0 → e1f_2.toInt = 0 ∧ ¬ mdA_2 = 0 ∨ e1f_2.toInt = 1 ∧ ¬ mdB_2 = 0)) := by
  refine zMi_of (own := RX11) (by decide) rfl (Nat.le_of_ble_eq_true rfl) ?_
  intro p e s m args below meth c A ls C hr hlocks hnm hAe G hl
  have hx := C.1
  have hb := C.2.1
  replace hmdA : zHd (mdA = 0 ∨ laA = l0) := hmdA
  replace hmdB : zHd (mdB = 0 ∨ laB = l1) := hmdB
  replace hFI : zHd ((¬ e0f = 0 → e1f.toInt = 0 ∧ ¬ mdA = 0 ∨ e1f.toInt = 1 ∧ ¬ mdB = 0)) := hFI
  have hl : lv_has ls 4 [(0, .ref xo), (1, .int i1), (2, .int i2), (3, .int w_)] := hl
  refine lv_aload_n hx hb dX11_least_0 rfl (lv_at hl 0 rfl) ?_
  refine lv_iload_n hx hb dX11_least_1 rfl (lv_at hl 1 rfl) ?_
  refine lv_iload_n hx hb dX11_least_2 rfl (lv_at hl 2 rfl) ?_
  refine z_Vi (bc := [[(xo, .inr (10, [.ref t, .ref im, .ref mk, .ref rd, .ref po, .ref co, .ref tr, .ref wa, .ref wb_, .ref fi, .ref cd]))], wt, z0_, z1_, wg0_, wg1_, wwA, wwB, wff]) (br := []) (As := [.int i1, .int i2]) (rest := []) C G (c_fit l T xo t im mk rd po co tr wa wb_ fi cd l0 l1 d0 d1 g0 g1 ln fl pl ft fk wt cr0_ inn0_ k10_ k20_ k30_ k40_ z0_ cr1_ inn1_ k11_ k21_ k31_ k41_ z1_ gg0_ q10_ q20_ wg0_ gg1_ q11_ q21_ wg1_ laA mdA wyA pc_A f1A f2A f3A f4A f5A f6A n4A wwA laB mdB wyB pc_B f1B f2B f3B f4B f5B f6B n4B wwB e0f e1f e2f e3f e4f e5f r1f m1f r2f wff i1 i2 ht (by first | with_reducible assumption | with_reducible rfl | omega | assumption | rfl) hz0_ (by first | with_reducible assumption | with_reducible rfl | omega | assumption | rfl) hz1_ (by first | with_reducible assumption | with_reducible rfl | omega | assumption | rfl) hg0_ hg1_ hwwA (by first | with_reducible assumption | with_reducible rfl | omega | assumption | rfl) (by first | with_reducible assumption | with_reducible rfl | omega | assumption | rfl) (by first | with_reducible assumption | with_reducible rfl | omega | assumption | rfl) hwwB (by first | with_reducible assumption | with_reducible rfl | omega | assumption | rfl) (by first | with_reducible assumption | with_reducible rfl | omega | assumption | rfl) (by first | with_reducible assumption | with_reducible rfl | omega | assumption | rfl) hwff hfw hf3 hFI) (kV_RX11_302 C.2.2.2.2 (Nat.le_of_ble_eq_true rfl) (Nat.le_of_ble_eq_true rfl)) [0, 1, 2, 3, 4, 5, 6, 7, 8] [] rfl rfl (ci := 10) (qc := (RX11, TX11, 11)) rfl rfl (List.mem_flatten.mpr ⟨_, List.mem_of_getElem? (i := 0) rfl, List.mem_cons_self⟩) rfl rfl hl.1 dX11_least_3 (by show _ + 4 ≤ 4; omega) (by show _ + (6 * (zNA (i1.toInt = 0 ∧ 0 < (fk 0).toInt ∧ (0 ≤ i2.toInt ∧ i2.toInt < (fk 2).toInt ∧ i2.toInt < 2) ∧ (e0f.toInt = 0 ∨ ¬ e1f.toInt = i1.toInt ∨ ¬ e2f.toInt = i2.toInt)) mdA n4A (zPl cr0_ inn0_ k10_) - n4A) + 6 * (zNA (i1.toInt = 1 ∧ 1 < (fk 0).toInt ∧ (0 ≤ i2.toInt ∧ i2.toInt < (fk 2).toInt ∧ i2.toInt < 2) ∧ (e0f.toInt = 0 ∨ ¬ e1f.toInt = i1.toInt ∨ ¬ e2f.toInt = i2.toInt)) mdB n4B (zPl cr1_ inn1_ k11_) - n4B) + 2 * (zNF (i1.toInt = 1 ∧ 1 < (fk 0).toInt ∧ (0 ≤ i2.toInt ∧ i2.toInt < (fk 2).toInt ∧ i2.toInt < 2) ∧ (e0f.toInt = 0 ∨ ¬ e1f.toInt = i1.toInt ∨ ¬ e2f.toInt = i2.toInt)) (zNF (i1.toInt = 0 ∧ 0 < (fk 0).toInt ∧ (0 ≤ i2.toInt ∧ i2.toInt < (fk 2).toInt ∧ i2.toInt < 2) ∧ (e0f.toInt = 0 ∨ ¬ e1f.toInt = i1.toInt ∨ ¬ e2f.toInt = i2.toInt)) m1f (zMw mdA wyA cr0_ inn0_ k10_)) (zMw mdB wyB cr1_ inn1_ k11_) - m1f)) ≤ 6 * (zNA (i1.toInt = 0 ∧ 0 < (fk 0).toInt ∧ (0 ≤ i2.toInt ∧ i2.toInt < (fk 2).toInt ∧ i2.toInt < 2) ∧ (e0f.toInt = 0 ∨ ¬ e1f.toInt = i1.toInt ∨ ¬ e2f.toInt = i2.toInt)) mdA n4A (zPl cr0_ inn0_ k10_) - n4A) + 6 * (zNA (i1.toInt = 1 ∧ 1 < (fk 0).toInt ∧ (0 ≤ i2.toInt ∧ i2.toInt < (fk 2).toInt ∧ i2.toInt < 2) ∧ (e0f.toInt = 0 ∨ ¬ e1f.toInt = i1.toInt ∨ ¬ e2f.toInt = i2.toInt)) mdB n4B (zPl cr1_ inn1_ k11_) - n4B) + 2 * (zNF (i1.toInt = 1 ∧ 1 < (fk 0).toInt ∧ (0 ≤ i2.toInt ∧ i2.toInt < (fk 2).toInt ∧ i2.toInt < 2) ∧ (e0f.toInt = 0 ∨ ¬ e1f.toInt = i1.toInt ∨ ¬ e2f.toInt = i2.toInt)) (zNF (i1.toInt = 0 ∧ 0 < (fk 0).toInt ∧ (0 ≤ i2.toInt ∧ i2.toInt < (fk 2).toInt ∧ i2.toInt < 2) ∧ (e0f.toInt = 0 ∨ ¬ e1f.toInt = i1.toInt ∨ ¬ e2f.toInt = i2.toInt)) m1f (zMw mdA wyA cr0_ inn0_ k10_)) (zMw mdB wyB cr1_ inn1_ k11_) - m1f); omega) (fun r_53 b1 H locs hw G => ?_)
  refine zEx34 hw ?_
  intro laA_1 mdA_2 wyA_3 pc_A_4 f1A_5 f2A_6 f3A_7 f4A_8 f5A_9 f6A_10 n4A_11 wwA_12 laB_13 mdB_14 wyB_15 pc_B_16 f1B_17 f2B_18 f3B_19 f4B_20 f5B_21 f6B_22 n4B_23 wwB_24 e0f_25 e1f_26 e2f_27 e3f_28 e4f_29 e5f_30 r1f_31 m1f_32 r2f_33 wff_34
  refine zCu19 ?_
  intro hbs9 h_35 h_36 h_37 h_38 h_39 h_40 h_41 h_42 h_43 h_44 h_45 h_46 h_47 h_48 h_49 h_50 h_51 h_52
  clear hw
  subst hbs9
  have G : zS T A s.heap s [[(xo, .inr (10, [.ref t, .ref im, .ref mk, .ref rd, .ref po, .ref co, .ref tr, .ref wa, .ref wb_, .ref fi, .ref cd]))], wt, z0_, z1_, wg0_, wg1_, wwA_12, wwB_24, wff_34] _ _ := G
  replace h_36 : zHd ((mdA_2 = 0 ∨ laA_1 = l0)) := h_36
  replace h_40 : zHd ((¬ mdA = 0 → ¬ mdA_2 = 0)) := h_40
  replace h_42 : zHd ((mdB_14 = 0 ∨ laB_13 = l1)) := h_42
  replace h_46 : zHd ((¬ mdB = 0 → ¬ mdB_14 = 0)) := h_46
  replace h_52 : zHd ((¬ e0f_25 = 0 → e1f_26.toInt = 0 ∧ ¬ mdA_2 = 0 ∨ e1f_26.toInt = 1 ∧ ¬ mdB_14 = 0)) := h_52
  have hfm9 : m1f_32 ≤ 16384 := zFw_le h_49
  refine lv_if_eq (tgt := 19) hx hb dX11_least_6 (by decide) (fun c_54 => ?_) (fun c_54 => ?_)
  · have c_54n : r_53.toInt = (0 : Int) := (fa_eq _ _).mp c_54
    refine lv_iconst (v := (-1)) hx hb dX11_least_19 (by decide) ?_
    exact z_iret C hr hlocks G (by omega) (by omega) dX11_least_20 ⟨laA_1, mdA_2, wyA_3, pc_A_4, f1A_5, f2A_6, f3A_7, f4A_8, f5A_9, f6A_10, n4A_11, wwA_12, laB_13, mdB_14, wyB_15, pc_B_16, f1B_17, f2B_18, f3B_19, f4B_20, f5B_21, f6B_22, n4B_23, wwB_24, e0f_25, e1f_26, e2f_27, e3f_28, e4f_29, e5f_30, r1f_31, m1f_32, r2f_33, wff_34, rfl, h_35, h_36, h_37, h_38, h_39, h_40, h_41, h_42, h_43, h_44, h_45, h_46, h_47, h_48, h_49, h_50, h_52⟩
  · have c_54n : ¬ r_53.toInt = (0 : Int) := fun q => c_54 ((fa_eq _ _).mpr q)
    refine lv_aload_n hx hb dX11_least_9 rfl (lv_at hl 0 rfl) ?_
    refine z_get C G clX11 0 rfl 9 (by decide) m_fl_RX11_65 rfl dX11_least_10 ?_
    refine zEx2 h_47 ?_
    intro a1_55 a2_56 hbs9
    clear h_47
    subst hbs9
    have G : zS T A s.heap s [[(xo, .inr (10, [.ref t, .ref im, .ref mk, .ref rd, .ref po, .ref co, .ref tr, .ref wa, .ref wb_, .ref fi, .ref cd]))], wt, z0_, z1_, wg0_, wg1_, wwA_12, wwB_24, [(fi, .inr (3, [.int e0f_25, .int e1f_26, .int e2f_27, .int e3f_28, .int e4f_29, .int e5f_30, .ref a1_55, .ref a2_56]))], [(a1_55, .inl (T.2 0, m1f_32, .inl r1f_31))], [(a2_56, .inl (T.2 0, 7, .inl r2f_33))]] _ _ := G.re rfl
    refine z_get C G clX3 8 rfl 3 (by decide) m_fl_RX11_306 rfl dX11_least_13 ?_
    refine lv_if_ne (tgt := 21) hx hb dX11_least_16 (by decide) (fun c_57 => ?_) (fun c_57 => ?_)
    · have c_57n : ¬ e3f_28.toInt = (0 : Int) := fun q => c_57 ((fa_eq _ _).mpr q)
      refine lv_iload_n hx hb dX11_least_21 rfl (lv_at hl 3 rfl) ?_
      refine lv_if_eq (tgt := 35) hx hb dX11_least_22 (by decide) (fun c_58 => ?_) (fun c_58 => ?_)
      · have c_58n : w_.toInt = (0 : Int) := (fa_eq _ _).mp c_58
        refine lv_aload_n hx hb dX11_least_35 rfl (lv_at hl 0 rfl) ?_
        refine z_get C G clX11 0 rfl 9 (by decide) m_fl_RX11_65 rfl dX11_least_36 ?_
        refine z_get C G clX3 8 rfl 4 (by decide) m_fl_RX11_327 rfl dX11_least_39 ?_
        have hw_59 : bFit T fi e0f_25 e1f_26 e2f_27 e3f_28 e4f_29 e5f_30 r1f_31 m1f_32 r2f_33 [(fi, .inr (3, [.int e0f_25, .int e1f_26, .int e2f_27, .int e3f_28, .int e4f_29, .int e5f_30, .ref a1_55, .ref a2_56])), (a1_55, .inl (T.2 0, m1f_32, .inl r1f_31)), (a2_56, .inl (T.2 0, 7, .inl r2f_33))] := ⟨a1_55, a2_56, rfl⟩
        have G : zS T A s.heap s [[(xo, .inr (10, [.ref t, .ref im, .ref mk, .ref rd, .ref po, .ref co, .ref tr, .ref wa, .ref wb_, .ref fi, .ref cd]))], wt, z0_, z1_, wg0_, wg1_, wwA_12, wwB_24, [(fi, .inr (3, [.int e0f_25, .int e1f_26, .int e2f_27, .int e3f_28, .int e4f_29, .int e5f_30, .ref a1_55, .ref a2_56])), (a1_55, .inl (T.2 0, m1f_32, .inl r1f_31)), (a2_56, .inl (T.2 0, 7, .inl r2f_33))]] _ _ := G.re rfl
        exact z_iret C hr hlocks G (by omega) (by omega) dX11_least_42 ⟨laA_1, mdA_2, wyA_3, pc_A_4, f1A_5, f2A_6, f3A_7, f4A_8, f5A_9, f6A_10, n4A_11, wwA_12, laB_13, mdB_14, wyB_15, pc_B_16, f1B_17, f2B_18, f3B_19, f4B_20, f5B_21, f6B_22, n4B_23, wwB_24, e0f_25, e1f_26, e2f_27, e3f_28, e4f_29, e5f_30, r1f_31, m1f_32, r2f_33, ([(fi, .inr (3, [.int e0f_25, .int e1f_26, .int e2f_27, .int e3f_28, .int e4f_29, .int e5f_30, .ref a1_55, .ref a2_56])), (a1_55, .inl (T.2 0, m1f_32, .inl r1f_31)), (a2_56, .inl (T.2 0, 7, .inl r2f_33))]), rfl, h_35, h_36, h_37, h_38, h_39, h_40, h_41, h_42, h_43, h_44, h_45, h_46, hw_59, h_48, h_49, h_50, h_52⟩
      · have c_58n : ¬ w_.toInt = (0 : Int) := fun q => c_58 ((fa_eq _ _).mpr q)
        refine lv_aload_n hx hb dX11_least_25 rfl (lv_at hl 0 rfl) ?_
        refine z_get C G clX11 0 rfl 9 (by decide) m_fl_RX11_65 rfl dX11_least_26 ?_
        refine z_get C G clX3 8 rfl 5 (by decide) m_fl_RX11_324 rfl dX11_least_29 ?_
        refine lv_goto (tgt := 42) hx hb dX11_least_32 (by decide) ?_
        have hw_60 : bFit T fi e0f_25 e1f_26 e2f_27 e3f_28 e4f_29 e5f_30 r1f_31 m1f_32 r2f_33 [(fi, .inr (3, [.int e0f_25, .int e1f_26, .int e2f_27, .int e3f_28, .int e4f_29, .int e5f_30, .ref a1_55, .ref a2_56])), (a1_55, .inl (T.2 0, m1f_32, .inl r1f_31)), (a2_56, .inl (T.2 0, 7, .inl r2f_33))] := ⟨a1_55, a2_56, rfl⟩
        have G : zS T A s.heap s [[(xo, .inr (10, [.ref t, .ref im, .ref mk, .ref rd, .ref po, .ref co, .ref tr, .ref wa, .ref wb_, .ref fi, .ref cd]))], wt, z0_, z1_, wg0_, wg1_, wwA_12, wwB_24, [(fi, .inr (3, [.int e0f_25, .int e1f_26, .int e2f_27, .int e3f_28, .int e4f_29, .int e5f_30, .ref a1_55, .ref a2_56])), (a1_55, .inl (T.2 0, m1f_32, .inl r1f_31)), (a2_56, .inl (T.2 0, 7, .inl r2f_33))]] _ _ := G.re rfl
        exact z_iret C hr hlocks G (by omega) (by omega) dX11_least_42 ⟨laA_1, mdA_2, wyA_3, pc_A_4, f1A_5, f2A_6, f3A_7, f4A_8, f5A_9, f6A_10, n4A_11, wwA_12, laB_13, mdB_14, wyB_15, pc_B_16, f1B_17, f2B_18, f3B_19, f4B_20, f5B_21, f6B_22, n4B_23, wwB_24, e0f_25, e1f_26, e2f_27, e3f_28, e4f_29, e5f_30, r1f_31, m1f_32, r2f_33, ([(fi, .inr (3, [.int e0f_25, .int e1f_26, .int e2f_27, .int e3f_28, .int e4f_29, .int e5f_30, .ref a1_55, .ref a2_56])), (a1_55, .inl (T.2 0, m1f_32, .inl r1f_31)), (a2_56, .inl (T.2 0, 7, .inl r2f_33))]), rfl, h_35, h_36, h_37, h_38, h_39, h_40, h_41, h_42, h_43, h_44, h_45, h_46, hw_60, h_48, h_49, h_50, h_52⟩
    · have c_57n : e3f_28.toInt = (0 : Int) := (fa_eq _ _).mp c_57
      refine lv_iconst (v := (-1)) hx hb dX11_least_19 (by decide) ?_
      have hw_61 : bFit T fi e0f_25 e1f_26 e2f_27 e3f_28 e4f_29 e5f_30 r1f_31 m1f_32 r2f_33 [(fi, .inr (3, [.int e0f_25, .int e1f_26, .int e2f_27, .int e3f_28, .int e4f_29, .int e5f_30, .ref a1_55, .ref a2_56])), (a1_55, .inl (T.2 0, m1f_32, .inl r1f_31)), (a2_56, .inl (T.2 0, 7, .inl r2f_33))] := ⟨a1_55, a2_56, rfl⟩
      have G : zS T A s.heap s [[(xo, .inr (10, [.ref t, .ref im, .ref mk, .ref rd, .ref po, .ref co, .ref tr, .ref wa, .ref wb_, .ref fi, .ref cd]))], wt, z0_, z1_, wg0_, wg1_, wwA_12, wwB_24, [(fi, .inr (3, [.int e0f_25, .int e1f_26, .int e2f_27, .int e3f_28, .int e4f_29, .int e5f_30, .ref a1_55, .ref a2_56])), (a1_55, .inl (T.2 0, m1f_32, .inl r1f_31)), (a2_56, .inl (T.2 0, 7, .inl r2f_33))]] _ _ := G.re rfl
      exact z_iret C hr hlocks G (by omega) (by omega) dX11_least_20 ⟨laA_1, mdA_2, wyA_3, pc_A_4, f1A_5, f2A_6, f3A_7, f4A_8, f5A_9, f6A_10, n4A_11, wwA_12, laB_13, mdB_14, wyB_15, pc_B_16, f1B_17, f2B_18, f3B_19, f4B_20, f5B_21, f6B_22, n4B_23, wwB_24, e0f_25, e1f_26, e2f_27, e3f_28, e4f_29, e5f_30, r1f_31, m1f_32, r2f_33, ([(fi, .inr (3, [.int e0f_25, .int e1f_26, .int e2f_27, .int e3f_28, .int e4f_29, .int e5f_30, .ref a1_55, .ref a2_56])), (a1_55, .inl (T.2 0, m1f_32, .inl r1f_31)), (a2_56, .inl (T.2 0, 7, .inl r2f_33))]), rfl, h_35, h_36, h_37, h_38, h_39, h_40, h_41, h_42, h_43, h_44, h_45, h_46, hw_61, h_48, h_49, h_50, h_52⟩
set_option maxHeartbeats 4000000 in
set_option maxRecDepth 100000 in
/-- c_fits -/
theorem c_fits (l : Launch) (T : zTy) (xo : Nat) (t : Nat) (im : Nat) (mk : Nat) (rd : Nat) (po : Nat) (co : Nat) (tr : Nat) (wa : Nat) (wb_ : Nat) (fi : Nat) (cd : Nat) (l0 : Nat) (l1 : Nat) (d0 : Nat) (d1 : Nat) (g0 : Nat) (g1 : Nat) (ln : Int32) (fl : Int32) (pl : Int32) (ft : Nat → Int32) (fk : Nat → Int32) (wt : va_W) (cr0_ : Int32) (inn0_ : Int32) (k10_ : Nat → Int32) (k20_ : Nat → Int32) (k30_ : Nat → Int32) (k40_ : Nat → Int32) (z0_ : va_W) (cr1_ : Int32) (inn1_ : Int32) (k11_ : Nat → Int32) (k21_ : Nat → Int32) (k31_ : Nat → Int32) (k41_ : Nat → Int32) (z1_ : va_W) (gg0_ : Int32) (q10_ : Nat → Int32) (q20_ : Nat → Int32) (wg0_ : va_W) (gg1_ : Int32) (q11_ : Nat → Int32) (q21_ : Nat → Int32) (wg1_ : va_W) (laA : Nat) (mdA : Int32) (wyA : Int32) (pc_A : Int32) (f1A : Nat → Int32) (f2A : Nat → Int32) (f3A : Nat → Int32) (f4A : Nat → Int32) (f5A : Nat → Int32) (f6A : Nat → Int32) (n4A : Nat) (wwA : va_W) (laB : Nat) (mdB : Int32) (wyB : Int32) (pc_B : Int32) (f1B : Nat → Int32) (f2B : Nat → Int32) (f3B : Nat → Int32) (f4B : Nat → Int32) (f5B : Nat → Int32) (f6B : Nat → Int32) (n4B : Nat) (wwB : va_W) (e0f : Int32) (e1f : Int32) (e2f : Int32) (e3f : Int32) (e4f : Int32) (e5f : Int32) (r1f : Nat → Int32) (m1f : Nat) (r2f : Nat → Int32) (wff : va_W) (i1 : Int32) (i2 : Int32) (w_ : Int32) (ht : bTold T t l0 l1 d0 d1 g0 g1 ln fl pl ft fk wt) (hK : zKT fk) (hz0_ : bLand T l0 cr0_ inn0_ k10_ k20_ k30_ k40_ z0_) (hI0_ : zLI cr0_ k10_ k30_) (hz1_ : bLand T l1 cr1_ inn1_ k11_ k21_ k31_ k41_ z1_) (hI1_ : zLI cr1_ k11_ k31_) (hg0_ : bLog T g0 gg0_ q10_ q20_ wg0_) (hg1_ : bLog T g1 gg1_ q11_ q21_ wg1_) (hwwA : bWays T wa laA mdA wyA pc_A f1A f2A f3A f4A f5A f6A n4A wwA) (hpwA : zPw n4A) (hmdA : mdA = 0 ∨ laA = l0) (hwmA : 0 ≤ wyA.toInt ∧ wyA.toInt ≤ 16384) (hwwB : bWays T wb_ laB mdB wyB pc_B f1B f2B f3B f4B f5B f6B n4B wwB) (hpwB : zPw n4B) (hmdB : mdB = 0 ∨ laB = l1) (hwmB : 0 ≤ wyB.toInt ∧ wyB.toInt ≤ 16384) (hwff : bFit T fi e0f e1f e2f e3f e4f e5f r1f m1f r2f wff) (hfw : zFw m1f) (hf3 : 0 ≤ e3f.toInt) (hFI : (¬ e0f = 0 → e1f.toInt = 0 ∧ ¬ mdA = 0 ∨ e1f.toInt = 1 ∧ ¬ mdB = 0)) : zMi l T yX11_fits cX11_fits 7 (some .int) 8 7 (6 * (zNA (i1.toInt = 0 ∧ 0 < (fk 0).toInt ∧ (0 ≤ i2.toInt ∧ i2.toInt < (fk 2).toInt ∧ i2.toInt < 2) ∧ (e0f.toInt = 0 ∨ ¬ e1f.toInt = i1.toInt ∨ ¬ e2f.toInt = i2.toInt)) mdA n4A (zPl cr0_ inn0_ k10_) - n4A) + 6 * (zNA (i1.toInt = 1 ∧ 1 < (fk 0).toInt ∧ (0 ≤ i2.toInt ∧ i2.toInt < (fk 2).toInt ∧ i2.toInt < 2) ∧ (e0f.toInt = 0 ∨ ¬ e1f.toInt = i1.toInt ∨ ¬ e2f.toInt = i2.toInt)) mdB n4B (zPl cr1_ inn1_ k11_) - n4B) + 2 * (zNF (i1.toInt = 1 ∧ 1 < (fk 0).toInt ∧ (0 ≤ i2.toInt ∧ i2.toInt < (fk 2).toInt ∧ i2.toInt < 2) ∧ (e0f.toInt = 0 ∨ ¬ e1f.toInt = i1.toInt ∨ ¬ e2f.toInt = i2.toInt)) (zNF (i1.toInt = 0 ∧ 0 < (fk 0).toInt ∧ (0 ≤ i2.toInt ∧ i2.toInt < (fk 2).toInt ∧ i2.toInt < 2) ∧ (e0f.toInt = 0 ∨ ¬ e1f.toInt = i1.toInt ∨ ¬ e2f.toInt = i2.toInt)) m1f (zMw mdA wyA cr0_ inn0_ k10_)) (zMw mdB wyB cr1_ inn1_ k11_) - m1f)) [.ref xo, .int i1, .int i2, .int w_] [[(xo, .inr (10, [.ref t, .ref im, .ref mk, .ref rd, .ref po, .ref co, .ref tr, .ref wa, .ref wb_, .ref fi, .ref cd]))], wt, z0_, z1_, wg0_, wg1_, wwA, wwB, wff] (fun (r : Int32) bs => ∃ (laA_2 : Nat) (mdA_2 : Int32) (wyA_2 : Int32) (pc_A_2 : Int32) (f1A_2 : Nat → Int32) (f2A_2 : Nat → Int32) (f3A_2 : Nat → Int32) (f4A_2 : Nat → Int32) (f5A_2 : Nat → Int32) (f6A_2 : Nat → Int32) (n4A_2 : Nat) (wwA_2 : va_W) (laB_2 : Nat) (mdB_2 : Int32) (wyB_2 : Int32) (pc_B_2 : Int32) (f1B_2 : Nat → Int32) (f2B_2 : Nat → Int32) (f3B_2 : Nat → Int32) (f4B_2 : Nat → Int32) (f5B_2 : Nat → Int32) (f6B_2 : Nat → Int32) (n4B_2 : Nat) (wwB_2 : va_W) (e0f_2 : Int32) (e1f_2 : Int32) (e2f_2 : Int32) (e3f_2 : Int32) (e4f_2 : Int32) (e5f_2 : Int32) (r1f_2 : Nat → Int32) (m1f_2 : Nat) (r2f_2 : Nat → Int32) (wff_2 : va_W), bs = [[(xo, .inr (10, [.ref t, .ref im, .ref mk, .ref rd, .ref po, .ref co, .ref tr, .ref wa, .ref wb_, .ref fi, .ref cd]))], wt, z0_, z1_, wg0_, wg1_, wwA_2, wwB_2, wff_2] ∧ bWays T wa laA_2 mdA_2 wyA_2 pc_A_2 f1A_2 f2A_2 f3A_2 f4A_2 f5A_2 f6A_2 n4A_2 wwA_2 ∧ (mdA_2 = 0 ∨ laA_2 = l0) ∧ (0 ≤ wyA_2.toInt ∧ wyA_2.toInt ≤ 16384) ∧ n4A_2 = zNA (i1.toInt = 0 ∧ 0 < (fk 0).toInt ∧ (0 ≤ i2.toInt ∧ i2.toInt < (fk 2).toInt ∧ i2.toInt < 2) ∧ (e0f.toInt = 0 ∨ ¬ e1f.toInt = i1.toInt ∨ ¬ e2f.toInt = i2.toInt)) mdA n4A (zPl cr0_ inn0_ k10_) ∧ zPw n4A_2 ∧ (¬ mdA = 0 → ¬ mdA_2 = 0) ∧ bWays T wb_ laB_2 mdB_2 wyB_2 pc_B_2 f1B_2 f2B_2 f3B_2 f4B_2 f5B_2 f6B_2 n4B_2 wwB_2 ∧ (mdB_2 = 0 ∨ laB_2 = l1) ∧ (0 ≤ wyB_2.toInt ∧ wyB_2.toInt ≤ 16384) ∧ n4B_2 = zNA (i1.toInt = 1 ∧ 1 < (fk 0).toInt ∧ (0 ≤ i2.toInt ∧ i2.toInt < (fk 2).toInt ∧ i2.toInt < 2) ∧ (e0f.toInt = 0 ∨ ¬ e1f.toInt = i1.toInt ∨ ¬ e2f.toInt = i2.toInt)) mdB n4B (zPl cr1_ inn1_ k11_) ∧ zPw n4B_2 ∧ (¬ mdB = 0 → ¬ mdB_2 = 0) ∧ bFit T fi e0f_2 e1f_2 e2f_2 e3f_2 e4f_2 e5f_2 r1f_2 m1f_2 r2f_2 wff_2 ∧ m1f_2 = zNF (i1.toInt = 1 ∧ 1 < (fk 0).toInt ∧ (0 ≤ i2.toInt ∧ i2.toInt < (fk 2).toInt ∧ i2.toInt < 2) ∧ (e0f.toInt = 0 ∨ ¬ e1f.toInt = i1.toInt ∨ ¬ e2f.toInt = i2.toInt)) (zNF (i1.toInt = 0 ∧ 0 < (fk 0).toInt ∧ (0 ≤ i2.toInt ∧ i2.toInt < (fk 2).toInt ∧ i2.toInt < 2) ∧ (e0f.toInt = 0 ∨ ¬ e1f.toInt = i1.toInt ∨ ¬ e2f.toInt = i2.toInt)) m1f (zMw mdA wyA cr0_ inn0_ k10_)) (zMw mdB wyB cr1_ inn1_ k11_) ∧ zFw m1f_2 ∧ 0 ≤ e3f_2.toInt ∧ (¬ e0f_2 = 0 → e1f_2.toInt = 0 ∧ ¬ mdA_2 = 0 ∨ e1f_2.toInt = 1 ∧ ¬ mdB_2 = 0)) := by
  refine zMi_of (own := RX11) (by decide) rfl (Nat.le_of_ble_eq_true rfl) ?_
  intro p e s m args below meth c A ls C hr hlocks hnm hAe G hl
  have hx := C.1
  have hb := C.2.1
  replace hmdA : zHd (mdA = 0 ∨ laA = l0) := hmdA
  replace hmdB : zHd (mdB = 0 ∨ laB = l1) := hmdB
  replace hFI : zHd ((¬ e0f = 0 → e1f.toInt = 0 ∧ ¬ mdA = 0 ∨ e1f.toInt = 1 ∧ ¬ mdB = 0)) := hFI
  have hl : lv_has ls 7 [(0, .ref xo), (1, .int i1), (2, .int i2), (3, .int w_)] := hl
  refine lv_aload_n hx hb dX11_fits_0 rfl (lv_at hl 0 rfl) ?_
  refine z_get C G clX11 0 rfl 0 (by decide) m_fl_RX11_10 rfl dX11_fits_1 ?_
  refine lv_iload_n hx hb dX11_fits_4 rfl (lv_at hl 1 rfl) ?_
  refine z_Vq (bc := [wt]) (br := [[(xo, .inr (10, [.ref t, .ref im, .ref mk, .ref rd, .ref po, .ref co, .ref tr, .ref wa, .ref wb_, .ref fi, .ref cd]))], z0_, z1_, wg0_, wg1_, wwA, wwB, wff]) (As := [.int i1]) (rest := []) C G (c_landAt l T t l0 l1 d0 d1 g0 g1 ln fl pl ft fk wt i1 ht) (kV_RX11_121 C.2.2.2.2 (Nat.le_of_ble_eq_true rfl) (Nat.le_of_ble_eq_true rfl)) [1] [0, 2, 3, 4, 5, 6, 7, 8] rfl rfl (ci := 8) (qc := (RX9, TX9, 8)) rfl rfl (List.mem_flatten.mpr ⟨_, List.mem_of_getElem? (i := 0) rfl, (bTold_mem ht).choose_spec⟩) rfl rfl hl.1 dX11_fits_5 (by show _ + 0 ≤ 7; omega) (by show _ + 0 ≤ 6 * (zNA (i1.toInt = 0 ∧ 0 < (fk 0).toInt ∧ (0 ≤ i2.toInt ∧ i2.toInt < (fk 2).toInt ∧ i2.toInt < 2) ∧ (e0f.toInt = 0 ∨ ¬ e1f.toInt = i1.toInt ∨ ¬ e2f.toInt = i2.toInt)) mdA n4A (zPl cr0_ inn0_ k10_) - n4A) + 6 * (zNA (i1.toInt = 1 ∧ 1 < (fk 0).toInt ∧ (0 ≤ i2.toInt ∧ i2.toInt < (fk 2).toInt ∧ i2.toInt < 2) ∧ (e0f.toInt = 0 ∨ ¬ e1f.toInt = i1.toInt ∨ ¬ e2f.toInt = i2.toInt)) mdB n4B (zPl cr1_ inn1_ k11_) - n4B) + 2 * (zNF (i1.toInt = 1 ∧ 1 < (fk 0).toInt ∧ (0 ≤ i2.toInt ∧ i2.toInt < (fk 2).toInt ∧ i2.toInt < 2) ∧ (e0f.toInt = 0 ∨ ¬ e1f.toInt = i1.toInt ∨ ¬ e2f.toInt = i2.toInt)) (zNF (i1.toInt = 0 ∧ 0 < (fk 0).toInt ∧ (0 ≤ i2.toInt ∧ i2.toInt < (fk 2).toInt ∧ i2.toInt < 2) ∧ (e0f.toInt = 0 ∨ ¬ e1f.toInt = i1.toInt ∨ ¬ e2f.toInt = i2.toInt)) m1f (zMw mdA wyA cr0_ inn0_ k10_)) (zMw mdB wyB cr1_ inn1_ k11_) - m1f); omega) (fun r_2 b1 H locs hw G => ?_)
  refine zAn2 hw ?_
  intro hbs9 hc_1
  clear hw
  subst hbs9
  have G : zS T A s.heap s [[(xo, .inr (10, [.ref t, .ref im, .ref mk, .ref rd, .ref po, .ref co, .ref tr, .ref wa, .ref wb_, .ref fi, .ref cd]))], z0_, z1_, wg0_, wg1_, wwA, wwB, wff, wt] _ _ := G
  rcases hc_1 with ⟨rfl, h_3⟩ | ⟨rfl, h_4, h_5⟩ | ⟨rfl, h_6, h_7⟩
  · have h_3 : (i1.toInt < 0 ∨ (fk 0).toInt ≤ i1.toInt ∨ 2 ≤ i1.toInt) := h_3
    refine lv_astoreN (lv' := [(4, .null), (0, .ref xo), (1, .int i1), (2, .int i2), (3, .int w_)]) hx hb dX11_fits_8 hl (by decide) rfl (fun ls hl => ?_)
    refine lv_aload_n hx hb dX11_fits_10 rfl (lv_at hl 1 rfl) ?_
    refine lv_iload_n hx hb dX11_fits_11 rfl (lv_at hl 2 rfl) ?_
    refine lv_iload_n hx hb dX11_fits_12 rfl (lv_at hl 3 rfl) ?_
    refine z_Vi (bc := [[(xo, .inr (10, [.ref t, .ref im, .ref mk, .ref rd, .ref po, .ref co, .ref tr, .ref wa, .ref wb_, .ref fi, .ref cd]))], wt, z0_, z1_, wg0_, wg1_, wwA, wwB, wff]) (br := []) (As := [.int i1, .int i2]) (rest := []) C G (c_fit l T xo t im mk rd po co tr wa wb_ fi cd l0 l1 d0 d1 g0 g1 ln fl pl ft fk wt cr0_ inn0_ k10_ k20_ k30_ k40_ z0_ cr1_ inn1_ k11_ k21_ k31_ k41_ z1_ gg0_ q10_ q20_ wg0_ gg1_ q11_ q21_ wg1_ laA mdA wyA pc_A f1A f2A f3A f4A f5A f6A n4A wwA laB mdB wyB pc_B f1B f2B f3B f4B f5B f6B n4B wwB e0f e1f e2f e3f e4f e5f r1f m1f r2f wff i1 i2 ht (by first | with_reducible assumption | with_reducible rfl | omega | assumption | rfl) hz0_ (by first | with_reducible assumption | with_reducible rfl | omega | assumption | rfl) hz1_ (by first | with_reducible assumption | with_reducible rfl | omega | assumption | rfl) hg0_ hg1_ hwwA (by first | with_reducible assumption | with_reducible rfl | omega | assumption | rfl) (by first | with_reducible assumption | with_reducible rfl | omega | assumption | rfl) (by first | with_reducible assumption | with_reducible rfl | omega | assumption | rfl) hwwB (by first | with_reducible assumption | with_reducible rfl | omega | assumption | rfl) (by first | with_reducible assumption | with_reducible rfl | omega | assumption | rfl) (by first | with_reducible assumption | with_reducible rfl | omega | assumption | rfl) hwff hfw hf3 hFI) (kV_RX11_302 C.2.2.2.2 (Nat.le_of_ble_eq_true rfl) (Nat.le_of_ble_eq_true rfl)) [0, 8, 1, 2, 3, 4, 5, 6, 7] [] rfl rfl (ci := 10) (qc := (RX11, TX11, 11)) rfl rfl (List.mem_flatten.mpr ⟨_, List.mem_of_getElem? (i := 0) rfl, List.mem_cons_self⟩) rfl rfl hl.1 dX11_fits_13 (by show _ + 4 ≤ 7; omega) (by show _ + (6 * (zNA (i1.toInt = 0 ∧ 0 < (fk 0).toInt ∧ (0 ≤ i2.toInt ∧ i2.toInt < (fk 2).toInt ∧ i2.toInt < 2) ∧ (e0f.toInt = 0 ∨ ¬ e1f.toInt = i1.toInt ∨ ¬ e2f.toInt = i2.toInt)) mdA n4A (zPl cr0_ inn0_ k10_) - n4A) + 6 * (zNA (i1.toInt = 1 ∧ 1 < (fk 0).toInt ∧ (0 ≤ i2.toInt ∧ i2.toInt < (fk 2).toInt ∧ i2.toInt < 2) ∧ (e0f.toInt = 0 ∨ ¬ e1f.toInt = i1.toInt ∨ ¬ e2f.toInt = i2.toInt)) mdB n4B (zPl cr1_ inn1_ k11_) - n4B) + 2 * (zNF (i1.toInt = 1 ∧ 1 < (fk 0).toInt ∧ (0 ≤ i2.toInt ∧ i2.toInt < (fk 2).toInt ∧ i2.toInt < 2) ∧ (e0f.toInt = 0 ∨ ¬ e1f.toInt = i1.toInt ∨ ¬ e2f.toInt = i2.toInt)) (zNF (i1.toInt = 0 ∧ 0 < (fk 0).toInt ∧ (0 ≤ i2.toInt ∧ i2.toInt < (fk 2).toInt ∧ i2.toInt < 2) ∧ (e0f.toInt = 0 ∨ ¬ e1f.toInt = i1.toInt ∨ ¬ e2f.toInt = i2.toInt)) m1f (zMw mdA wyA cr0_ inn0_ k10_)) (zMw mdB wyB cr1_ inn1_ k11_) - m1f)) ≤ 6 * (zNA (i1.toInt = 0 ∧ 0 < (fk 0).toInt ∧ (0 ≤ i2.toInt ∧ i2.toInt < (fk 2).toInt ∧ i2.toInt < 2) ∧ (e0f.toInt = 0 ∨ ¬ e1f.toInt = i1.toInt ∨ ¬ e2f.toInt = i2.toInt)) mdA n4A (zPl cr0_ inn0_ k10_) - n4A) + 6 * (zNA (i1.toInt = 1 ∧ 1 < (fk 0).toInt ∧ (0 ≤ i2.toInt ∧ i2.toInt < (fk 2).toInt ∧ i2.toInt < 2) ∧ (e0f.toInt = 0 ∨ ¬ e1f.toInt = i1.toInt ∨ ¬ e2f.toInt = i2.toInt)) mdB n4B (zPl cr1_ inn1_ k11_) - n4B) + 2 * (zNF (i1.toInt = 1 ∧ 1 < (fk 0).toInt ∧ (0 ≤ i2.toInt ∧ i2.toInt < (fk 2).toInt ∧ i2.toInt < 2) ∧ (e0f.toInt = 0 ∨ ¬ e1f.toInt = i1.toInt ∨ ¬ e2f.toInt = i2.toInt)) (zNF (i1.toInt = 0 ∧ 0 < (fk 0).toInt ∧ (0 ≤ i2.toInt ∧ i2.toInt < (fk 2).toInt ∧ i2.toInt < 2) ∧ (e0f.toInt = 0 ∨ ¬ e1f.toInt = i1.toInt ∨ ¬ e2f.toInt = i2.toInt)) m1f (zMw mdA wyA cr0_ inn0_ k10_)) (zMw mdB wyB cr1_ inn1_ k11_) - m1f); omega) (fun r_60 b1 H locs hw G => ?_)
    refine zEx34 hw ?_
    intro laA_8 mdA_9 wyA_10 pc_A_11 f1A_12 f2A_13 f3A_14 f4A_15 f5A_16 f6A_17 n4A_18 wwA_19 laB_20 mdB_21 wyB_22 pc_B_23 f1B_24 f2B_25 f3B_26 f4B_27 f5B_28 f6B_29 n4B_30 wwB_31 e0f_32 e1f_33 e2f_34 e3f_35 e4f_36 e5f_37 r1f_38 m1f_39 r2f_40 wff_41
    refine zCu19 ?_
    intro hbs9 h_42 h_43 h_44 h_45 h_46 h_47 h_48 h_49 h_50 h_51 h_52 h_53 h_54 h_55 h_56 h_57 h_58 h_59
    clear hw
    subst hbs9
    have G : zS T A s.heap s [[(xo, .inr (10, [.ref t, .ref im, .ref mk, .ref rd, .ref po, .ref co, .ref tr, .ref wa, .ref wb_, .ref fi, .ref cd]))], wt, z0_, z1_, wg0_, wg1_, wwA_19, wwB_31, wff_41] _ _ := G
    replace h_43 : zHd ((mdA_9 = 0 ∨ laA_8 = l0)) := h_43
    replace h_47 : zHd ((¬ mdA = 0 → ¬ mdA_9 = 0)) := h_47
    replace h_49 : zHd ((mdB_21 = 0 ∨ laB_20 = l1)) := h_49
    replace h_53 : zHd ((¬ mdB = 0 → ¬ mdB_21 = 0)) := h_53
    replace h_59 : zHd ((¬ e0f_32 = 0 → e1f_33.toInt = 0 ∧ ¬ mdA_9 = 0 ∨ e1f_33.toInt = 1 ∧ ¬ mdB_21 = 0)) := h_59
    have hfm9 : m1f_39 ≤ 16384 := zFw_le h_56
    refine lv_if_eq (tgt := 28) hx hb dX11_fits_16 (by decide) (fun c_61 => ?_) (fun c_61 => ?_)
    · have c_61n : r_60.toInt = (0 : Int) := (fa_eq _ _).mp c_61
      refine lv_bipush (v := (-2)) hx hb dX11_fits_28 (by decide) ?_
      exact z_iret C hr hlocks G (by omega) (by omega) dX11_fits_30 ⟨laA_8, mdA_9, wyA_10, pc_A_11, f1A_12, f2A_13, f3A_14, f4A_15, f5A_16, f6A_17, n4A_18, wwA_19, laB_20, mdB_21, wyB_22, pc_B_23, f1B_24, f2B_25, f3B_26, f4B_27, f5B_28, f6B_29, n4B_30, wwB_31, e0f_32, e1f_33, e2f_34, e3f_35, e4f_36, e5f_37, r1f_38, m1f_39, r2f_40, wff_41, rfl, h_42, h_43, h_44, h_45, h_46, h_47, h_48, h_49, h_50, h_51, h_52, h_53, h_54, h_55, h_56, h_57, h_59⟩
    · have c_61n : ¬ r_60.toInt = (0 : Int) := fun q => c_61 ((fa_eq _ _).mpr q)
      refine lv_aloadN hx hb dX11_fits_19 (lv_at hl 0 rfl) ?_
      refine lv_ifnullN (tgt := 28) hx hb dX11_fits_21 (by decide) ?_
      refine lv_bipush (v := (-2)) hx hb dX11_fits_28 (by decide) ?_
      exact z_iret C hr hlocks G (by omega) (by omega) dX11_fits_30 ⟨laA_8, mdA_9, wyA_10, pc_A_11, f1A_12, f2A_13, f3A_14, f4A_15, f5A_16, f6A_17, n4A_18, wwA_19, laB_20, mdB_21, wyB_22, pc_B_23, f1B_24, f2B_25, f3B_26, f4B_27, f5B_28, f6B_29, n4B_30, wwB_31, e0f_32, e1f_33, e2f_34, e3f_35, e4f_36, e5f_37, r1f_38, m1f_39, r2f_40, wff_41, rfl, h_42, h_43, h_44, h_45, h_46, h_47, h_48, h_49, h_50, h_51, h_52, h_53, h_54, h_55, h_56, h_57, h_59⟩
  · have h_4 : i1.toInt = 0 := h_4
    have h_5 : 0 < (fk 0).toInt := h_5
    refine lv_astore (lv' := [(4, .ref l0), (0, .ref xo), (1, .int i1), (2, .int i2), (3, .int w_)]) hx hb dX11_fits_8 hl (by decide) rfl (fun ls hl => ?_)
    refine lv_aload_n hx hb dX11_fits_10 rfl (lv_at hl 1 rfl) ?_
    refine lv_iload_n hx hb dX11_fits_11 rfl (lv_at hl 2 rfl) ?_
    refine lv_iload_n hx hb dX11_fits_12 rfl (lv_at hl 3 rfl) ?_
    refine z_Vi (bc := [[(xo, .inr (10, [.ref t, .ref im, .ref mk, .ref rd, .ref po, .ref co, .ref tr, .ref wa, .ref wb_, .ref fi, .ref cd]))], wt, z0_, z1_, wg0_, wg1_, wwA, wwB, wff]) (br := []) (As := [.int i1, .int i2]) (rest := []) C G (c_fit l T xo t im mk rd po co tr wa wb_ fi cd l0 l1 d0 d1 g0 g1 ln fl pl ft fk wt cr0_ inn0_ k10_ k20_ k30_ k40_ z0_ cr1_ inn1_ k11_ k21_ k31_ k41_ z1_ gg0_ q10_ q20_ wg0_ gg1_ q11_ q21_ wg1_ laA mdA wyA pc_A f1A f2A f3A f4A f5A f6A n4A wwA laB mdB wyB pc_B f1B f2B f3B f4B f5B f6B n4B wwB e0f e1f e2f e3f e4f e5f r1f m1f r2f wff i1 i2 ht (by first | with_reducible assumption | with_reducible rfl | omega | assumption | rfl) hz0_ (by first | with_reducible assumption | with_reducible rfl | omega | assumption | rfl) hz1_ (by first | with_reducible assumption | with_reducible rfl | omega | assumption | rfl) hg0_ hg1_ hwwA (by first | with_reducible assumption | with_reducible rfl | omega | assumption | rfl) (by first | with_reducible assumption | with_reducible rfl | omega | assumption | rfl) (by first | with_reducible assumption | with_reducible rfl | omega | assumption | rfl) hwwB (by first | with_reducible assumption | with_reducible rfl | omega | assumption | rfl) (by first | with_reducible assumption | with_reducible rfl | omega | assumption | rfl) (by first | with_reducible assumption | with_reducible rfl | omega | assumption | rfl) hwff hfw hf3 hFI) (kV_RX11_302 C.2.2.2.2 (Nat.le_of_ble_eq_true rfl) (Nat.le_of_ble_eq_true rfl)) [0, 8, 1, 2, 3, 4, 5, 6, 7] [] rfl rfl (ci := 10) (qc := (RX11, TX11, 11)) rfl rfl (List.mem_flatten.mpr ⟨_, List.mem_of_getElem? (i := 0) rfl, List.mem_cons_self⟩) rfl rfl hl.1 dX11_fits_13 (by show _ + 4 ≤ 7; omega) (by show _ + (6 * (zNA (i1.toInt = 0 ∧ 0 < (fk 0).toInt ∧ (0 ≤ i2.toInt ∧ i2.toInt < (fk 2).toInt ∧ i2.toInt < 2) ∧ (e0f.toInt = 0 ∨ ¬ e1f.toInt = i1.toInt ∨ ¬ e2f.toInt = i2.toInt)) mdA n4A (zPl cr0_ inn0_ k10_) - n4A) + 6 * (zNA (i1.toInt = 1 ∧ 1 < (fk 0).toInt ∧ (0 ≤ i2.toInt ∧ i2.toInt < (fk 2).toInt ∧ i2.toInt < 2) ∧ (e0f.toInt = 0 ∨ ¬ e1f.toInt = i1.toInt ∨ ¬ e2f.toInt = i2.toInt)) mdB n4B (zPl cr1_ inn1_ k11_) - n4B) + 2 * (zNF (i1.toInt = 1 ∧ 1 < (fk 0).toInt ∧ (0 ≤ i2.toInt ∧ i2.toInt < (fk 2).toInt ∧ i2.toInt < 2) ∧ (e0f.toInt = 0 ∨ ¬ e1f.toInt = i1.toInt ∨ ¬ e2f.toInt = i2.toInt)) (zNF (i1.toInt = 0 ∧ 0 < (fk 0).toInt ∧ (0 ≤ i2.toInt ∧ i2.toInt < (fk 2).toInt ∧ i2.toInt < 2) ∧ (e0f.toInt = 0 ∨ ¬ e1f.toInt = i1.toInt ∨ ¬ e2f.toInt = i2.toInt)) m1f (zMw mdA wyA cr0_ inn0_ k10_)) (zMw mdB wyB cr1_ inn1_ k11_) - m1f)) ≤ 6 * (zNA (i1.toInt = 0 ∧ 0 < (fk 0).toInt ∧ (0 ≤ i2.toInt ∧ i2.toInt < (fk 2).toInt ∧ i2.toInt < 2) ∧ (e0f.toInt = 0 ∨ ¬ e1f.toInt = i1.toInt ∨ ¬ e2f.toInt = i2.toInt)) mdA n4A (zPl cr0_ inn0_ k10_) - n4A) + 6 * (zNA (i1.toInt = 1 ∧ 1 < (fk 0).toInt ∧ (0 ≤ i2.toInt ∧ i2.toInt < (fk 2).toInt ∧ i2.toInt < 2) ∧ (e0f.toInt = 0 ∨ ¬ e1f.toInt = i1.toInt ∨ ¬ e2f.toInt = i2.toInt)) mdB n4B (zPl cr1_ inn1_ k11_) - n4B) + 2 * (zNF (i1.toInt = 1 ∧ 1 < (fk 0).toInt ∧ (0 ≤ i2.toInt ∧ i2.toInt < (fk 2).toInt ∧ i2.toInt < 2) ∧ (e0f.toInt = 0 ∨ ¬ e1f.toInt = i1.toInt ∨ ¬ e2f.toInt = i2.toInt)) (zNF (i1.toInt = 0 ∧ 0 < (fk 0).toInt ∧ (0 ≤ i2.toInt ∧ i2.toInt < (fk 2).toInt ∧ i2.toInt < 2) ∧ (e0f.toInt = 0 ∨ ¬ e1f.toInt = i1.toInt ∨ ¬ e2f.toInt = i2.toInt)) m1f (zMw mdA wyA cr0_ inn0_ k10_)) (zMw mdB wyB cr1_ inn1_ k11_) - m1f); omega) (fun r_114 b1 H locs hw G => ?_)
    refine zEx34 hw ?_
    intro laA_62 mdA_63 wyA_64 pc_A_65 f1A_66 f2A_67 f3A_68 f4A_69 f5A_70 f6A_71 n4A_72 wwA_73 laB_74 mdB_75 wyB_76 pc_B_77 f1B_78 f2B_79 f3B_80 f4B_81 f5B_82 f6B_83 n4B_84 wwB_85 e0f_86 e1f_87 e2f_88 e3f_89 e4f_90 e5f_91 r1f_92 m1f_93 r2f_94 wff_95
    refine zCu19 ?_
    intro hbs9 h_96 h_97 h_98 h_99 h_100 h_101 h_102 h_103 h_104 h_105 h_106 h_107 h_108 h_109 h_110 h_111 h_112 h_113
    clear hw
    subst hbs9
    have G : zS T A s.heap s [[(xo, .inr (10, [.ref t, .ref im, .ref mk, .ref rd, .ref po, .ref co, .ref tr, .ref wa, .ref wb_, .ref fi, .ref cd]))], wt, z0_, z1_, wg0_, wg1_, wwA_73, wwB_85, wff_95] _ _ := G
    replace h_97 : zHd ((mdA_63 = 0 ∨ laA_62 = l0)) := h_97
    replace h_101 : zHd ((¬ mdA = 0 → ¬ mdA_63 = 0)) := h_101
    replace h_103 : zHd ((mdB_75 = 0 ∨ laB_74 = l1)) := h_103
    replace h_107 : zHd ((¬ mdB = 0 → ¬ mdB_75 = 0)) := h_107
    replace h_113 : zHd ((¬ e0f_86 = 0 → e1f_87.toInt = 0 ∧ ¬ mdA_63 = 0 ∨ e1f_87.toInt = 1 ∧ ¬ mdB_75 = 0)) := h_113
    have hfm9 : m1f_93 ≤ 16384 := zFw_le h_110
    refine lv_if_eq (tgt := 28) hx hb dX11_fits_16 (by decide) (fun c_115 => ?_) (fun c_115 => ?_)
    · have c_115n : r_114.toInt = (0 : Int) := (fa_eq _ _).mp c_115
      refine lv_bipush (v := (-2)) hx hb dX11_fits_28 (by decide) ?_
      exact z_iret C hr hlocks G (by omega) (by omega) dX11_fits_30 ⟨laA_62, mdA_63, wyA_64, pc_A_65, f1A_66, f2A_67, f3A_68, f4A_69, f5A_70, f6A_71, n4A_72, wwA_73, laB_74, mdB_75, wyB_76, pc_B_77, f1B_78, f2B_79, f3B_80, f4B_81, f5B_82, f6B_83, n4B_84, wwB_85, e0f_86, e1f_87, e2f_88, e3f_89, e4f_90, e5f_91, r1f_92, m1f_93, r2f_94, wff_95, rfl, h_96, h_97, h_98, h_99, h_100, h_101, h_102, h_103, h_104, h_105, h_106, h_107, h_108, h_109, h_110, h_111, h_113⟩
    · have c_115n : ¬ r_114.toInt = (0 : Int) := fun q => c_115 ((fa_eq _ _).mpr q)
      refine lv_aload hx hb dX11_fits_19 (lv_at hl 0 rfl) ?_
      refine lv_ifnull hx hb dX11_fits_21 ?_
      refine lv_iload_n hx hb dX11_fits_24 rfl (lv_at hl 4 rfl) ?_
      refine lv_if_ge (tgt := 31) hx hb dX11_fits_25 (by decide) (fun c_116 => ?_) (fun c_116 => ?_)
      · have c_116n : (0 : Int) ≤ w_.toInt := (fa_le _ _).mp c_116
        refine lv_aload_n hx hb dX11_fits_31 rfl (lv_at hl 1 rfl) ?_
        refine lv_iload_n hx hb dX11_fits_32 rfl (lv_at hl 2 rfl) ?_
        refine lv_aload hx hb dX11_fits_33 (lv_at hl 0 rfl) ?_
        have hX := h_112.resolve_left (fun q => absurd (congrArg Int32.toInt q.1) (by show ¬ _ = (0 : Int); omega))
        have hmk : ¬ mdA_63 = 0 := (h_113 hX.2.2.1).elim (fun q => q.2) (fun q => absurd q.1 (by have := hX.2.2.2; omega))
        have hzk : zMk mdA_63 n4A_72 (zPl cr0_ inn0_ k10_) = n4A_72 := by unfold zMk; rw [if_neg hmk]
        have hn9 : zMk mdA_63 n4A_72 (zPl cr0_ inn0_ k10_) ≤ 131072 := by rw [hzk]; exact zPw_le h_100
        refine z_Vq (bc := [[(xo, .inr (10, [.ref t, .ref im, .ref mk, .ref rd, .ref po, .ref co, .ref tr, .ref wa, .ref wb_, .ref fi, .ref cd]))], wwA_73, z0_]) (br := [wt, z1_, wg0_, wg1_, wwB_85, wff_95]) (As := [.int i1, .ref l0]) (rest := []) C G (c_waysInA l T xo t im mk rd po co tr wa wb_ fi cd i1 laA_62 mdA_63 wyA_64 pc_A_65 f1A_66 f2A_67 f3A_68 f4A_69 f5A_70 f6A_71 n4A_72 wwA_73 l0 cr0_ inn0_ k10_ k20_ k30_ k40_ z0_ h_96 hz0_ hI0_ h_100 h_97 h_98 (by omega)) (kV_RX11_235 C.2.2.2.2 (Nat.le_of_ble_eq_true rfl) (Nat.le_of_ble_eq_true rfl)) [0, 6, 2] [1, 3, 4, 5, 7, 8] rfl rfl (ci := 10) (qc := (RX11, TX11, 11)) rfl rfl (List.mem_flatten.mpr ⟨_, List.mem_of_getElem? (i := 0) rfl, List.mem_cons_self⟩) rfl rfl hl.1 dX11_fits_35 (by show _ + 3 ≤ 7; omega) (by show _ + (6 * (zMk mdA_63 n4A_72 (zPl cr0_ inn0_ k10_) - n4A_72)) ≤ 6 * (zNA (i1.toInt = 0 ∧ 0 < (fk 0).toInt ∧ (0 ≤ i2.toInt ∧ i2.toInt < (fk 2).toInt ∧ i2.toInt < 2) ∧ (e0f.toInt = 0 ∨ ¬ e1f.toInt = i1.toInt ∨ ¬ e2f.toInt = i2.toInt)) mdA n4A (zPl cr0_ inn0_ k10_) - n4A) + 6 * (zNA (i1.toInt = 1 ∧ 1 < (fk 0).toInt ∧ (0 ≤ i2.toInt ∧ i2.toInt < (fk 2).toInt ∧ i2.toInt < 2) ∧ (e0f.toInt = 0 ∨ ¬ e1f.toInt = i1.toInt ∨ ¬ e2f.toInt = i2.toInt)) mdB n4B (zPl cr1_ inn1_ k11_) - n4B) + 2 * (zNF (i1.toInt = 1 ∧ 1 < (fk 0).toInt ∧ (0 ≤ i2.toInt ∧ i2.toInt < (fk 2).toInt ∧ i2.toInt < 2) ∧ (e0f.toInt = 0 ∨ ¬ e1f.toInt = i1.toInt ∨ ¬ e2f.toInt = i2.toInt)) (zNF (i1.toInt = 0 ∧ 0 < (fk 0).toInt ∧ (0 ≤ i2.toInt ∧ i2.toInt < (fk 2).toInt ∧ i2.toInt < 2) ∧ (e0f.toInt = 0 ∨ ¬ e1f.toInt = i1.toInt ∨ ¬ e2f.toInt = i2.toInt)) m1f (zMw mdA wyA cr0_ inn0_ k10_)) (zMw mdB wyB cr1_ inn1_ k11_) - m1f); omega) (fun r_131 b1 H locs hw G => ?_)
        refine zEx9 hw ?_
        intro w2_117 m2_118 wy2_119 pc2_120 g1_121 g2_122 g4_123 g5_124 g6_125
        refine zCu6 ?_
        intro hbs9 h_126 h_127 h_128 h_129 h_130
        clear hw
        subst hbs9
        have G : zS T A s.heap s [wt, z1_, wg0_, wg1_, wwB_85, wff_95, [(xo, .inr (10, [.ref t, .ref im, .ref mk, .ref rd, .ref po, .ref co, .ref tr, .ref wa, .ref wb_, .ref fi, .ref cd]))], w2_117, z0_] _ _ := G
        subst h_126
        have hwy9 := h_128
        refine lv_astore (lv' := [(5, .ref wa), (4, .ref l0), (0, .ref xo), (1, .int i1), (2, .int i2), (3, .int w_)]) hx hb dX11_fits_38 hl (by decide) rfl (fun ls hl => ?_)
        refine lv_iload_n hx hb dX11_fits_40 rfl (lv_at hl 5 rfl) ?_
        refine lv_if_ne (tgt := 52) hx hb dX11_fits_41 (by decide) (fun c_132 => ?_) (fun c_132 => ?_)
        · have c_132n : ¬ w_.toInt = (0 : Int) := fun q => c_132 ((fa_eq _ _).mpr q)
          refine lv_iload_n hx hb dX11_fits_52 rfl (lv_at hl 5 rfl) ?_
          refine lv_iconst (v := 1) hx hb dX11_fits_53 (by decide) ?_
          refine lv_icmp_ne (tgt := 67) hx hb dX11_fits_54 (by decide) (fun c_133 => ?_) (fun c_133 => ?_)
          · have c_133n : ¬ w_.toInt = (1 : Int) := fun q => c_133 ((fa_eq _ _).mpr q)
            refine lv_iload_n hx hb dX11_fits_67 rfl (lv_at hl 5 rfl) ?_
            refine lv_bipush (v := 9) hx hb dX11_fits_68 (by decide) ?_
            refine lv_icmp_ge (tgt := 86) hx hb dX11_fits_70 (by decide) (fun c_134 => ?_) (fun c_134 => ?_)
            · have c_134n : (9 : Int) ≤ w_.toInt := (fa_le _ _).mp c_134
              refine lv_iload_n hx hb dX11_fits_86 rfl (lv_at hl 5 rfl) ?_
              refine lv_bipush (v := 10) hx hb dX11_fits_87 (by decide) ?_
              refine lv_isub hx hb dX11_fits_89 ?_
              refine lv_istore (lv' := [(6, .int (w_ - 10)), (5, .ref wa), (4, .ref l0), (0, .ref xo), (1, .int i1), (2, .int i2), (3, .int w_)]) hx hb dX11_fits_90 hl (by decide) rfl (fun ls hl => ?_)
              refine lv_iload hx hb dX11_fits_92 (lv_at hl 0 rfl) ?_
              refine lv_if_lt (tgt := 126) hx hb dX11_fits_94 (by decide) (fun c_135 => ?_) (fun c_135 => ?_)
              · have c_135n : (w_ - 10).toInt < (0 : Int) := (fa_lt _ _).mp c_135
                refine lv_bipush (v := (-2)) hx hb dX11_fits_126 (by decide) ?_
                have G := G.sub (bs' := [[(xo, .inr (10, [.ref t, .ref im, .ref mk, .ref rd, .ref po, .ref co, .ref tr, .ref wa, .ref wb_, .ref fi, .ref cd]))], wt, z0_, z1_, wg0_, wg1_, w2_117, wwB_85, wff_95]) [6, 0, 8, 1, 2, 3, 7, 4, 5] rfl
                exact z_iret C hr hlocks G (by omega) (by omega) dX11_fits_128 ⟨l0, m2_118, wy2_119, pc2_120, g1_121, g2_122, f3A_68, g4_123, g5_124, g6_125, (zMk mdA_63 n4A_72 (zPl cr0_ inn0_ k10_)), w2_117, laB_74, mdB_75, wyB_76, pc_B_77, f1B_78, f2B_79, f3B_80, f4B_81, f5B_82, f6B_83, n4B_84, wwB_85, e0f_86, e1f_87, e2f_88, e3f_89, e4f_90, e5f_91, r1f_92, m1f_93, r2f_94, wff_95, rfl, h_127, (Or.inr rfl), hwy9, (hzk.trans h_99), (by rw [hzk]; exact h_100), (fun _ => h_130), h_102, h_103, h_104, h_105, h_106, h_107, h_108, h_109, h_110, h_111, (fun q => (h_113 q).elim (fun w => Or.inl ⟨w.1, h_130⟩) (fun w => Or.inr ⟨w.1, w.2⟩))⟩
              · have c_135n : ¬ (w_ - 10).toInt < (0 : Int) := fun q => c_135 ((fa_lt _ _).mpr q)
                refine lv_iload hx hb dX11_fits_97 (lv_at hl 0 rfl) ?_
                refine lv_aload_n hx hb dX11_fits_99 rfl (lv_at hl 3 rfl) ?_
                refine z_get C G clX11 6 rfl 9 (by decide) m_fl_RX11_65 rfl dX11_fits_100 ?_
                refine zEx2 h_108 ?_
                intro a1_136 a2_137 hbs9
                clear h_108
                subst hbs9
                have G : zS T A s.heap s [wt, z1_, wg0_, wg1_, wwB_85, [(fi, .inr (3, [.int e0f_86, .int e1f_87, .int e2f_88, .int e3f_89, .int e4f_90, .int e5f_91, .ref a1_136, .ref a2_137]))], [(a1_136, .inl (T.2 0, m1f_93, .inl r1f_92))], [(a2_137, .inl (T.2 0, 7, .inl r2f_94))], [(xo, .inr (10, [.ref t, .ref im, .ref mk, .ref rd, .ref po, .ref co, .ref tr, .ref wa, .ref wb_, .ref fi, .ref cd]))], w2_117, z0_] _ _ := G.re rfl
                refine z_get C G clX3 5 rfl 3 (by decide) m_fl_RX11_306 rfl dX11_fits_103 ?_
                refine lv_icmp_ge (tgt := 126) hx hb dX11_fits_106 (by decide) (fun c_138 => ?_) (fun c_138 => ?_)
                · have c_138n : e3f_89.toInt ≤ (w_ - 10).toInt := (fa_le _ _).mp c_138
                  refine lv_bipush (v := (-2)) hx hb dX11_fits_126 (by decide) ?_
                  have hw_139 : bFit T fi e0f_86 e1f_87 e2f_88 e3f_89 e4f_90 e5f_91 r1f_92 m1f_93 r2f_94 [(fi, .inr (3, [.int e0f_86, .int e1f_87, .int e2f_88, .int e3f_89, .int e4f_90, .int e5f_91, .ref a1_136, .ref a2_137])), (a1_136, .inl (T.2 0, m1f_93, .inl r1f_92)), (a2_137, .inl (T.2 0, 7, .inl r2f_94))] := ⟨a1_136, a2_137, rfl⟩
                  have G : zS T A s.heap s [wt, z1_, wg0_, wg1_, wwB_85, [(fi, .inr (3, [.int e0f_86, .int e1f_87, .int e2f_88, .int e3f_89, .int e4f_90, .int e5f_91, .ref a1_136, .ref a2_137])), (a1_136, .inl (T.2 0, m1f_93, .inl r1f_92)), (a2_137, .inl (T.2 0, 7, .inl r2f_94))], [(xo, .inr (10, [.ref t, .ref im, .ref mk, .ref rd, .ref po, .ref co, .ref tr, .ref wa, .ref wb_, .ref fi, .ref cd]))], w2_117, z0_] _ _ := G.re rfl
                  have G := G.sub (bs' := [[(xo, .inr (10, [.ref t, .ref im, .ref mk, .ref rd, .ref po, .ref co, .ref tr, .ref wa, .ref wb_, .ref fi, .ref cd]))], wt, z0_, z1_, wg0_, wg1_, w2_117, wwB_85, [(fi, .inr (3, [.int e0f_86, .int e1f_87, .int e2f_88, .int e3f_89, .int e4f_90, .int e5f_91, .ref a1_136, .ref a2_137])), (a1_136, .inl (T.2 0, m1f_93, .inl r1f_92)), (a2_137, .inl (T.2 0, 7, .inl r2f_94))]]) [6, 0, 8, 1, 2, 3, 7, 4, 5] rfl
                  exact z_iret C hr hlocks G (by omega) (by omega) dX11_fits_128 ⟨l0, m2_118, wy2_119, pc2_120, g1_121, g2_122, f3A_68, g4_123, g5_124, g6_125, (zMk mdA_63 n4A_72 (zPl cr0_ inn0_ k10_)), w2_117, laB_74, mdB_75, wyB_76, pc_B_77, f1B_78, f2B_79, f3B_80, f4B_81, f5B_82, f6B_83, n4B_84, wwB_85, e0f_86, e1f_87, e2f_88, e3f_89, e4f_90, e5f_91, r1f_92, m1f_93, r2f_94, ([(fi, .inr (3, [.int e0f_86, .int e1f_87, .int e2f_88, .int e3f_89, .int e4f_90, .int e5f_91, .ref a1_136, .ref a2_137])), (a1_136, .inl (T.2 0, m1f_93, .inl r1f_92)), (a2_137, .inl (T.2 0, 7, .inl r2f_94))]), rfl, h_127, (Or.inr rfl), hwy9, (hzk.trans h_99), (by rw [hzk]; exact h_100), (fun _ => h_130), h_102, h_103, h_104, h_105, h_106, h_107, hw_139, h_109, h_110, h_111, (fun q => (h_113 q).elim (fun w => Or.inl ⟨w.1, h_130⟩) (fun w => Or.inr ⟨w.1, w.2⟩))⟩
                · have c_138n : ¬ e3f_89.toInt ≤ (w_ - 10).toInt := fun q => c_138 ((fa_le _ _).mpr q)
                  refine lv_aload hx hb dX11_fits_109 (lv_at hl 1 rfl) ?_
                  refine lv_aload_n hx hb dX11_fits_111 rfl (lv_at hl 3 rfl) ?_
                  refine z_get C G clX11 8 rfl 9 (by decide) m_fl_RX11_65 rfl dX11_fits_112 ?_
                  refine lv_iload hx hb dX11_fits_115 (lv_at hl 0 rfl) ?_
                  have hw_140 : bFit T fi e0f_86 e1f_87 e2f_88 e3f_89 e4f_90 e5f_91 r1f_92 m1f_93 r2f_94 [(fi, .inr (3, [.int e0f_86, .int e1f_87, .int e2f_88, .int e3f_89, .int e4f_90, .int e5f_91, .ref a1_136, .ref a2_137])), (a1_136, .inl (T.2 0, m1f_93, .inl r1f_92)), (a2_137, .inl (T.2 0, 7, .inl r2f_94))] := ⟨a1_136, a2_137, rfl⟩
                  have G : zS T A s.heap s [wt, z1_, wg0_, wg1_, wwB_85, [(fi, .inr (3, [.int e0f_86, .int e1f_87, .int e2f_88, .int e3f_89, .int e4f_90, .int e5f_91, .ref a1_136, .ref a2_137])), (a1_136, .inl (T.2 0, m1f_93, .inl r1f_92)), (a2_137, .inl (T.2 0, 7, .inl r2f_94))], [(xo, .inr (10, [.ref t, .ref im, .ref mk, .ref rd, .ref po, .ref co, .ref tr, .ref wa, .ref wb_, .ref fi, .ref cd]))], w2_117, z0_] _ _ := G.re rfl
                  refine z_Vi (bc := [[(fi, .inr (3, [.int e0f_86, .int e1f_87, .int e2f_88, .int e3f_89, .int e4f_90, .int e5f_91, .ref a1_136, .ref a2_137])), (a1_136, .inl (T.2 0, m1f_93, .inl r1f_92)), (a2_137, .inl (T.2 0, 7, .inl r2f_94))]]) (br := [wt, z1_, wg0_, wg1_, wwB_85, [(xo, .inr (10, [.ref t, .ref im, .ref mk, .ref rd, .ref po, .ref co, .ref tr, .ref wa, .ref wb_, .ref fi, .ref cd]))], w2_117, z0_]) (As := [.int (w_ - 10)]) (rest := [.ref wa]) C G (c_way l T fi e0f_86 e1f_87 e2f_88 e3f_89 e4f_90 e5f_91 r1f_92 m1f_93 r2f_94 ([(fi, .inr (3, [.int e0f_86, .int e1f_87, .int e2f_88, .int e3f_89, .int e4f_90, .int e5f_91, .ref a1_136, .ref a2_137])), (a1_136, .inl (T.2 0, m1f_93, .inl r1f_92)), (a2_137, .inl (T.2 0, 7, .inl r2f_94))]) (w_ - 10) hw_140 hfm9) (kV_RX11_317 C.2.2.2.2 (Nat.le_of_ble_eq_true rfl) (Nat.le_of_ble_eq_true rfl)) [5] [0, 1, 2, 3, 4, 6, 7, 8] rfl rfl (ci := 3) (qc := (RX3, TX3, 8)) rfl rfl (List.mem_flatten.mpr ⟨_, List.mem_of_getElem? (i := 0) rfl, (bFit_mem hw_140).choose_spec⟩) rfl rfl hl.1 dX11_fits_117 (by show _ + 0 ≤ 7; omega) (by show _ + 0 ≤ 6 * (zNA (i1.toInt = 0 ∧ 0 < (fk 0).toInt ∧ (0 ≤ i2.toInt ∧ i2.toInt < (fk 2).toInt ∧ i2.toInt < 2) ∧ (e0f.toInt = 0 ∨ ¬ e1f.toInt = i1.toInt ∨ ¬ e2f.toInt = i2.toInt)) mdA n4A (zPl cr0_ inn0_ k10_) - n4A) + 6 * (zNA (i1.toInt = 1 ∧ 1 < (fk 0).toInt ∧ (0 ≤ i2.toInt ∧ i2.toInt < (fk 2).toInt ∧ i2.toInt < 2) ∧ (e0f.toInt = 0 ∨ ¬ e1f.toInt = i1.toInt ∨ ¬ e2f.toInt = i2.toInt)) mdB n4B (zPl cr1_ inn1_ k11_) - n4B) + 2 * (zNF (i1.toInt = 1 ∧ 1 < (fk 0).toInt ∧ (0 ≤ i2.toInt ∧ i2.toInt < (fk 2).toInt ∧ i2.toInt < 2) ∧ (e0f.toInt = 0 ∨ ¬ e1f.toInt = i1.toInt ∨ ¬ e2f.toInt = i2.toInt)) (zNF (i1.toInt = 0 ∧ 0 < (fk 0).toInt ∧ (0 ≤ i2.toInt ∧ i2.toInt < (fk 2).toInt ∧ i2.toInt < 2) ∧ (e0f.toInt = 0 ∨ ¬ e1f.toInt = i1.toInt ∨ ¬ e2f.toInt = i2.toInt)) m1f (zMw mdA wyA cr0_ inn0_ k10_)) (zMw mdB wyB cr1_ inn1_ k11_) - m1f); omega) (fun r_142 b1 H locs hw G => ?_)
                  refine zAn2 hw ?_
                  intro hbs9 h_141
                  clear hw
                  subst hbs9
                  have G : zS T A s.heap s [wt, z1_, wg0_, wg1_, wwB_85, [(xo, .inr (10, [.ref t, .ref im, .ref mk, .ref rd, .ref po, .ref co, .ref tr, .ref wa, .ref wb_, .ref fi, .ref cd]))], w2_117, z0_, [(fi, .inr (3, [.int e0f_86, .int e1f_87, .int e2f_88, .int e3f_89, .int e4f_90, .int e5f_91, .ref a1_136, .ref a2_137])), (a1_136, .inl (T.2 0, m1f_93, .inl r1f_92)), (a2_137, .inl (T.2 0, 7, .inl r2f_94))]] _ _ := G
                  subst h_141
                  refine z_Vi (bc := [w2_117, z0_]) (br := [wt, z1_, wg0_, wg1_, wwB_85, [(xo, .inr (10, [.ref t, .ref im, .ref mk, .ref rd, .ref po, .ref co, .ref tr, .ref wa, .ref wb_, .ref fi, .ref cd]))], [(fi, .inr (3, [.int e0f_86, .int e1f_87, .int e2f_88, .int e3f_89, .int e4f_90, .int e5f_91, .ref a1_136, .ref a2_137])), (a1_136, .inl (T.2 0, m1f_93, .inl r1f_92)), (a2_137, .inl (T.2 0, 7, .inl r2f_94))]]) (As := [.int (zFway r1f_92 m1f_93 (w_ - 10))]) (rest := []) C G (c_number l T wa l0 m2_118 wy2_119 pc2_120 g1_121 g2_122 f3A_68 g4_123 g5_124 g6_125 (zMk mdA_63 n4A_72 (zPl cr0_ inn0_ k10_)) w2_117 cr0_ inn0_ k10_ k20_ k30_ k40_ z0_ (zFway r1f_92 m1f_93 (w_ - 10)) h_127 hz0_ (by first | with_reducible assumption | with_reducible rfl | omega | assumption | rfl)) (kV_RX11_272 C.2.2.2.2 (Nat.le_of_ble_eq_true rfl) (Nat.le_of_ble_eq_true rfl)) [6, 7] [0, 1, 2, 3, 4, 5, 8] rfl rfl (ci := 0) (qc := (RX0, TX0, 10)) rfl rfl (List.mem_flatten.mpr ⟨_, List.mem_of_getElem? (i := 0) rfl, (bWays_mem h_127).choose_spec⟩) rfl rfl hl.1 dX11_fits_120 (by show _ + 0 ≤ 7; omega) (by show _ + 0 ≤ 6 * (zNA (i1.toInt = 0 ∧ 0 < (fk 0).toInt ∧ (0 ≤ i2.toInt ∧ i2.toInt < (fk 2).toInt ∧ i2.toInt < 2) ∧ (e0f.toInt = 0 ∨ ¬ e1f.toInt = i1.toInt ∨ ¬ e2f.toInt = i2.toInt)) mdA n4A (zPl cr0_ inn0_ k10_) - n4A) + 6 * (zNA (i1.toInt = 1 ∧ 1 < (fk 0).toInt ∧ (0 ≤ i2.toInt ∧ i2.toInt < (fk 2).toInt ∧ i2.toInt < 2) ∧ (e0f.toInt = 0 ∨ ¬ e1f.toInt = i1.toInt ∨ ¬ e2f.toInt = i2.toInt)) mdB n4B (zPl cr1_ inn1_ k11_) - n4B) + 2 * (zNF (i1.toInt = 1 ∧ 1 < (fk 0).toInt ∧ (0 ≤ i2.toInt ∧ i2.toInt < (fk 2).toInt ∧ i2.toInt < 2) ∧ (e0f.toInt = 0 ∨ ¬ e1f.toInt = i1.toInt ∨ ¬ e2f.toInt = i2.toInt)) (zNF (i1.toInt = 0 ∧ 0 < (fk 0).toInt ∧ (0 ≤ i2.toInt ∧ i2.toInt < (fk 2).toInt ∧ i2.toInt < 2) ∧ (e0f.toInt = 0 ∨ ¬ e1f.toInt = i1.toInt ∨ ¬ e2f.toInt = i2.toInt)) m1f (zMw mdA wyA cr0_ inn0_ k10_)) (zMw mdB wyB cr1_ inn1_ k11_) - m1f); omega) (fun r_143 b1 H locs hw G => ?_)
                  obtain rfl := hw
                  have G : zS T A s.heap s [wt, z1_, wg0_, wg1_, wwB_85, [(xo, .inr (10, [.ref t, .ref im, .ref mk, .ref rd, .ref po, .ref co, .ref tr, .ref wa, .ref wb_, .ref fi, .ref cd]))], [(fi, .inr (3, [.int e0f_86, .int e1f_87, .int e2f_88, .int e3f_89, .int e4f_90, .int e5f_91, .ref a1_136, .ref a2_137])), (a1_136, .inl (T.2 0, m1f_93, .inl r1f_92)), (a2_137, .inl (T.2 0, 7, .inl r2f_94))], w2_117, z0_] _ _ := G
                  refine lv_goto (tgt := 128) hx hb dX11_fits_123 (by decide) ?_
                  have G := G.sub (bs' := [[(xo, .inr (10, [.ref t, .ref im, .ref mk, .ref rd, .ref po, .ref co, .ref tr, .ref wa, .ref wb_, .ref fi, .ref cd]))], wt, z0_, z1_, wg0_, wg1_, w2_117, wwB_85, [(fi, .inr (3, [.int e0f_86, .int e1f_87, .int e2f_88, .int e3f_89, .int e4f_90, .int e5f_91, .ref a1_136, .ref a2_137])), (a1_136, .inl (T.2 0, m1f_93, .inl r1f_92)), (a2_137, .inl (T.2 0, 7, .inl r2f_94))]]) [5, 0, 8, 1, 2, 3, 7, 4, 6] rfl
                  exact z_iret C hr hlocks G (by omega) (by omega) dX11_fits_128 ⟨l0, m2_118, wy2_119, pc2_120, g1_121, g2_122, f3A_68, g4_123, g5_124, g6_125, (zMk mdA_63 n4A_72 (zPl cr0_ inn0_ k10_)), w2_117, laB_74, mdB_75, wyB_76, pc_B_77, f1B_78, f2B_79, f3B_80, f4B_81, f5B_82, f6B_83, n4B_84, wwB_85, e0f_86, e1f_87, e2f_88, e3f_89, e4f_90, e5f_91, r1f_92, m1f_93, r2f_94, ([(fi, .inr (3, [.int e0f_86, .int e1f_87, .int e2f_88, .int e3f_89, .int e4f_90, .int e5f_91, .ref a1_136, .ref a2_137])), (a1_136, .inl (T.2 0, m1f_93, .inl r1f_92)), (a2_137, .inl (T.2 0, 7, .inl r2f_94))]), rfl, h_127, (Or.inr rfl), hwy9, (hzk.trans h_99), (by rw [hzk]; exact h_100), (fun _ => h_130), h_102, h_103, h_104, h_105, h_106, h_107, hw_140, h_109, h_110, h_111, (fun q => (h_113 q).elim (fun w => Or.inl ⟨w.1, h_130⟩) (fun w => Or.inr ⟨w.1, w.2⟩))⟩
            · have c_134n : ¬ (9 : Int) ≤ w_.toInt := fun q => c_134 ((fa_le _ _).mpr q)
              refine lv_aload_n hx hb dX11_fits_73 rfl (lv_at hl 2 rfl) ?_
              refine z_get C G clX11 6 rfl 9 (by decide) m_fl_RX11_65 rfl dX11_fits_74 ?_
              refine lv_aload hx hb dX11_fits_77 (lv_at hl 0 rfl) ?_
              refine lv_iload_n hx hb dX11_fits_79 rfl (lv_at hl 5 rfl) ?_
              refine lv_iconst (v := 2) hx hb dX11_fits_80 (by decide) ?_
              refine lv_isub hx hb dX11_fits_81 ?_
              refine z_Vi (bc := [wff_95, w2_117, z0_]) (br := [wt, z1_, wg0_, wg1_, wwB_85, [(xo, .inr (10, [.ref t, .ref im, .ref mk, .ref rd, .ref po, .ref co, .ref tr, .ref wa, .ref wb_, .ref fi, .ref cd]))]]) (As := [.ref wa, .int (w_ - 2)]) (rest := []) C G (c_sure l T fi e0f_86 e1f_87 e2f_88 e3f_89 e4f_90 e5f_91 r1f_92 m1f_93 r2f_94 wff_95 wa l0 m2_118 wy2_119 pc2_120 g1_121 g2_122 f3A_68 g4_123 g5_124 g6_125 (zMk mdA_63 n4A_72 (zPl cr0_ inn0_ k10_)) w2_117 cr0_ inn0_ k10_ k20_ k30_ k40_ z0_ (w_ - 2) h_108 h_127 hz0_ hfm9) (kV_RX11_313 C.2.2.2.2 (Nat.le_of_ble_eq_true rfl) (Nat.le_of_ble_eq_true rfl)) [5, 7, 8] [0, 1, 2, 3, 4, 6] rfl rfl (ci := 3) (qc := (RX3, TX3, 8)) rfl rfl (List.mem_flatten.mpr ⟨_, List.mem_of_getElem? (i := 0) rfl, (bFit_mem h_108).choose_spec⟩) rfl rfl hl.1 dX11_fits_82 (by show _ + 0 ≤ 7; omega) (by show _ + 0 ≤ 6 * (zNA (i1.toInt = 0 ∧ 0 < (fk 0).toInt ∧ (0 ≤ i2.toInt ∧ i2.toInt < (fk 2).toInt ∧ i2.toInt < 2) ∧ (e0f.toInt = 0 ∨ ¬ e1f.toInt = i1.toInt ∨ ¬ e2f.toInt = i2.toInt)) mdA n4A (zPl cr0_ inn0_ k10_) - n4A) + 6 * (zNA (i1.toInt = 1 ∧ 1 < (fk 0).toInt ∧ (0 ≤ i2.toInt ∧ i2.toInt < (fk 2).toInt ∧ i2.toInt < 2) ∧ (e0f.toInt = 0 ∨ ¬ e1f.toInt = i1.toInt ∨ ¬ e2f.toInt = i2.toInt)) mdB n4B (zPl cr1_ inn1_ k11_) - n4B) + 2 * (zNF (i1.toInt = 1 ∧ 1 < (fk 0).toInt ∧ (0 ≤ i2.toInt ∧ i2.toInt < (fk 2).toInt ∧ i2.toInt < 2) ∧ (e0f.toInt = 0 ∨ ¬ e1f.toInt = i1.toInt ∨ ¬ e2f.toInt = i2.toInt)) (zNF (i1.toInt = 0 ∧ 0 < (fk 0).toInt ∧ (0 ≤ i2.toInt ∧ i2.toInt < (fk 2).toInt ∧ i2.toInt < 2) ∧ (e0f.toInt = 0 ∨ ¬ e1f.toInt = i1.toInt ∨ ¬ e2f.toInt = i2.toInt)) m1f (zMw mdA wyA cr0_ inn0_ k10_)) (zMw mdB wyB cr1_ inn1_ k11_) - m1f); omega) (fun r_144 b1 H locs hw G => ?_)
              obtain rfl := hw
              have G : zS T A s.heap s [wt, z1_, wg0_, wg1_, wwB_85, [(xo, .inr (10, [.ref t, .ref im, .ref mk, .ref rd, .ref po, .ref co, .ref tr, .ref wa, .ref wb_, .ref fi, .ref cd]))], wff_95, w2_117, z0_] _ _ := G
              have G := G.sub (bs' := [[(xo, .inr (10, [.ref t, .ref im, .ref mk, .ref rd, .ref po, .ref co, .ref tr, .ref wa, .ref wb_, .ref fi, .ref cd]))], wt, z0_, z1_, wg0_, wg1_, w2_117, wwB_85, wff_95]) [5, 0, 8, 1, 2, 3, 7, 4, 6] rfl
              exact z_iret C hr hlocks G (by omega) (by omega) dX11_fits_85 ⟨l0, m2_118, wy2_119, pc2_120, g1_121, g2_122, f3A_68, g4_123, g5_124, g6_125, (zMk mdA_63 n4A_72 (zPl cr0_ inn0_ k10_)), w2_117, laB_74, mdB_75, wyB_76, pc_B_77, f1B_78, f2B_79, f3B_80, f4B_81, f5B_82, f6B_83, n4B_84, wwB_85, e0f_86, e1f_87, e2f_88, e3f_89, e4f_90, e5f_91, r1f_92, m1f_93, r2f_94, wff_95, rfl, h_127, (Or.inr rfl), hwy9, (hzk.trans h_99), (by rw [hzk]; exact h_100), (fun _ => h_130), h_102, h_103, h_104, h_105, h_106, h_107, h_108, h_109, h_110, h_111, (fun q => (h_113 q).elim (fun w => Or.inl ⟨w.1, h_130⟩) (fun w => Or.inr ⟨w.1, w.2⟩))⟩
          · have c_133n : w_.toInt = (1 : Int) := (fa_eq _ _).mp c_133
            refine lv_aload_n hx hb dX11_fits_57 rfl (lv_at hl 2 rfl) ?_
            refine z_get C G clX11 6 rfl 9 (by decide) m_fl_RX11_65 rfl dX11_fits_58 ?_
            refine lv_aload hx hb dX11_fits_61 (lv_at hl 0 rfl) ?_
            refine z_Vi (bc := [wff_95, w2_117, z0_]) (br := [wt, z1_, wg0_, wg1_, wwB_85, [(xo, .inr (10, [.ref t, .ref im, .ref mk, .ref rd, .ref po, .ref co, .ref tr, .ref wa, .ref wb_, .ref fi, .ref cd]))]]) (As := [.ref wa]) (rest := []) C G (c_ask l T fi e0f_86 e1f_87 e2f_88 e3f_89 e4f_90 e5f_91 r1f_92 m1f_93 r2f_94 wff_95 wa l0 m2_118 wy2_119 pc2_120 g1_121 g2_122 f3A_68 g4_123 g5_124 g6_125 (zMk mdA_63 n4A_72 (zPl cr0_ inn0_ k10_)) w2_117 cr0_ inn0_ k10_ k20_ k30_ k40_ z0_ h_108 h_127 hz0_ hn9 hfm9 (by first | with_reducible assumption | with_reducible rfl | omega | assumption | rfl)) (kV_RX11_309 C.2.2.2.2 (Nat.le_of_ble_eq_true rfl) (Nat.le_of_ble_eq_true rfl)) [5, 7, 8] [0, 1, 2, 3, 4, 6] rfl rfl (ci := 3) (qc := (RX3, TX3, 8)) rfl rfl (List.mem_flatten.mpr ⟨_, List.mem_of_getElem? (i := 0) rfl, (bFit_mem h_108).choose_spec⟩) rfl rfl hl.1 dX11_fits_63 (by show _ + 0 ≤ 7; omega) (by show _ + 0 ≤ 6 * (zNA (i1.toInt = 0 ∧ 0 < (fk 0).toInt ∧ (0 ≤ i2.toInt ∧ i2.toInt < (fk 2).toInt ∧ i2.toInt < 2) ∧ (e0f.toInt = 0 ∨ ¬ e1f.toInt = i1.toInt ∨ ¬ e2f.toInt = i2.toInt)) mdA n4A (zPl cr0_ inn0_ k10_) - n4A) + 6 * (zNA (i1.toInt = 1 ∧ 1 < (fk 0).toInt ∧ (0 ≤ i2.toInt ∧ i2.toInt < (fk 2).toInt ∧ i2.toInt < 2) ∧ (e0f.toInt = 0 ∨ ¬ e1f.toInt = i1.toInt ∨ ¬ e2f.toInt = i2.toInt)) mdB n4B (zPl cr1_ inn1_ k11_) - n4B) + 2 * (zNF (i1.toInt = 1 ∧ 1 < (fk 0).toInt ∧ (0 ≤ i2.toInt ∧ i2.toInt < (fk 2).toInt ∧ i2.toInt < 2) ∧ (e0f.toInt = 0 ∨ ¬ e1f.toInt = i1.toInt ∨ ¬ e2f.toInt = i2.toInt)) (zNF (i1.toInt = 0 ∧ 0 < (fk 0).toInt ∧ (0 ≤ i2.toInt ∧ i2.toInt < (fk 2).toInt ∧ i2.toInt < 2) ∧ (e0f.toInt = 0 ∨ ¬ e1f.toInt = i1.toInt ∨ ¬ e2f.toInt = i2.toInt)) m1f (zMw mdA wyA cr0_ inn0_ k10_)) (zMw mdB wyB cr1_ inn1_ k11_) - m1f); omega) (fun r_148 b1 H locs hw G => ?_)
            refine zEx2 hw ?_
            intro w2_145 g2_146
            refine zCu2 ?_
            intro hbs9 h_147
            clear hw
            subst hbs9
            have G : zS T A s.heap s [wt, z1_, wg0_, wg1_, wwB_85, [(xo, .inr (10, [.ref t, .ref im, .ref mk, .ref rd, .ref po, .ref co, .ref tr, .ref wa, .ref wb_, .ref fi, .ref cd]))], w2_145, w2_117, z0_] _ _ := G
            have G := G.sub (bs' := [[(xo, .inr (10, [.ref t, .ref im, .ref mk, .ref rd, .ref po, .ref co, .ref tr, .ref wa, .ref wb_, .ref fi, .ref cd]))], wt, z0_, z1_, wg0_, wg1_, w2_117, wwB_85, w2_145]) [5, 0, 8, 1, 2, 3, 7, 4, 6] rfl
            exact z_iret C hr hlocks G (by omega) (by omega) dX11_fits_66 ⟨l0, m2_118, wy2_119, pc2_120, g1_121, g2_122, f3A_68, g4_123, g5_124, g6_125, (zMk mdA_63 n4A_72 (zPl cr0_ inn0_ k10_)), w2_117, laB_74, mdB_75, wyB_76, pc_B_77, f1B_78, f2B_79, f3B_80, f4B_81, f5B_82, f6B_83, n4B_84, wwB_85, e0f_86, e1f_87, e2f_88, e3f_89, e4f_90, e5f_91, r1f_92, m1f_93, g2_146, w2_145, rfl, h_127, (Or.inr rfl), hwy9, (hzk.trans h_99), (by rw [hzk]; exact h_100), (fun _ => h_130), h_102, h_103, h_104, h_105, h_106, h_107, h_147, h_109, h_110, h_111, (fun q => (h_113 q).elim (fun w => Or.inl ⟨w.1, h_130⟩) (fun w => Or.inr ⟨w.1, w.2⟩))⟩
        · have c_132n : w_.toInt = (0 : Int) := (fa_eq _ _).mp c_132
          refine lv_aload_n hx hb dX11_fits_44 rfl (lv_at hl 2 rfl) ?_
          refine z_get C G clX11 6 rfl 9 (by decide) m_fl_RX11_65 rfl dX11_fits_45 ?_
          refine zEx2 h_108 ?_
          intro a1_149 a2_150 hbs9
          clear h_108
          subst hbs9
          have G : zS T A s.heap s [wt, z1_, wg0_, wg1_, wwB_85, [(fi, .inr (3, [.int e0f_86, .int e1f_87, .int e2f_88, .int e3f_89, .int e4f_90, .int e5f_91, .ref a1_149, .ref a2_150]))], [(a1_149, .inl (T.2 0, m1f_93, .inl r1f_92))], [(a2_150, .inl (T.2 0, 7, .inl r2f_94))], [(xo, .inr (10, [.ref t, .ref im, .ref mk, .ref rd, .ref po, .ref co, .ref tr, .ref wa, .ref wb_, .ref fi, .ref cd]))], w2_117, z0_] _ _ := G.re rfl
          refine z_get C G clX3 5 rfl 3 (by decide) m_fl_RX11_306 rfl dX11_fits_48 ?_
          have hw_151 : bFit T fi e0f_86 e1f_87 e2f_88 e3f_89 e4f_90 e5f_91 r1f_92 m1f_93 r2f_94 [(fi, .inr (3, [.int e0f_86, .int e1f_87, .int e2f_88, .int e3f_89, .int e4f_90, .int e5f_91, .ref a1_149, .ref a2_150])), (a1_149, .inl (T.2 0, m1f_93, .inl r1f_92)), (a2_150, .inl (T.2 0, 7, .inl r2f_94))] := ⟨a1_149, a2_150, rfl⟩
          have G : zS T A s.heap s [wt, z1_, wg0_, wg1_, wwB_85, [(fi, .inr (3, [.int e0f_86, .int e1f_87, .int e2f_88, .int e3f_89, .int e4f_90, .int e5f_91, .ref a1_149, .ref a2_150])), (a1_149, .inl (T.2 0, m1f_93, .inl r1f_92)), (a2_150, .inl (T.2 0, 7, .inl r2f_94))], [(xo, .inr (10, [.ref t, .ref im, .ref mk, .ref rd, .ref po, .ref co, .ref tr, .ref wa, .ref wb_, .ref fi, .ref cd]))], w2_117, z0_] _ _ := G.re rfl
          have G := G.sub (bs' := [[(xo, .inr (10, [.ref t, .ref im, .ref mk, .ref rd, .ref po, .ref co, .ref tr, .ref wa, .ref wb_, .ref fi, .ref cd]))], wt, z0_, z1_, wg0_, wg1_, w2_117, wwB_85, [(fi, .inr (3, [.int e0f_86, .int e1f_87, .int e2f_88, .int e3f_89, .int e4f_90, .int e5f_91, .ref a1_149, .ref a2_150])), (a1_149, .inl (T.2 0, m1f_93, .inl r1f_92)), (a2_150, .inl (T.2 0, 7, .inl r2f_94))]]) [6, 0, 8, 1, 2, 3, 7, 4, 5] rfl
          exact z_iret C hr hlocks G (by omega) (by omega) dX11_fits_51 ⟨l0, m2_118, wy2_119, pc2_120, g1_121, g2_122, f3A_68, g4_123, g5_124, g6_125, (zMk mdA_63 n4A_72 (zPl cr0_ inn0_ k10_)), w2_117, laB_74, mdB_75, wyB_76, pc_B_77, f1B_78, f2B_79, f3B_80, f4B_81, f5B_82, f6B_83, n4B_84, wwB_85, e0f_86, e1f_87, e2f_88, e3f_89, e4f_90, e5f_91, r1f_92, m1f_93, r2f_94, ([(fi, .inr (3, [.int e0f_86, .int e1f_87, .int e2f_88, .int e3f_89, .int e4f_90, .int e5f_91, .ref a1_149, .ref a2_150])), (a1_149, .inl (T.2 0, m1f_93, .inl r1f_92)), (a2_150, .inl (T.2 0, 7, .inl r2f_94))]), rfl, h_127, (Or.inr rfl), hwy9, (hzk.trans h_99), (by rw [hzk]; exact h_100), (fun _ => h_130), h_102, h_103, h_104, h_105, h_106, h_107, hw_151, h_109, h_110, h_111, (fun q => (h_113 q).elim (fun w => Or.inl ⟨w.1, h_130⟩) (fun w => Or.inr ⟨w.1, w.2⟩))⟩
      · have c_116n : ¬ (0 : Int) ≤ w_.toInt := fun q => c_116 ((fa_le _ _).mpr q)
        refine lv_bipush (v := (-2)) hx hb dX11_fits_28 (by decide) ?_
        exact z_iret C hr hlocks G (by omega) (by omega) dX11_fits_30 ⟨laA_62, mdA_63, wyA_64, pc_A_65, f1A_66, f2A_67, f3A_68, f4A_69, f5A_70, f6A_71, n4A_72, wwA_73, laB_74, mdB_75, wyB_76, pc_B_77, f1B_78, f2B_79, f3B_80, f4B_81, f5B_82, f6B_83, n4B_84, wwB_85, e0f_86, e1f_87, e2f_88, e3f_89, e4f_90, e5f_91, r1f_92, m1f_93, r2f_94, wff_95, rfl, h_96, h_97, h_98, h_99, h_100, h_101, h_102, h_103, h_104, h_105, h_106, h_107, h_108, h_109, h_110, h_111, h_113⟩
  · have h_6 : i1.toInt = 1 := h_6
    have h_7 : 1 < (fk 0).toInt := h_7
    refine lv_astore (lv' := [(4, .ref l1), (0, .ref xo), (1, .int i1), (2, .int i2), (3, .int w_)]) hx hb dX11_fits_8 hl (by decide) rfl (fun ls hl => ?_)
    refine lv_aload_n hx hb dX11_fits_10 rfl (lv_at hl 1 rfl) ?_
    refine lv_iload_n hx hb dX11_fits_11 rfl (lv_at hl 2 rfl) ?_
    refine lv_iload_n hx hb dX11_fits_12 rfl (lv_at hl 3 rfl) ?_
    refine z_Vi (bc := [[(xo, .inr (10, [.ref t, .ref im, .ref mk, .ref rd, .ref po, .ref co, .ref tr, .ref wa, .ref wb_, .ref fi, .ref cd]))], wt, z0_, z1_, wg0_, wg1_, wwA, wwB, wff]) (br := []) (As := [.int i1, .int i2]) (rest := []) C G (c_fit l T xo t im mk rd po co tr wa wb_ fi cd l0 l1 d0 d1 g0 g1 ln fl pl ft fk wt cr0_ inn0_ k10_ k20_ k30_ k40_ z0_ cr1_ inn1_ k11_ k21_ k31_ k41_ z1_ gg0_ q10_ q20_ wg0_ gg1_ q11_ q21_ wg1_ laA mdA wyA pc_A f1A f2A f3A f4A f5A f6A n4A wwA laB mdB wyB pc_B f1B f2B f3B f4B f5B f6B n4B wwB e0f e1f e2f e3f e4f e5f r1f m1f r2f wff i1 i2 ht (by first | with_reducible assumption | with_reducible rfl | omega | assumption | rfl) hz0_ (by first | with_reducible assumption | with_reducible rfl | omega | assumption | rfl) hz1_ (by first | with_reducible assumption | with_reducible rfl | omega | assumption | rfl) hg0_ hg1_ hwwA (by first | with_reducible assumption | with_reducible rfl | omega | assumption | rfl) (by first | with_reducible assumption | with_reducible rfl | omega | assumption | rfl) (by first | with_reducible assumption | with_reducible rfl | omega | assumption | rfl) hwwB (by first | with_reducible assumption | with_reducible rfl | omega | assumption | rfl) (by first | with_reducible assumption | with_reducible rfl | omega | assumption | rfl) (by first | with_reducible assumption | with_reducible rfl | omega | assumption | rfl) hwff hfw hf3 hFI) (kV_RX11_302 C.2.2.2.2 (Nat.le_of_ble_eq_true rfl) (Nat.le_of_ble_eq_true rfl)) [0, 8, 1, 2, 3, 4, 5, 6, 7] [] rfl rfl (ci := 10) (qc := (RX11, TX11, 11)) rfl rfl (List.mem_flatten.mpr ⟨_, List.mem_of_getElem? (i := 0) rfl, List.mem_cons_self⟩) rfl rfl hl.1 dX11_fits_13 (by show _ + 4 ≤ 7; omega) (by show _ + (6 * (zNA (i1.toInt = 0 ∧ 0 < (fk 0).toInt ∧ (0 ≤ i2.toInt ∧ i2.toInt < (fk 2).toInt ∧ i2.toInt < 2) ∧ (e0f.toInt = 0 ∨ ¬ e1f.toInt = i1.toInt ∨ ¬ e2f.toInt = i2.toInt)) mdA n4A (zPl cr0_ inn0_ k10_) - n4A) + 6 * (zNA (i1.toInt = 1 ∧ 1 < (fk 0).toInt ∧ (0 ≤ i2.toInt ∧ i2.toInt < (fk 2).toInt ∧ i2.toInt < 2) ∧ (e0f.toInt = 0 ∨ ¬ e1f.toInt = i1.toInt ∨ ¬ e2f.toInt = i2.toInt)) mdB n4B (zPl cr1_ inn1_ k11_) - n4B) + 2 * (zNF (i1.toInt = 1 ∧ 1 < (fk 0).toInt ∧ (0 ≤ i2.toInt ∧ i2.toInt < (fk 2).toInt ∧ i2.toInt < 2) ∧ (e0f.toInt = 0 ∨ ¬ e1f.toInt = i1.toInt ∨ ¬ e2f.toInt = i2.toInt)) (zNF (i1.toInt = 0 ∧ 0 < (fk 0).toInt ∧ (0 ≤ i2.toInt ∧ i2.toInt < (fk 2).toInt ∧ i2.toInt < 2) ∧ (e0f.toInt = 0 ∨ ¬ e1f.toInt = i1.toInt ∨ ¬ e2f.toInt = i2.toInt)) m1f (zMw mdA wyA cr0_ inn0_ k10_)) (zMw mdB wyB cr1_ inn1_ k11_) - m1f)) ≤ 6 * (zNA (i1.toInt = 0 ∧ 0 < (fk 0).toInt ∧ (0 ≤ i2.toInt ∧ i2.toInt < (fk 2).toInt ∧ i2.toInt < 2) ∧ (e0f.toInt = 0 ∨ ¬ e1f.toInt = i1.toInt ∨ ¬ e2f.toInt = i2.toInt)) mdA n4A (zPl cr0_ inn0_ k10_) - n4A) + 6 * (zNA (i1.toInt = 1 ∧ 1 < (fk 0).toInt ∧ (0 ≤ i2.toInt ∧ i2.toInt < (fk 2).toInt ∧ i2.toInt < 2) ∧ (e0f.toInt = 0 ∨ ¬ e1f.toInt = i1.toInt ∨ ¬ e2f.toInt = i2.toInt)) mdB n4B (zPl cr1_ inn1_ k11_) - n4B) + 2 * (zNF (i1.toInt = 1 ∧ 1 < (fk 0).toInt ∧ (0 ≤ i2.toInt ∧ i2.toInt < (fk 2).toInt ∧ i2.toInt < 2) ∧ (e0f.toInt = 0 ∨ ¬ e1f.toInt = i1.toInt ∨ ¬ e2f.toInt = i2.toInt)) (zNF (i1.toInt = 0 ∧ 0 < (fk 0).toInt ∧ (0 ≤ i2.toInt ∧ i2.toInt < (fk 2).toInt ∧ i2.toInt < 2) ∧ (e0f.toInt = 0 ∨ ¬ e1f.toInt = i1.toInt ∨ ¬ e2f.toInt = i2.toInt)) m1f (zMw mdA wyA cr0_ inn0_ k10_)) (zMw mdB wyB cr1_ inn1_ k11_) - m1f); omega) (fun r_204 b1 H locs hw G => ?_)
    refine zEx34 hw ?_
    intro laA_152 mdA_153 wyA_154 pc_A_155 f1A_156 f2A_157 f3A_158 f4A_159 f5A_160 f6A_161 n4A_162 wwA_163 laB_164 mdB_165 wyB_166 pc_B_167 f1B_168 f2B_169 f3B_170 f4B_171 f5B_172 f6B_173 n4B_174 wwB_175 e0f_176 e1f_177 e2f_178 e3f_179 e4f_180 e5f_181 r1f_182 m1f_183 r2f_184 wff_185
    refine zCu19 ?_
    intro hbs9 h_186 h_187 h_188 h_189 h_190 h_191 h_192 h_193 h_194 h_195 h_196 h_197 h_198 h_199 h_200 h_201 h_202 h_203
    clear hw
    subst hbs9
    have G : zS T A s.heap s [[(xo, .inr (10, [.ref t, .ref im, .ref mk, .ref rd, .ref po, .ref co, .ref tr, .ref wa, .ref wb_, .ref fi, .ref cd]))], wt, z0_, z1_, wg0_, wg1_, wwA_163, wwB_175, wff_185] _ _ := G
    replace h_187 : zHd ((mdA_153 = 0 ∨ laA_152 = l0)) := h_187
    replace h_191 : zHd ((¬ mdA = 0 → ¬ mdA_153 = 0)) := h_191
    replace h_193 : zHd ((mdB_165 = 0 ∨ laB_164 = l1)) := h_193
    replace h_197 : zHd ((¬ mdB = 0 → ¬ mdB_165 = 0)) := h_197
    replace h_203 : zHd ((¬ e0f_176 = 0 → e1f_177.toInt = 0 ∧ ¬ mdA_153 = 0 ∨ e1f_177.toInt = 1 ∧ ¬ mdB_165 = 0)) := h_203
    have hfm9 : m1f_183 ≤ 16384 := zFw_le h_200
    refine lv_if_eq (tgt := 28) hx hb dX11_fits_16 (by decide) (fun c_205 => ?_) (fun c_205 => ?_)
    · have c_205n : r_204.toInt = (0 : Int) := (fa_eq _ _).mp c_205
      refine lv_bipush (v := (-2)) hx hb dX11_fits_28 (by decide) ?_
      exact z_iret C hr hlocks G (by omega) (by omega) dX11_fits_30 ⟨laA_152, mdA_153, wyA_154, pc_A_155, f1A_156, f2A_157, f3A_158, f4A_159, f5A_160, f6A_161, n4A_162, wwA_163, laB_164, mdB_165, wyB_166, pc_B_167, f1B_168, f2B_169, f3B_170, f4B_171, f5B_172, f6B_173, n4B_174, wwB_175, e0f_176, e1f_177, e2f_178, e3f_179, e4f_180, e5f_181, r1f_182, m1f_183, r2f_184, wff_185, rfl, h_186, h_187, h_188, h_189, h_190, h_191, h_192, h_193, h_194, h_195, h_196, h_197, h_198, h_199, h_200, h_201, h_203⟩
    · have c_205n : ¬ r_204.toInt = (0 : Int) := fun q => c_205 ((fa_eq _ _).mpr q)
      refine lv_aload hx hb dX11_fits_19 (lv_at hl 0 rfl) ?_
      refine lv_ifnull hx hb dX11_fits_21 ?_
      refine lv_iload_n hx hb dX11_fits_24 rfl (lv_at hl 4 rfl) ?_
      refine lv_if_ge (tgt := 31) hx hb dX11_fits_25 (by decide) (fun c_206 => ?_) (fun c_206 => ?_)
      · have c_206n : (0 : Int) ≤ w_.toInt := (fa_le _ _).mp c_206
        refine lv_aload_n hx hb dX11_fits_31 rfl (lv_at hl 1 rfl) ?_
        refine lv_iload_n hx hb dX11_fits_32 rfl (lv_at hl 2 rfl) ?_
        refine lv_aload hx hb dX11_fits_33 (lv_at hl 0 rfl) ?_
        have hX := h_202.resolve_left (fun q => absurd (congrArg Int32.toInt q.1) (by show ¬ _ = (0 : Int); omega))
        have hmk : ¬ mdB_165 = 0 := (h_203 hX.2.2.1).elim (fun q => absurd q.1 (by have := hX.2.2.2; omega)) (fun q => q.2)
        have hzk : zMk mdB_165 n4B_174 (zPl cr1_ inn1_ k11_) = n4B_174 := by unfold zMk; rw [if_neg hmk]
        have hn9 : zMk mdB_165 n4B_174 (zPl cr1_ inn1_ k11_) ≤ 131072 := by rw [hzk]; exact zPw_le h_196
        refine z_Vq (bc := [[(xo, .inr (10, [.ref t, .ref im, .ref mk, .ref rd, .ref po, .ref co, .ref tr, .ref wa, .ref wb_, .ref fi, .ref cd]))], wwB_175, z1_]) (br := [wt, z0_, wg0_, wg1_, wwA_163, wff_185]) (As := [.int i1, .ref l1]) (rest := []) C G (c_waysInB l T xo t im mk rd po co tr wa wb_ fi cd i1 laB_164 mdB_165 wyB_166 pc_B_167 f1B_168 f2B_169 f3B_170 f4B_171 f5B_172 f6B_173 n4B_174 wwB_175 l1 cr1_ inn1_ k11_ k21_ k31_ k41_ z1_ h_192 hz1_ hI1_ h_196 h_193 h_194 (by omega)) (kV_RX11_235 C.2.2.2.2 (Nat.le_of_ble_eq_true rfl) (Nat.le_of_ble_eq_true rfl)) [0, 7, 3] [1, 2, 4, 5, 6, 8] rfl rfl (ci := 10) (qc := (RX11, TX11, 11)) rfl rfl (List.mem_flatten.mpr ⟨_, List.mem_of_getElem? (i := 0) rfl, List.mem_cons_self⟩) rfl rfl hl.1 dX11_fits_35 (by show _ + 3 ≤ 7; omega) (by show _ + (6 * (zMk mdB_165 n4B_174 (zPl cr1_ inn1_ k11_) - n4B_174)) ≤ 6 * (zNA (i1.toInt = 0 ∧ 0 < (fk 0).toInt ∧ (0 ≤ i2.toInt ∧ i2.toInt < (fk 2).toInt ∧ i2.toInt < 2) ∧ (e0f.toInt = 0 ∨ ¬ e1f.toInt = i1.toInt ∨ ¬ e2f.toInt = i2.toInt)) mdA n4A (zPl cr0_ inn0_ k10_) - n4A) + 6 * (zNA (i1.toInt = 1 ∧ 1 < (fk 0).toInt ∧ (0 ≤ i2.toInt ∧ i2.toInt < (fk 2).toInt ∧ i2.toInt < 2) ∧ (e0f.toInt = 0 ∨ ¬ e1f.toInt = i1.toInt ∨ ¬ e2f.toInt = i2.toInt)) mdB n4B (zPl cr1_ inn1_ k11_) - n4B) + 2 * (zNF (i1.toInt = 1 ∧ 1 < (fk 0).toInt ∧ (0 ≤ i2.toInt ∧ i2.toInt < (fk 2).toInt ∧ i2.toInt < 2) ∧ (e0f.toInt = 0 ∨ ¬ e1f.toInt = i1.toInt ∨ ¬ e2f.toInt = i2.toInt)) (zNF (i1.toInt = 0 ∧ 0 < (fk 0).toInt ∧ (0 ≤ i2.toInt ∧ i2.toInt < (fk 2).toInt ∧ i2.toInt < 2) ∧ (e0f.toInt = 0 ∨ ¬ e1f.toInt = i1.toInt ∨ ¬ e2f.toInt = i2.toInt)) m1f (zMw mdA wyA cr0_ inn0_ k10_)) (zMw mdB wyB cr1_ inn1_ k11_) - m1f); omega) (fun r_221 b1 H locs hw G => ?_)
        refine zEx9 hw ?_
        intro w2_207 m2_208 wy2_209 pc2_210 g1_211 g2_212 g4_213 g5_214 g6_215
        refine zCu6 ?_
        intro hbs9 h_216 h_217 h_218 h_219 h_220
        clear hw
        subst hbs9
        have G : zS T A s.heap s [wt, z0_, wg0_, wg1_, wwA_163, wff_185, [(xo, .inr (10, [.ref t, .ref im, .ref mk, .ref rd, .ref po, .ref co, .ref tr, .ref wa, .ref wb_, .ref fi, .ref cd]))], w2_207, z1_] _ _ := G
        subst h_216
        have hwy9 := h_218
        refine lv_astore (lv' := [(5, .ref wb_), (4, .ref l1), (0, .ref xo), (1, .int i1), (2, .int i2), (3, .int w_)]) hx hb dX11_fits_38 hl (by decide) rfl (fun ls hl => ?_)
        refine lv_iload_n hx hb dX11_fits_40 rfl (lv_at hl 5 rfl) ?_
        refine lv_if_ne (tgt := 52) hx hb dX11_fits_41 (by decide) (fun c_222 => ?_) (fun c_222 => ?_)
        · have c_222n : ¬ w_.toInt = (0 : Int) := fun q => c_222 ((fa_eq _ _).mpr q)
          refine lv_iload_n hx hb dX11_fits_52 rfl (lv_at hl 5 rfl) ?_
          refine lv_iconst (v := 1) hx hb dX11_fits_53 (by decide) ?_
          refine lv_icmp_ne (tgt := 67) hx hb dX11_fits_54 (by decide) (fun c_223 => ?_) (fun c_223 => ?_)
          · have c_223n : ¬ w_.toInt = (1 : Int) := fun q => c_223 ((fa_eq _ _).mpr q)
            refine lv_iload_n hx hb dX11_fits_67 rfl (lv_at hl 5 rfl) ?_
            refine lv_bipush (v := 9) hx hb dX11_fits_68 (by decide) ?_
            refine lv_icmp_ge (tgt := 86) hx hb dX11_fits_70 (by decide) (fun c_224 => ?_) (fun c_224 => ?_)
            · have c_224n : (9 : Int) ≤ w_.toInt := (fa_le _ _).mp c_224
              refine lv_iload_n hx hb dX11_fits_86 rfl (lv_at hl 5 rfl) ?_
              refine lv_bipush (v := 10) hx hb dX11_fits_87 (by decide) ?_
              refine lv_isub hx hb dX11_fits_89 ?_
              refine lv_istore (lv' := [(6, .int (w_ - 10)), (5, .ref wb_), (4, .ref l1), (0, .ref xo), (1, .int i1), (2, .int i2), (3, .int w_)]) hx hb dX11_fits_90 hl (by decide) rfl (fun ls hl => ?_)
              refine lv_iload hx hb dX11_fits_92 (lv_at hl 0 rfl) ?_
              refine lv_if_lt (tgt := 126) hx hb dX11_fits_94 (by decide) (fun c_225 => ?_) (fun c_225 => ?_)
              · have c_225n : (w_ - 10).toInt < (0 : Int) := (fa_lt _ _).mp c_225
                refine lv_bipush (v := (-2)) hx hb dX11_fits_126 (by decide) ?_
                have G := G.sub (bs' := [[(xo, .inr (10, [.ref t, .ref im, .ref mk, .ref rd, .ref po, .ref co, .ref tr, .ref wa, .ref wb_, .ref fi, .ref cd]))], wt, z0_, z1_, wg0_, wg1_, wwA_163, w2_207, wff_185]) [6, 0, 1, 8, 2, 3, 4, 7, 5] rfl
                exact z_iret C hr hlocks G (by omega) (by omega) dX11_fits_128 ⟨laA_152, mdA_153, wyA_154, pc_A_155, f1A_156, f2A_157, f3A_158, f4A_159, f5A_160, f6A_161, n4A_162, wwA_163, l1, m2_208, wy2_209, pc2_210, g1_211, g2_212, f3B_170, g4_213, g5_214, g6_215, (zMk mdB_165 n4B_174 (zPl cr1_ inn1_ k11_)), w2_207, e0f_176, e1f_177, e2f_178, e3f_179, e4f_180, e5f_181, r1f_182, m1f_183, r2f_184, wff_185, rfl, h_186, h_187, h_188, h_189, h_190, h_191, h_217, (Or.inr rfl), hwy9, (hzk.trans h_195), (by rw [hzk]; exact h_196), (fun _ => h_220), h_198, h_199, h_200, h_201, (fun q => (h_203 q).elim (fun w => Or.inl ⟨w.1, w.2⟩) (fun w => Or.inr ⟨w.1, h_220⟩))⟩
              · have c_225n : ¬ (w_ - 10).toInt < (0 : Int) := fun q => c_225 ((fa_lt _ _).mpr q)
                refine lv_iload hx hb dX11_fits_97 (lv_at hl 0 rfl) ?_
                refine lv_aload_n hx hb dX11_fits_99 rfl (lv_at hl 3 rfl) ?_
                refine z_get C G clX11 6 rfl 9 (by decide) m_fl_RX11_65 rfl dX11_fits_100 ?_
                refine zEx2 h_198 ?_
                intro a1_226 a2_227 hbs9
                clear h_198
                subst hbs9
                have G : zS T A s.heap s [wt, z0_, wg0_, wg1_, wwA_163, [(fi, .inr (3, [.int e0f_176, .int e1f_177, .int e2f_178, .int e3f_179, .int e4f_180, .int e5f_181, .ref a1_226, .ref a2_227]))], [(a1_226, .inl (T.2 0, m1f_183, .inl r1f_182))], [(a2_227, .inl (T.2 0, 7, .inl r2f_184))], [(xo, .inr (10, [.ref t, .ref im, .ref mk, .ref rd, .ref po, .ref co, .ref tr, .ref wa, .ref wb_, .ref fi, .ref cd]))], w2_207, z1_] _ _ := G.re rfl
                refine z_get C G clX3 5 rfl 3 (by decide) m_fl_RX11_306 rfl dX11_fits_103 ?_
                refine lv_icmp_ge (tgt := 126) hx hb dX11_fits_106 (by decide) (fun c_228 => ?_) (fun c_228 => ?_)
                · have c_228n : e3f_179.toInt ≤ (w_ - 10).toInt := (fa_le _ _).mp c_228
                  refine lv_bipush (v := (-2)) hx hb dX11_fits_126 (by decide) ?_
                  have hw_229 : bFit T fi e0f_176 e1f_177 e2f_178 e3f_179 e4f_180 e5f_181 r1f_182 m1f_183 r2f_184 [(fi, .inr (3, [.int e0f_176, .int e1f_177, .int e2f_178, .int e3f_179, .int e4f_180, .int e5f_181, .ref a1_226, .ref a2_227])), (a1_226, .inl (T.2 0, m1f_183, .inl r1f_182)), (a2_227, .inl (T.2 0, 7, .inl r2f_184))] := ⟨a1_226, a2_227, rfl⟩
                  have G : zS T A s.heap s [wt, z0_, wg0_, wg1_, wwA_163, [(fi, .inr (3, [.int e0f_176, .int e1f_177, .int e2f_178, .int e3f_179, .int e4f_180, .int e5f_181, .ref a1_226, .ref a2_227])), (a1_226, .inl (T.2 0, m1f_183, .inl r1f_182)), (a2_227, .inl (T.2 0, 7, .inl r2f_184))], [(xo, .inr (10, [.ref t, .ref im, .ref mk, .ref rd, .ref po, .ref co, .ref tr, .ref wa, .ref wb_, .ref fi, .ref cd]))], w2_207, z1_] _ _ := G.re rfl
                  have G := G.sub (bs' := [[(xo, .inr (10, [.ref t, .ref im, .ref mk, .ref rd, .ref po, .ref co, .ref tr, .ref wa, .ref wb_, .ref fi, .ref cd]))], wt, z0_, z1_, wg0_, wg1_, wwA_163, w2_207, [(fi, .inr (3, [.int e0f_176, .int e1f_177, .int e2f_178, .int e3f_179, .int e4f_180, .int e5f_181, .ref a1_226, .ref a2_227])), (a1_226, .inl (T.2 0, m1f_183, .inl r1f_182)), (a2_227, .inl (T.2 0, 7, .inl r2f_184))]]) [6, 0, 1, 8, 2, 3, 4, 7, 5] rfl
                  exact z_iret C hr hlocks G (by omega) (by omega) dX11_fits_128 ⟨laA_152, mdA_153, wyA_154, pc_A_155, f1A_156, f2A_157, f3A_158, f4A_159, f5A_160, f6A_161, n4A_162, wwA_163, l1, m2_208, wy2_209, pc2_210, g1_211, g2_212, f3B_170, g4_213, g5_214, g6_215, (zMk mdB_165 n4B_174 (zPl cr1_ inn1_ k11_)), w2_207, e0f_176, e1f_177, e2f_178, e3f_179, e4f_180, e5f_181, r1f_182, m1f_183, r2f_184, ([(fi, .inr (3, [.int e0f_176, .int e1f_177, .int e2f_178, .int e3f_179, .int e4f_180, .int e5f_181, .ref a1_226, .ref a2_227])), (a1_226, .inl (T.2 0, m1f_183, .inl r1f_182)), (a2_227, .inl (T.2 0, 7, .inl r2f_184))]), rfl, h_186, h_187, h_188, h_189, h_190, h_191, h_217, (Or.inr rfl), hwy9, (hzk.trans h_195), (by rw [hzk]; exact h_196), (fun _ => h_220), hw_229, h_199, h_200, h_201, (fun q => (h_203 q).elim (fun w => Or.inl ⟨w.1, w.2⟩) (fun w => Or.inr ⟨w.1, h_220⟩))⟩
                · have c_228n : ¬ e3f_179.toInt ≤ (w_ - 10).toInt := fun q => c_228 ((fa_le _ _).mpr q)
                  refine lv_aload hx hb dX11_fits_109 (lv_at hl 1 rfl) ?_
                  refine lv_aload_n hx hb dX11_fits_111 rfl (lv_at hl 3 rfl) ?_
                  refine z_get C G clX11 8 rfl 9 (by decide) m_fl_RX11_65 rfl dX11_fits_112 ?_
                  refine lv_iload hx hb dX11_fits_115 (lv_at hl 0 rfl) ?_
                  have hw_230 : bFit T fi e0f_176 e1f_177 e2f_178 e3f_179 e4f_180 e5f_181 r1f_182 m1f_183 r2f_184 [(fi, .inr (3, [.int e0f_176, .int e1f_177, .int e2f_178, .int e3f_179, .int e4f_180, .int e5f_181, .ref a1_226, .ref a2_227])), (a1_226, .inl (T.2 0, m1f_183, .inl r1f_182)), (a2_227, .inl (T.2 0, 7, .inl r2f_184))] := ⟨a1_226, a2_227, rfl⟩
                  have G : zS T A s.heap s [wt, z0_, wg0_, wg1_, wwA_163, [(fi, .inr (3, [.int e0f_176, .int e1f_177, .int e2f_178, .int e3f_179, .int e4f_180, .int e5f_181, .ref a1_226, .ref a2_227])), (a1_226, .inl (T.2 0, m1f_183, .inl r1f_182)), (a2_227, .inl (T.2 0, 7, .inl r2f_184))], [(xo, .inr (10, [.ref t, .ref im, .ref mk, .ref rd, .ref po, .ref co, .ref tr, .ref wa, .ref wb_, .ref fi, .ref cd]))], w2_207, z1_] _ _ := G.re rfl
                  refine z_Vi (bc := [[(fi, .inr (3, [.int e0f_176, .int e1f_177, .int e2f_178, .int e3f_179, .int e4f_180, .int e5f_181, .ref a1_226, .ref a2_227])), (a1_226, .inl (T.2 0, m1f_183, .inl r1f_182)), (a2_227, .inl (T.2 0, 7, .inl r2f_184))]]) (br := [wt, z0_, wg0_, wg1_, wwA_163, [(xo, .inr (10, [.ref t, .ref im, .ref mk, .ref rd, .ref po, .ref co, .ref tr, .ref wa, .ref wb_, .ref fi, .ref cd]))], w2_207, z1_]) (As := [.int (w_ - 10)]) (rest := [.ref wb_]) C G (c_way l T fi e0f_176 e1f_177 e2f_178 e3f_179 e4f_180 e5f_181 r1f_182 m1f_183 r2f_184 ([(fi, .inr (3, [.int e0f_176, .int e1f_177, .int e2f_178, .int e3f_179, .int e4f_180, .int e5f_181, .ref a1_226, .ref a2_227])), (a1_226, .inl (T.2 0, m1f_183, .inl r1f_182)), (a2_227, .inl (T.2 0, 7, .inl r2f_184))]) (w_ - 10) hw_230 hfm9) (kV_RX11_317 C.2.2.2.2 (Nat.le_of_ble_eq_true rfl) (Nat.le_of_ble_eq_true rfl)) [5] [0, 1, 2, 3, 4, 6, 7, 8] rfl rfl (ci := 3) (qc := (RX3, TX3, 8)) rfl rfl (List.mem_flatten.mpr ⟨_, List.mem_of_getElem? (i := 0) rfl, (bFit_mem hw_230).choose_spec⟩) rfl rfl hl.1 dX11_fits_117 (by show _ + 0 ≤ 7; omega) (by show _ + 0 ≤ 6 * (zNA (i1.toInt = 0 ∧ 0 < (fk 0).toInt ∧ (0 ≤ i2.toInt ∧ i2.toInt < (fk 2).toInt ∧ i2.toInt < 2) ∧ (e0f.toInt = 0 ∨ ¬ e1f.toInt = i1.toInt ∨ ¬ e2f.toInt = i2.toInt)) mdA n4A (zPl cr0_ inn0_ k10_) - n4A) + 6 * (zNA (i1.toInt = 1 ∧ 1 < (fk 0).toInt ∧ (0 ≤ i2.toInt ∧ i2.toInt < (fk 2).toInt ∧ i2.toInt < 2) ∧ (e0f.toInt = 0 ∨ ¬ e1f.toInt = i1.toInt ∨ ¬ e2f.toInt = i2.toInt)) mdB n4B (zPl cr1_ inn1_ k11_) - n4B) + 2 * (zNF (i1.toInt = 1 ∧ 1 < (fk 0).toInt ∧ (0 ≤ i2.toInt ∧ i2.toInt < (fk 2).toInt ∧ i2.toInt < 2) ∧ (e0f.toInt = 0 ∨ ¬ e1f.toInt = i1.toInt ∨ ¬ e2f.toInt = i2.toInt)) (zNF (i1.toInt = 0 ∧ 0 < (fk 0).toInt ∧ (0 ≤ i2.toInt ∧ i2.toInt < (fk 2).toInt ∧ i2.toInt < 2) ∧ (e0f.toInt = 0 ∨ ¬ e1f.toInt = i1.toInt ∨ ¬ e2f.toInt = i2.toInt)) m1f (zMw mdA wyA cr0_ inn0_ k10_)) (zMw mdB wyB cr1_ inn1_ k11_) - m1f); omega) (fun r_232 b1 H locs hw G => ?_)
                  refine zAn2 hw ?_
                  intro hbs9 h_231
                  clear hw
                  subst hbs9
                  have G : zS T A s.heap s [wt, z0_, wg0_, wg1_, wwA_163, [(xo, .inr (10, [.ref t, .ref im, .ref mk, .ref rd, .ref po, .ref co, .ref tr, .ref wa, .ref wb_, .ref fi, .ref cd]))], w2_207, z1_, [(fi, .inr (3, [.int e0f_176, .int e1f_177, .int e2f_178, .int e3f_179, .int e4f_180, .int e5f_181, .ref a1_226, .ref a2_227])), (a1_226, .inl (T.2 0, m1f_183, .inl r1f_182)), (a2_227, .inl (T.2 0, 7, .inl r2f_184))]] _ _ := G
                  subst h_231
                  refine z_Vi (bc := [w2_207, z1_]) (br := [wt, z0_, wg0_, wg1_, wwA_163, [(xo, .inr (10, [.ref t, .ref im, .ref mk, .ref rd, .ref po, .ref co, .ref tr, .ref wa, .ref wb_, .ref fi, .ref cd]))], [(fi, .inr (3, [.int e0f_176, .int e1f_177, .int e2f_178, .int e3f_179, .int e4f_180, .int e5f_181, .ref a1_226, .ref a2_227])), (a1_226, .inl (T.2 0, m1f_183, .inl r1f_182)), (a2_227, .inl (T.2 0, 7, .inl r2f_184))]]) (As := [.int (zFway r1f_182 m1f_183 (w_ - 10))]) (rest := []) C G (c_number l T wb_ l1 m2_208 wy2_209 pc2_210 g1_211 g2_212 f3B_170 g4_213 g5_214 g6_215 (zMk mdB_165 n4B_174 (zPl cr1_ inn1_ k11_)) w2_207 cr1_ inn1_ k11_ k21_ k31_ k41_ z1_ (zFway r1f_182 m1f_183 (w_ - 10)) h_217 hz1_ (by first | with_reducible assumption | with_reducible rfl | omega | assumption | rfl)) (kV_RX11_272 C.2.2.2.2 (Nat.le_of_ble_eq_true rfl) (Nat.le_of_ble_eq_true rfl)) [6, 7] [0, 1, 2, 3, 4, 5, 8] rfl rfl (ci := 0) (qc := (RX0, TX0, 10)) rfl rfl (List.mem_flatten.mpr ⟨_, List.mem_of_getElem? (i := 0) rfl, (bWays_mem h_217).choose_spec⟩) rfl rfl hl.1 dX11_fits_120 (by show _ + 0 ≤ 7; omega) (by show _ + 0 ≤ 6 * (zNA (i1.toInt = 0 ∧ 0 < (fk 0).toInt ∧ (0 ≤ i2.toInt ∧ i2.toInt < (fk 2).toInt ∧ i2.toInt < 2) ∧ (e0f.toInt = 0 ∨ ¬ e1f.toInt = i1.toInt ∨ ¬ e2f.toInt = i2.toInt)) mdA n4A (zPl cr0_ inn0_ k10_) - n4A) + 6 * (zNA (i1.toInt = 1 ∧ 1 < (fk 0).toInt ∧ (0 ≤ i2.toInt ∧ i2.toInt < (fk 2).toInt ∧ i2.toInt < 2) ∧ (e0f.toInt = 0 ∨ ¬ e1f.toInt = i1.toInt ∨ ¬ e2f.toInt = i2.toInt)) mdB n4B (zPl cr1_ inn1_ k11_) - n4B) + 2 * (zNF (i1.toInt = 1 ∧ 1 < (fk 0).toInt ∧ (0 ≤ i2.toInt ∧ i2.toInt < (fk 2).toInt ∧ i2.toInt < 2) ∧ (e0f.toInt = 0 ∨ ¬ e1f.toInt = i1.toInt ∨ ¬ e2f.toInt = i2.toInt)) (zNF (i1.toInt = 0 ∧ 0 < (fk 0).toInt ∧ (0 ≤ i2.toInt ∧ i2.toInt < (fk 2).toInt ∧ i2.toInt < 2) ∧ (e0f.toInt = 0 ∨ ¬ e1f.toInt = i1.toInt ∨ ¬ e2f.toInt = i2.toInt)) m1f (zMw mdA wyA cr0_ inn0_ k10_)) (zMw mdB wyB cr1_ inn1_ k11_) - m1f); omega) (fun r_233 b1 H locs hw G => ?_)
                  obtain rfl := hw
                  have G : zS T A s.heap s [wt, z0_, wg0_, wg1_, wwA_163, [(xo, .inr (10, [.ref t, .ref im, .ref mk, .ref rd, .ref po, .ref co, .ref tr, .ref wa, .ref wb_, .ref fi, .ref cd]))], [(fi, .inr (3, [.int e0f_176, .int e1f_177, .int e2f_178, .int e3f_179, .int e4f_180, .int e5f_181, .ref a1_226, .ref a2_227])), (a1_226, .inl (T.2 0, m1f_183, .inl r1f_182)), (a2_227, .inl (T.2 0, 7, .inl r2f_184))], w2_207, z1_] _ _ := G
                  refine lv_goto (tgt := 128) hx hb dX11_fits_123 (by decide) ?_
                  have G := G.sub (bs' := [[(xo, .inr (10, [.ref t, .ref im, .ref mk, .ref rd, .ref po, .ref co, .ref tr, .ref wa, .ref wb_, .ref fi, .ref cd]))], wt, z0_, z1_, wg0_, wg1_, wwA_163, w2_207, [(fi, .inr (3, [.int e0f_176, .int e1f_177, .int e2f_178, .int e3f_179, .int e4f_180, .int e5f_181, .ref a1_226, .ref a2_227])), (a1_226, .inl (T.2 0, m1f_183, .inl r1f_182)), (a2_227, .inl (T.2 0, 7, .inl r2f_184))]]) [5, 0, 1, 8, 2, 3, 4, 7, 6] rfl
                  exact z_iret C hr hlocks G (by omega) (by omega) dX11_fits_128 ⟨laA_152, mdA_153, wyA_154, pc_A_155, f1A_156, f2A_157, f3A_158, f4A_159, f5A_160, f6A_161, n4A_162, wwA_163, l1, m2_208, wy2_209, pc2_210, g1_211, g2_212, f3B_170, g4_213, g5_214, g6_215, (zMk mdB_165 n4B_174 (zPl cr1_ inn1_ k11_)), w2_207, e0f_176, e1f_177, e2f_178, e3f_179, e4f_180, e5f_181, r1f_182, m1f_183, r2f_184, ([(fi, .inr (3, [.int e0f_176, .int e1f_177, .int e2f_178, .int e3f_179, .int e4f_180, .int e5f_181, .ref a1_226, .ref a2_227])), (a1_226, .inl (T.2 0, m1f_183, .inl r1f_182)), (a2_227, .inl (T.2 0, 7, .inl r2f_184))]), rfl, h_186, h_187, h_188, h_189, h_190, h_191, h_217, (Or.inr rfl), hwy9, (hzk.trans h_195), (by rw [hzk]; exact h_196), (fun _ => h_220), hw_230, h_199, h_200, h_201, (fun q => (h_203 q).elim (fun w => Or.inl ⟨w.1, w.2⟩) (fun w => Or.inr ⟨w.1, h_220⟩))⟩
            · have c_224n : ¬ (9 : Int) ≤ w_.toInt := fun q => c_224 ((fa_le _ _).mpr q)
              refine lv_aload_n hx hb dX11_fits_73 rfl (lv_at hl 2 rfl) ?_
              refine z_get C G clX11 6 rfl 9 (by decide) m_fl_RX11_65 rfl dX11_fits_74 ?_
              refine lv_aload hx hb dX11_fits_77 (lv_at hl 0 rfl) ?_
              refine lv_iload_n hx hb dX11_fits_79 rfl (lv_at hl 5 rfl) ?_
              refine lv_iconst (v := 2) hx hb dX11_fits_80 (by decide) ?_
              refine lv_isub hx hb dX11_fits_81 ?_
              refine z_Vi (bc := [wff_185, w2_207, z1_]) (br := [wt, z0_, wg0_, wg1_, wwA_163, [(xo, .inr (10, [.ref t, .ref im, .ref mk, .ref rd, .ref po, .ref co, .ref tr, .ref wa, .ref wb_, .ref fi, .ref cd]))]]) (As := [.ref wb_, .int (w_ - 2)]) (rest := []) C G (c_sure l T fi e0f_176 e1f_177 e2f_178 e3f_179 e4f_180 e5f_181 r1f_182 m1f_183 r2f_184 wff_185 wb_ l1 m2_208 wy2_209 pc2_210 g1_211 g2_212 f3B_170 g4_213 g5_214 g6_215 (zMk mdB_165 n4B_174 (zPl cr1_ inn1_ k11_)) w2_207 cr1_ inn1_ k11_ k21_ k31_ k41_ z1_ (w_ - 2) h_198 h_217 hz1_ hfm9) (kV_RX11_313 C.2.2.2.2 (Nat.le_of_ble_eq_true rfl) (Nat.le_of_ble_eq_true rfl)) [5, 7, 8] [0, 1, 2, 3, 4, 6] rfl rfl (ci := 3) (qc := (RX3, TX3, 8)) rfl rfl (List.mem_flatten.mpr ⟨_, List.mem_of_getElem? (i := 0) rfl, (bFit_mem h_198).choose_spec⟩) rfl rfl hl.1 dX11_fits_82 (by show _ + 0 ≤ 7; omega) (by show _ + 0 ≤ 6 * (zNA (i1.toInt = 0 ∧ 0 < (fk 0).toInt ∧ (0 ≤ i2.toInt ∧ i2.toInt < (fk 2).toInt ∧ i2.toInt < 2) ∧ (e0f.toInt = 0 ∨ ¬ e1f.toInt = i1.toInt ∨ ¬ e2f.toInt = i2.toInt)) mdA n4A (zPl cr0_ inn0_ k10_) - n4A) + 6 * (zNA (i1.toInt = 1 ∧ 1 < (fk 0).toInt ∧ (0 ≤ i2.toInt ∧ i2.toInt < (fk 2).toInt ∧ i2.toInt < 2) ∧ (e0f.toInt = 0 ∨ ¬ e1f.toInt = i1.toInt ∨ ¬ e2f.toInt = i2.toInt)) mdB n4B (zPl cr1_ inn1_ k11_) - n4B) + 2 * (zNF (i1.toInt = 1 ∧ 1 < (fk 0).toInt ∧ (0 ≤ i2.toInt ∧ i2.toInt < (fk 2).toInt ∧ i2.toInt < 2) ∧ (e0f.toInt = 0 ∨ ¬ e1f.toInt = i1.toInt ∨ ¬ e2f.toInt = i2.toInt)) (zNF (i1.toInt = 0 ∧ 0 < (fk 0).toInt ∧ (0 ≤ i2.toInt ∧ i2.toInt < (fk 2).toInt ∧ i2.toInt < 2) ∧ (e0f.toInt = 0 ∨ ¬ e1f.toInt = i1.toInt ∨ ¬ e2f.toInt = i2.toInt)) m1f (zMw mdA wyA cr0_ inn0_ k10_)) (zMw mdB wyB cr1_ inn1_ k11_) - m1f); omega) (fun r_234 b1 H locs hw G => ?_)
              obtain rfl := hw
              have G : zS T A s.heap s [wt, z0_, wg0_, wg1_, wwA_163, [(xo, .inr (10, [.ref t, .ref im, .ref mk, .ref rd, .ref po, .ref co, .ref tr, .ref wa, .ref wb_, .ref fi, .ref cd]))], wff_185, w2_207, z1_] _ _ := G
              have G := G.sub (bs' := [[(xo, .inr (10, [.ref t, .ref im, .ref mk, .ref rd, .ref po, .ref co, .ref tr, .ref wa, .ref wb_, .ref fi, .ref cd]))], wt, z0_, z1_, wg0_, wg1_, wwA_163, w2_207, wff_185]) [5, 0, 1, 8, 2, 3, 4, 7, 6] rfl
              exact z_iret C hr hlocks G (by omega) (by omega) dX11_fits_85 ⟨laA_152, mdA_153, wyA_154, pc_A_155, f1A_156, f2A_157, f3A_158, f4A_159, f5A_160, f6A_161, n4A_162, wwA_163, l1, m2_208, wy2_209, pc2_210, g1_211, g2_212, f3B_170, g4_213, g5_214, g6_215, (zMk mdB_165 n4B_174 (zPl cr1_ inn1_ k11_)), w2_207, e0f_176, e1f_177, e2f_178, e3f_179, e4f_180, e5f_181, r1f_182, m1f_183, r2f_184, wff_185, rfl, h_186, h_187, h_188, h_189, h_190, h_191, h_217, (Or.inr rfl), hwy9, (hzk.trans h_195), (by rw [hzk]; exact h_196), (fun _ => h_220), h_198, h_199, h_200, h_201, (fun q => (h_203 q).elim (fun w => Or.inl ⟨w.1, w.2⟩) (fun w => Or.inr ⟨w.1, h_220⟩))⟩
          · have c_223n : w_.toInt = (1 : Int) := (fa_eq _ _).mp c_223
            refine lv_aload_n hx hb dX11_fits_57 rfl (lv_at hl 2 rfl) ?_
            refine z_get C G clX11 6 rfl 9 (by decide) m_fl_RX11_65 rfl dX11_fits_58 ?_
            refine lv_aload hx hb dX11_fits_61 (lv_at hl 0 rfl) ?_
            refine z_Vi (bc := [wff_185, w2_207, z1_]) (br := [wt, z0_, wg0_, wg1_, wwA_163, [(xo, .inr (10, [.ref t, .ref im, .ref mk, .ref rd, .ref po, .ref co, .ref tr, .ref wa, .ref wb_, .ref fi, .ref cd]))]]) (As := [.ref wb_]) (rest := []) C G (c_ask l T fi e0f_176 e1f_177 e2f_178 e3f_179 e4f_180 e5f_181 r1f_182 m1f_183 r2f_184 wff_185 wb_ l1 m2_208 wy2_209 pc2_210 g1_211 g2_212 f3B_170 g4_213 g5_214 g6_215 (zMk mdB_165 n4B_174 (zPl cr1_ inn1_ k11_)) w2_207 cr1_ inn1_ k11_ k21_ k31_ k41_ z1_ h_198 h_217 hz1_ hn9 hfm9 (by first | with_reducible assumption | with_reducible rfl | omega | assumption | rfl)) (kV_RX11_309 C.2.2.2.2 (Nat.le_of_ble_eq_true rfl) (Nat.le_of_ble_eq_true rfl)) [5, 7, 8] [0, 1, 2, 3, 4, 6] rfl rfl (ci := 3) (qc := (RX3, TX3, 8)) rfl rfl (List.mem_flatten.mpr ⟨_, List.mem_of_getElem? (i := 0) rfl, (bFit_mem h_198).choose_spec⟩) rfl rfl hl.1 dX11_fits_63 (by show _ + 0 ≤ 7; omega) (by show _ + 0 ≤ 6 * (zNA (i1.toInt = 0 ∧ 0 < (fk 0).toInt ∧ (0 ≤ i2.toInt ∧ i2.toInt < (fk 2).toInt ∧ i2.toInt < 2) ∧ (e0f.toInt = 0 ∨ ¬ e1f.toInt = i1.toInt ∨ ¬ e2f.toInt = i2.toInt)) mdA n4A (zPl cr0_ inn0_ k10_) - n4A) + 6 * (zNA (i1.toInt = 1 ∧ 1 < (fk 0).toInt ∧ (0 ≤ i2.toInt ∧ i2.toInt < (fk 2).toInt ∧ i2.toInt < 2) ∧ (e0f.toInt = 0 ∨ ¬ e1f.toInt = i1.toInt ∨ ¬ e2f.toInt = i2.toInt)) mdB n4B (zPl cr1_ inn1_ k11_) - n4B) + 2 * (zNF (i1.toInt = 1 ∧ 1 < (fk 0).toInt ∧ (0 ≤ i2.toInt ∧ i2.toInt < (fk 2).toInt ∧ i2.toInt < 2) ∧ (e0f.toInt = 0 ∨ ¬ e1f.toInt = i1.toInt ∨ ¬ e2f.toInt = i2.toInt)) (zNF (i1.toInt = 0 ∧ 0 < (fk 0).toInt ∧ (0 ≤ i2.toInt ∧ i2.toInt < (fk 2).toInt ∧ i2.toInt < 2) ∧ (e0f.toInt = 0 ∨ ¬ e1f.toInt = i1.toInt ∨ ¬ e2f.toInt = i2.toInt)) m1f (zMw mdA wyA cr0_ inn0_ k10_)) (zMw mdB wyB cr1_ inn1_ k11_) - m1f); omega) (fun r_238 b1 H locs hw G => ?_)
            refine zEx2 hw ?_
            intro w2_235 g2_236
            refine zCu2 ?_
            intro hbs9 h_237
            clear hw
            subst hbs9
            have G : zS T A s.heap s [wt, z0_, wg0_, wg1_, wwA_163, [(xo, .inr (10, [.ref t, .ref im, .ref mk, .ref rd, .ref po, .ref co, .ref tr, .ref wa, .ref wb_, .ref fi, .ref cd]))], w2_235, w2_207, z1_] _ _ := G
            have G := G.sub (bs' := [[(xo, .inr (10, [.ref t, .ref im, .ref mk, .ref rd, .ref po, .ref co, .ref tr, .ref wa, .ref wb_, .ref fi, .ref cd]))], wt, z0_, z1_, wg0_, wg1_, wwA_163, w2_207, w2_235]) [5, 0, 1, 8, 2, 3, 4, 7, 6] rfl
            exact z_iret C hr hlocks G (by omega) (by omega) dX11_fits_66 ⟨laA_152, mdA_153, wyA_154, pc_A_155, f1A_156, f2A_157, f3A_158, f4A_159, f5A_160, f6A_161, n4A_162, wwA_163, l1, m2_208, wy2_209, pc2_210, g1_211, g2_212, f3B_170, g4_213, g5_214, g6_215, (zMk mdB_165 n4B_174 (zPl cr1_ inn1_ k11_)), w2_207, e0f_176, e1f_177, e2f_178, e3f_179, e4f_180, e5f_181, r1f_182, m1f_183, g2_236, w2_235, rfl, h_186, h_187, h_188, h_189, h_190, h_191, h_217, (Or.inr rfl), hwy9, (hzk.trans h_195), (by rw [hzk]; exact h_196), (fun _ => h_220), h_237, h_199, h_200, h_201, (fun q => (h_203 q).elim (fun w => Or.inl ⟨w.1, w.2⟩) (fun w => Or.inr ⟨w.1, h_220⟩))⟩
        · have c_222n : w_.toInt = (0 : Int) := (fa_eq _ _).mp c_222
          refine lv_aload_n hx hb dX11_fits_44 rfl (lv_at hl 2 rfl) ?_
          refine z_get C G clX11 6 rfl 9 (by decide) m_fl_RX11_65 rfl dX11_fits_45 ?_
          refine zEx2 h_198 ?_
          intro a1_239 a2_240 hbs9
          clear h_198
          subst hbs9
          have G : zS T A s.heap s [wt, z0_, wg0_, wg1_, wwA_163, [(fi, .inr (3, [.int e0f_176, .int e1f_177, .int e2f_178, .int e3f_179, .int e4f_180, .int e5f_181, .ref a1_239, .ref a2_240]))], [(a1_239, .inl (T.2 0, m1f_183, .inl r1f_182))], [(a2_240, .inl (T.2 0, 7, .inl r2f_184))], [(xo, .inr (10, [.ref t, .ref im, .ref mk, .ref rd, .ref po, .ref co, .ref tr, .ref wa, .ref wb_, .ref fi, .ref cd]))], w2_207, z1_] _ _ := G.re rfl
          refine z_get C G clX3 5 rfl 3 (by decide) m_fl_RX11_306 rfl dX11_fits_48 ?_
          have hw_241 : bFit T fi e0f_176 e1f_177 e2f_178 e3f_179 e4f_180 e5f_181 r1f_182 m1f_183 r2f_184 [(fi, .inr (3, [.int e0f_176, .int e1f_177, .int e2f_178, .int e3f_179, .int e4f_180, .int e5f_181, .ref a1_239, .ref a2_240])), (a1_239, .inl (T.2 0, m1f_183, .inl r1f_182)), (a2_240, .inl (T.2 0, 7, .inl r2f_184))] := ⟨a1_239, a2_240, rfl⟩
          have G : zS T A s.heap s [wt, z0_, wg0_, wg1_, wwA_163, [(fi, .inr (3, [.int e0f_176, .int e1f_177, .int e2f_178, .int e3f_179, .int e4f_180, .int e5f_181, .ref a1_239, .ref a2_240])), (a1_239, .inl (T.2 0, m1f_183, .inl r1f_182)), (a2_240, .inl (T.2 0, 7, .inl r2f_184))], [(xo, .inr (10, [.ref t, .ref im, .ref mk, .ref rd, .ref po, .ref co, .ref tr, .ref wa, .ref wb_, .ref fi, .ref cd]))], w2_207, z1_] _ _ := G.re rfl
          have G := G.sub (bs' := [[(xo, .inr (10, [.ref t, .ref im, .ref mk, .ref rd, .ref po, .ref co, .ref tr, .ref wa, .ref wb_, .ref fi, .ref cd]))], wt, z0_, z1_, wg0_, wg1_, wwA_163, w2_207, [(fi, .inr (3, [.int e0f_176, .int e1f_177, .int e2f_178, .int e3f_179, .int e4f_180, .int e5f_181, .ref a1_239, .ref a2_240])), (a1_239, .inl (T.2 0, m1f_183, .inl r1f_182)), (a2_240, .inl (T.2 0, 7, .inl r2f_184))]]) [6, 0, 1, 8, 2, 3, 4, 7, 5] rfl
          exact z_iret C hr hlocks G (by omega) (by omega) dX11_fits_51 ⟨laA_152, mdA_153, wyA_154, pc_A_155, f1A_156, f2A_157, f3A_158, f4A_159, f5A_160, f6A_161, n4A_162, wwA_163, l1, m2_208, wy2_209, pc2_210, g1_211, g2_212, f3B_170, g4_213, g5_214, g6_215, (zMk mdB_165 n4B_174 (zPl cr1_ inn1_ k11_)), w2_207, e0f_176, e1f_177, e2f_178, e3f_179, e4f_180, e5f_181, r1f_182, m1f_183, r2f_184, ([(fi, .inr (3, [.int e0f_176, .int e1f_177, .int e2f_178, .int e3f_179, .int e4f_180, .int e5f_181, .ref a1_239, .ref a2_240])), (a1_239, .inl (T.2 0, m1f_183, .inl r1f_182)), (a2_240, .inl (T.2 0, 7, .inl r2f_184))]), rfl, h_186, h_187, h_188, h_189, h_190, h_191, h_217, (Or.inr rfl), hwy9, (hzk.trans h_195), (by rw [hzk]; exact h_196), (fun _ => h_220), hw_241, h_199, h_200, h_201, (fun q => (h_203 q).elim (fun w => Or.inl ⟨w.1, w.2⟩) (fun w => Or.inr ⟨w.1, h_220⟩))⟩
      · have c_206n : ¬ (0 : Int) ≤ w_.toInt := fun q => c_206 ((fa_le _ _).mpr q)
        refine lv_bipush (v := (-2)) hx hb dX11_fits_28 (by decide) ?_
        exact z_iret C hr hlocks G (by omega) (by omega) dX11_fits_30 ⟨laA_152, mdA_153, wyA_154, pc_A_155, f1A_156, f2A_157, f3A_158, f4A_159, f5A_160, f6A_161, n4A_162, wwA_163, laB_164, mdB_165, wyB_166, pc_B_167, f1B_168, f2B_169, f3B_170, f4B_171, f5B_172, f6B_173, n4B_174, wwB_175, e0f_176, e1f_177, e2f_178, e3f_179, e4f_180, e5f_181, r1f_182, m1f_183, r2f_184, wff_185, rfl, h_186, h_187, h_188, h_189, h_190, h_191, h_192, h_193, h_194, h_195, h_196, h_197, h_198, h_199, h_200, h_201, h_203⟩
set_option maxHeartbeats 4000000 in
set_option maxRecDepth 100000 in
/-- c_odds -/
theorem c_odds (l : Launch) (T : zTy) (xo : Nat) (t : Nat) (im : Nat) (mk : Nat) (rd : Nat) (po : Nat) (co : Nat) (tr : Nat) (wa : Nat) (wb_ : Nat) (fi : Nat) (cd : Nat) (l0 : Nat) (l1 : Nat) (d0 : Nat) (d1 : Nat) (g0 : Nat) (g1 : Nat) (ln : Int32) (fl : Int32) (pl : Int32) (ft : Nat → Int32) (fk : Nat → Int32) (wt : va_W) (cr0_ : Int32) (inn0_ : Int32) (k10_ : Nat → Int32) (k20_ : Nat → Int32) (k30_ : Nat → Int32) (k40_ : Nat → Int32) (z0_ : va_W) (cr1_ : Int32) (inn1_ : Int32) (k11_ : Nat → Int32) (k21_ : Nat → Int32) (k31_ : Nat → Int32) (k41_ : Nat → Int32) (z1_ : va_W) (gg0_ : Int32) (q10_ : Nat → Int32) (q20_ : Nat → Int32) (wg0_ : va_W) (gg1_ : Int32) (q11_ : Nat → Int32) (q21_ : Nat → Int32) (wg1_ : va_W) (laA : Nat) (mdA : Int32) (wyA : Int32) (pc_A : Int32) (f1A : Nat → Int32) (f2A : Nat → Int32) (f3A : Nat → Int32) (f4A : Nat → Int32) (f5A : Nat → Int32) (f6A : Nat → Int32) (n4A : Nat) (wwA : va_W) (laB : Nat) (mdB : Int32) (wyB : Int32) (pc_B : Int32) (f1B : Nat → Int32) (f2B : Nat → Int32) (f3B : Nat → Int32) (f4B : Nat → Int32) (f5B : Nat → Int32) (f6B : Nat → Int32) (n4B : Nat) (wwB : va_W) (e0f : Int32) (e1f : Int32) (e2f : Int32) (e3f : Int32) (e4f : Int32) (e5f : Int32) (r1f : Nat → Int32) (m1f : Nat) (r2f : Nat → Int32) (wff : va_W) (i1 : Int32) (i2 : Int32) (a_ : Int32) (b_ : Int32) (w_ : Int32) (ht : bTold T t l0 l1 d0 d1 g0 g1 ln fl pl ft fk wt) (hK : zKT fk) (hz0_ : bLand T l0 cr0_ inn0_ k10_ k20_ k30_ k40_ z0_) (hI0_ : zLI cr0_ k10_ k30_) (hz1_ : bLand T l1 cr1_ inn1_ k11_ k21_ k31_ k41_ z1_) (hI1_ : zLI cr1_ k11_ k31_) (hg0_ : bLog T g0 gg0_ q10_ q20_ wg0_) (hg1_ : bLog T g1 gg1_ q11_ q21_ wg1_) (hwwA : bWays T wa laA mdA wyA pc_A f1A f2A f3A f4A f5A f6A n4A wwA) (hpwA : zPw n4A) (hmdA : mdA = 0 ∨ laA = l0) (hwmA : 0 ≤ wyA.toInt ∧ wyA.toInt ≤ 16384) (hwwB : bWays T wb_ laB mdB wyB pc_B f1B f2B f3B f4B f5B f6B n4B wwB) (hpwB : zPw n4B) (hmdB : mdB = 0 ∨ laB = l1) (hwmB : 0 ≤ wyB.toInt ∧ wyB.toInt ≤ 16384) (hwff : bFit T fi e0f e1f e2f e3f e4f e5f r1f m1f r2f wff) (hfw : zFw m1f) (hf3 : 0 ≤ e3f.toInt) (hFI : (¬ e0f = 0 → e1f.toInt = 0 ∧ ¬ mdA = 0 ∨ e1f.toInt = 1 ∧ ¬ mdB = 0)) : zMi l T yX11_odds cX11_odds 8 (some .int) 8 7 (6 * (zNA (i1.toInt = 0 ∧ 0 < (fk 0).toInt ∧ (0 ≤ i2.toInt ∧ i2.toInt < (fk 2).toInt ∧ i2.toInt < 2) ∧ (e0f.toInt = 0 ∨ ¬ e1f.toInt = i1.toInt ∨ ¬ e2f.toInt = i2.toInt)) mdA n4A (zPl cr0_ inn0_ k10_) - n4A) + 6 * (zNA (i1.toInt = 1 ∧ 1 < (fk 0).toInt ∧ (0 ≤ i2.toInt ∧ i2.toInt < (fk 2).toInt ∧ i2.toInt < 2) ∧ (e0f.toInt = 0 ∨ ¬ e1f.toInt = i1.toInt ∨ ¬ e2f.toInt = i2.toInt)) mdB n4B (zPl cr1_ inn1_ k11_) - n4B) + 2 * (zNF (i1.toInt = 1 ∧ 1 < (fk 0).toInt ∧ (0 ≤ i2.toInt ∧ i2.toInt < (fk 2).toInt ∧ i2.toInt < 2) ∧ (e0f.toInt = 0 ∨ ¬ e1f.toInt = i1.toInt ∨ ¬ e2f.toInt = i2.toInt)) (zNF (i1.toInt = 0 ∧ 0 < (fk 0).toInt ∧ (0 ≤ i2.toInt ∧ i2.toInt < (fk 2).toInt ∧ i2.toInt < 2) ∧ (e0f.toInt = 0 ∨ ¬ e1f.toInt = i1.toInt ∨ ¬ e2f.toInt = i2.toInt)) m1f (zMw mdA wyA cr0_ inn0_ k10_)) (zMw mdB wyB cr1_ inn1_ k11_) - m1f)) [.ref xo, .int i1, .int i2, .int a_, .int b_, .int w_] [[(xo, .inr (10, [.ref t, .ref im, .ref mk, .ref rd, .ref po, .ref co, .ref tr, .ref wa, .ref wb_, .ref fi, .ref cd]))], wt, z0_, z1_, wg0_, wg1_, wwA, wwB, wff] (fun (r : Int32) bs => ∃ (laA_2 : Nat) (mdA_2 : Int32) (wyA_2 : Int32) (pc_A_2 : Int32) (f1A_2 : Nat → Int32) (f2A_2 : Nat → Int32) (f3A_2 : Nat → Int32) (f4A_2 : Nat → Int32) (f5A_2 : Nat → Int32) (f6A_2 : Nat → Int32) (n4A_2 : Nat) (wwA_2 : va_W) (laB_2 : Nat) (mdB_2 : Int32) (wyB_2 : Int32) (pc_B_2 : Int32) (f1B_2 : Nat → Int32) (f2B_2 : Nat → Int32) (f3B_2 : Nat → Int32) (f4B_2 : Nat → Int32) (f5B_2 : Nat → Int32) (f6B_2 : Nat → Int32) (n4B_2 : Nat) (wwB_2 : va_W) (e0f_2 : Int32) (e1f_2 : Int32) (e2f_2 : Int32) (e3f_2 : Int32) (e4f_2 : Int32) (e5f_2 : Int32) (r1f_2 : Nat → Int32) (m1f_2 : Nat) (r2f_2 : Nat → Int32) (wff_2 : va_W), bs = [[(xo, .inr (10, [.ref t, .ref im, .ref mk, .ref rd, .ref po, .ref co, .ref tr, .ref wa, .ref wb_, .ref fi, .ref cd]))], wt, z0_, z1_, wg0_, wg1_, wwA_2, wwB_2, wff_2] ∧ bWays T wa laA_2 mdA_2 wyA_2 pc_A_2 f1A_2 f2A_2 f3A_2 f4A_2 f5A_2 f6A_2 n4A_2 wwA_2 ∧ (mdA_2 = 0 ∨ laA_2 = l0) ∧ (0 ≤ wyA_2.toInt ∧ wyA_2.toInt ≤ 16384) ∧ n4A_2 = zNA (i1.toInt = 0 ∧ 0 < (fk 0).toInt ∧ (0 ≤ i2.toInt ∧ i2.toInt < (fk 2).toInt ∧ i2.toInt < 2) ∧ (e0f.toInt = 0 ∨ ¬ e1f.toInt = i1.toInt ∨ ¬ e2f.toInt = i2.toInt)) mdA n4A (zPl cr0_ inn0_ k10_) ∧ zPw n4A_2 ∧ (¬ mdA = 0 → ¬ mdA_2 = 0) ∧ bWays T wb_ laB_2 mdB_2 wyB_2 pc_B_2 f1B_2 f2B_2 f3B_2 f4B_2 f5B_2 f6B_2 n4B_2 wwB_2 ∧ (mdB_2 = 0 ∨ laB_2 = l1) ∧ (0 ≤ wyB_2.toInt ∧ wyB_2.toInt ≤ 16384) ∧ n4B_2 = zNA (i1.toInt = 1 ∧ 1 < (fk 0).toInt ∧ (0 ≤ i2.toInt ∧ i2.toInt < (fk 2).toInt ∧ i2.toInt < 2) ∧ (e0f.toInt = 0 ∨ ¬ e1f.toInt = i1.toInt ∨ ¬ e2f.toInt = i2.toInt)) mdB n4B (zPl cr1_ inn1_ k11_) ∧ zPw n4B_2 ∧ (¬ mdB = 0 → ¬ mdB_2 = 0) ∧ bFit T fi e0f_2 e1f_2 e2f_2 e3f_2 e4f_2 e5f_2 r1f_2 m1f_2 r2f_2 wff_2 ∧ m1f_2 = zNF (i1.toInt = 1 ∧ 1 < (fk 0).toInt ∧ (0 ≤ i2.toInt ∧ i2.toInt < (fk 2).toInt ∧ i2.toInt < 2) ∧ (e0f.toInt = 0 ∨ ¬ e1f.toInt = i1.toInt ∨ ¬ e2f.toInt = i2.toInt)) (zNF (i1.toInt = 0 ∧ 0 < (fk 0).toInt ∧ (0 ≤ i2.toInt ∧ i2.toInt < (fk 2).toInt ∧ i2.toInt < 2) ∧ (e0f.toInt = 0 ∨ ¬ e1f.toInt = i1.toInt ∨ ¬ e2f.toInt = i2.toInt)) m1f (zMw mdA wyA cr0_ inn0_ k10_)) (zMw mdB wyB cr1_ inn1_ k11_) ∧ zFw m1f_2 ∧ 0 ≤ e3f_2.toInt ∧ (¬ e0f_2 = 0 → e1f_2.toInt = 0 ∧ ¬ mdA_2 = 0 ∨ e1f_2.toInt = 1 ∧ ¬ mdB_2 = 0)) := by
  refine zMi_of (own := RX11) (by decide) rfl (Nat.le_of_ble_eq_true rfl) ?_
  intro p e s m args below meth c A ls C hr hlocks hnm hAe G hl
  have hx := C.1
  have hb := C.2.1
  replace hmdA : zHd (mdA = 0 ∨ laA = l0) := hmdA
  replace hmdB : zHd (mdB = 0 ∨ laB = l1) := hmdB
  replace hFI : zHd ((¬ e0f = 0 → e1f.toInt = 0 ∧ ¬ mdA = 0 ∨ e1f.toInt = 1 ∧ ¬ mdB = 0)) := hFI
  have hl : lv_has ls 8 [(0, .ref xo), (1, .int i1), (2, .int i2), (3, .int a_), (4, .int b_), (5, .int w_)] := hl
  refine lv_aload_n hx hb dX11_odds_0 rfl (lv_at hl 0 rfl) ?_
  refine z_get C G clX11 0 rfl 0 (by decide) m_fl_RX11_10 rfl dX11_odds_1 ?_
  refine lv_iload_n hx hb dX11_odds_4 rfl (lv_at hl 1 rfl) ?_
  refine z_Vq (bc := [wt]) (br := [[(xo, .inr (10, [.ref t, .ref im, .ref mk, .ref rd, .ref po, .ref co, .ref tr, .ref wa, .ref wb_, .ref fi, .ref cd]))], z0_, z1_, wg0_, wg1_, wwA, wwB, wff]) (As := [.int i1]) (rest := []) C G (c_landAt l T t l0 l1 d0 d1 g0 g1 ln fl pl ft fk wt i1 ht) (kV_RX11_121 C.2.2.2.2 (Nat.le_of_ble_eq_true rfl) (Nat.le_of_ble_eq_true rfl)) [1] [0, 2, 3, 4, 5, 6, 7, 8] rfl rfl (ci := 8) (qc := (RX9, TX9, 8)) rfl rfl (List.mem_flatten.mpr ⟨_, List.mem_of_getElem? (i := 0) rfl, (bTold_mem ht).choose_spec⟩) rfl rfl hl.1 dX11_odds_5 (by show _ + 0 ≤ 7; omega) (by show _ + 0 ≤ 6 * (zNA (i1.toInt = 0 ∧ 0 < (fk 0).toInt ∧ (0 ≤ i2.toInt ∧ i2.toInt < (fk 2).toInt ∧ i2.toInt < 2) ∧ (e0f.toInt = 0 ∨ ¬ e1f.toInt = i1.toInt ∨ ¬ e2f.toInt = i2.toInt)) mdA n4A (zPl cr0_ inn0_ k10_) - n4A) + 6 * (zNA (i1.toInt = 1 ∧ 1 < (fk 0).toInt ∧ (0 ≤ i2.toInt ∧ i2.toInt < (fk 2).toInt ∧ i2.toInt < 2) ∧ (e0f.toInt = 0 ∨ ¬ e1f.toInt = i1.toInt ∨ ¬ e2f.toInt = i2.toInt)) mdB n4B (zPl cr1_ inn1_ k11_) - n4B) + 2 * (zNF (i1.toInt = 1 ∧ 1 < (fk 0).toInt ∧ (0 ≤ i2.toInt ∧ i2.toInt < (fk 2).toInt ∧ i2.toInt < 2) ∧ (e0f.toInt = 0 ∨ ¬ e1f.toInt = i1.toInt ∨ ¬ e2f.toInt = i2.toInt)) (zNF (i1.toInt = 0 ∧ 0 < (fk 0).toInt ∧ (0 ≤ i2.toInt ∧ i2.toInt < (fk 2).toInt ∧ i2.toInt < 2) ∧ (e0f.toInt = 0 ∨ ¬ e1f.toInt = i1.toInt ∨ ¬ e2f.toInt = i2.toInt)) m1f (zMw mdA wyA cr0_ inn0_ k10_)) (zMw mdB wyB cr1_ inn1_ k11_) - m1f); omega) (fun r_2 b1 H locs hw G => ?_)
  refine zAn2 hw ?_
  intro hbs9 hc_1
  clear hw
  subst hbs9
  have G : zS T A s.heap s [[(xo, .inr (10, [.ref t, .ref im, .ref mk, .ref rd, .ref po, .ref co, .ref tr, .ref wa, .ref wb_, .ref fi, .ref cd]))], z0_, z1_, wg0_, wg1_, wwA, wwB, wff, wt] _ _ := G
  rcases hc_1 with ⟨rfl, h_3⟩ | ⟨rfl, h_4, h_5⟩ | ⟨rfl, h_6, h_7⟩
  · have h_3 : (i1.toInt < 0 ∨ (fk 0).toInt ≤ i1.toInt ∨ 2 ≤ i1.toInt) := h_3
    refine lv_astoreN (lv' := [(6, .null), (0, .ref xo), (1, .int i1), (2, .int i2), (3, .int a_), (4, .int b_), (5, .int w_)]) hx hb dX11_odds_8 hl (by decide) rfl (fun ls hl => ?_)
    refine lv_aload_n hx hb dX11_odds_10 rfl (lv_at hl 1 rfl) ?_
    refine lv_iload_n hx hb dX11_odds_11 rfl (lv_at hl 2 rfl) ?_
    refine lv_iload_n hx hb dX11_odds_12 rfl (lv_at hl 3 rfl) ?_
    refine z_Vi (bc := [[(xo, .inr (10, [.ref t, .ref im, .ref mk, .ref rd, .ref po, .ref co, .ref tr, .ref wa, .ref wb_, .ref fi, .ref cd]))], wt, z0_, z1_, wg0_, wg1_, wwA, wwB, wff]) (br := []) (As := [.int i1, .int i2]) (rest := []) C G (c_fit l T xo t im mk rd po co tr wa wb_ fi cd l0 l1 d0 d1 g0 g1 ln fl pl ft fk wt cr0_ inn0_ k10_ k20_ k30_ k40_ z0_ cr1_ inn1_ k11_ k21_ k31_ k41_ z1_ gg0_ q10_ q20_ wg0_ gg1_ q11_ q21_ wg1_ laA mdA wyA pc_A f1A f2A f3A f4A f5A f6A n4A wwA laB mdB wyB pc_B f1B f2B f3B f4B f5B f6B n4B wwB e0f e1f e2f e3f e4f e5f r1f m1f r2f wff i1 i2 ht (by first | with_reducible assumption | with_reducible rfl | omega | assumption | rfl) hz0_ (by first | with_reducible assumption | with_reducible rfl | omega | assumption | rfl) hz1_ (by first | with_reducible assumption | with_reducible rfl | omega | assumption | rfl) hg0_ hg1_ hwwA (by first | with_reducible assumption | with_reducible rfl | omega | assumption | rfl) (by first | with_reducible assumption | with_reducible rfl | omega | assumption | rfl) (by first | with_reducible assumption | with_reducible rfl | omega | assumption | rfl) hwwB (by first | with_reducible assumption | with_reducible rfl | omega | assumption | rfl) (by first | with_reducible assumption | with_reducible rfl | omega | assumption | rfl) (by first | with_reducible assumption | with_reducible rfl | omega | assumption | rfl) hwff hfw hf3 hFI) (kV_RX11_302 C.2.2.2.2 (Nat.le_of_ble_eq_true rfl) (Nat.le_of_ble_eq_true rfl)) [0, 8, 1, 2, 3, 4, 5, 6, 7] [] rfl rfl (ci := 10) (qc := (RX11, TX11, 11)) rfl rfl (List.mem_flatten.mpr ⟨_, List.mem_of_getElem? (i := 0) rfl, List.mem_cons_self⟩) rfl rfl hl.1 dX11_odds_13 (by show _ + 4 ≤ 7; omega) (by show _ + (6 * (zNA (i1.toInt = 0 ∧ 0 < (fk 0).toInt ∧ (0 ≤ i2.toInt ∧ i2.toInt < (fk 2).toInt ∧ i2.toInt < 2) ∧ (e0f.toInt = 0 ∨ ¬ e1f.toInt = i1.toInt ∨ ¬ e2f.toInt = i2.toInt)) mdA n4A (zPl cr0_ inn0_ k10_) - n4A) + 6 * (zNA (i1.toInt = 1 ∧ 1 < (fk 0).toInt ∧ (0 ≤ i2.toInt ∧ i2.toInt < (fk 2).toInt ∧ i2.toInt < 2) ∧ (e0f.toInt = 0 ∨ ¬ e1f.toInt = i1.toInt ∨ ¬ e2f.toInt = i2.toInt)) mdB n4B (zPl cr1_ inn1_ k11_) - n4B) + 2 * (zNF (i1.toInt = 1 ∧ 1 < (fk 0).toInt ∧ (0 ≤ i2.toInt ∧ i2.toInt < (fk 2).toInt ∧ i2.toInt < 2) ∧ (e0f.toInt = 0 ∨ ¬ e1f.toInt = i1.toInt ∨ ¬ e2f.toInt = i2.toInt)) (zNF (i1.toInt = 0 ∧ 0 < (fk 0).toInt ∧ (0 ≤ i2.toInt ∧ i2.toInt < (fk 2).toInt ∧ i2.toInt < 2) ∧ (e0f.toInt = 0 ∨ ¬ e1f.toInt = i1.toInt ∨ ¬ e2f.toInt = i2.toInt)) m1f (zMw mdA wyA cr0_ inn0_ k10_)) (zMw mdB wyB cr1_ inn1_ k11_) - m1f)) ≤ 6 * (zNA (i1.toInt = 0 ∧ 0 < (fk 0).toInt ∧ (0 ≤ i2.toInt ∧ i2.toInt < (fk 2).toInt ∧ i2.toInt < 2) ∧ (e0f.toInt = 0 ∨ ¬ e1f.toInt = i1.toInt ∨ ¬ e2f.toInt = i2.toInt)) mdA n4A (zPl cr0_ inn0_ k10_) - n4A) + 6 * (zNA (i1.toInt = 1 ∧ 1 < (fk 0).toInt ∧ (0 ≤ i2.toInt ∧ i2.toInt < (fk 2).toInt ∧ i2.toInt < 2) ∧ (e0f.toInt = 0 ∨ ¬ e1f.toInt = i1.toInt ∨ ¬ e2f.toInt = i2.toInt)) mdB n4B (zPl cr1_ inn1_ k11_) - n4B) + 2 * (zNF (i1.toInt = 1 ∧ 1 < (fk 0).toInt ∧ (0 ≤ i2.toInt ∧ i2.toInt < (fk 2).toInt ∧ i2.toInt < 2) ∧ (e0f.toInt = 0 ∨ ¬ e1f.toInt = i1.toInt ∨ ¬ e2f.toInt = i2.toInt)) (zNF (i1.toInt = 0 ∧ 0 < (fk 0).toInt ∧ (0 ≤ i2.toInt ∧ i2.toInt < (fk 2).toInt ∧ i2.toInt < 2) ∧ (e0f.toInt = 0 ∨ ¬ e1f.toInt = i1.toInt ∨ ¬ e2f.toInt = i2.toInt)) m1f (zMw mdA wyA cr0_ inn0_ k10_)) (zMw mdB wyB cr1_ inn1_ k11_) - m1f); omega) (fun r_60 b1 H locs hw G => ?_)
    refine zEx34 hw ?_
    intro laA_8 mdA_9 wyA_10 pc_A_11 f1A_12 f2A_13 f3A_14 f4A_15 f5A_16 f6A_17 n4A_18 wwA_19 laB_20 mdB_21 wyB_22 pc_B_23 f1B_24 f2B_25 f3B_26 f4B_27 f5B_28 f6B_29 n4B_30 wwB_31 e0f_32 e1f_33 e2f_34 e3f_35 e4f_36 e5f_37 r1f_38 m1f_39 r2f_40 wff_41
    refine zCu19 ?_
    intro hbs9 h_42 h_43 h_44 h_45 h_46 h_47 h_48 h_49 h_50 h_51 h_52 h_53 h_54 h_55 h_56 h_57 h_58 h_59
    clear hw
    subst hbs9
    have G : zS T A s.heap s [[(xo, .inr (10, [.ref t, .ref im, .ref mk, .ref rd, .ref po, .ref co, .ref tr, .ref wa, .ref wb_, .ref fi, .ref cd]))], wt, z0_, z1_, wg0_, wg1_, wwA_19, wwB_31, wff_41] _ _ := G
    replace h_43 : zHd ((mdA_9 = 0 ∨ laA_8 = l0)) := h_43
    replace h_47 : zHd ((¬ mdA = 0 → ¬ mdA_9 = 0)) := h_47
    replace h_49 : zHd ((mdB_21 = 0 ∨ laB_20 = l1)) := h_49
    replace h_53 : zHd ((¬ mdB = 0 → ¬ mdB_21 = 0)) := h_53
    replace h_59 : zHd ((¬ e0f_32 = 0 → e1f_33.toInt = 0 ∧ ¬ mdA_9 = 0 ∨ e1f_33.toInt = 1 ∧ ¬ mdB_21 = 0)) := h_59
    have hfm9 : m1f_39 ≤ 16384 := zFw_le h_56
    refine lv_if_eq (tgt := 40) hx hb dX11_odds_16 (by decide) (fun c_61 => ?_) (fun c_61 => ?_)
    · have c_61n : r_60.toInt = (0 : Int) := (fa_eq _ _).mp c_61
      refine lv_iconst (v := (-1)) hx hb dX11_odds_40 (by decide) ?_
      exact z_iret C hr hlocks G (by omega) (by omega) dX11_odds_41 ⟨laA_8, mdA_9, wyA_10, pc_A_11, f1A_12, f2A_13, f3A_14, f4A_15, f5A_16, f6A_17, n4A_18, wwA_19, laB_20, mdB_21, wyB_22, pc_B_23, f1B_24, f2B_25, f3B_26, f4B_27, f5B_28, f6B_29, n4B_30, wwB_31, e0f_32, e1f_33, e2f_34, e3f_35, e4f_36, e5f_37, r1f_38, m1f_39, r2f_40, wff_41, rfl, h_42, h_43, h_44, h_45, h_46, h_47, h_48, h_49, h_50, h_51, h_52, h_53, h_54, h_55, h_56, h_57, h_59⟩
    · have c_61n : ¬ r_60.toInt = (0 : Int) := fun q => c_61 ((fa_eq _ _).mpr q)
      refine lv_aloadN hx hb dX11_odds_19 (lv_at hl 0 rfl) ?_
      refine lv_ifnullN (tgt := 40) hx hb dX11_odds_21 (by decide) ?_
      refine lv_iconst (v := (-1)) hx hb dX11_odds_40 (by decide) ?_
      exact z_iret C hr hlocks G (by omega) (by omega) dX11_odds_41 ⟨laA_8, mdA_9, wyA_10, pc_A_11, f1A_12, f2A_13, f3A_14, f4A_15, f5A_16, f6A_17, n4A_18, wwA_19, laB_20, mdB_21, wyB_22, pc_B_23, f1B_24, f2B_25, f3B_26, f4B_27, f5B_28, f6B_29, n4B_30, wwB_31, e0f_32, e1f_33, e2f_34, e3f_35, e4f_36, e5f_37, r1f_38, m1f_39, r2f_40, wff_41, rfl, h_42, h_43, h_44, h_45, h_46, h_47, h_48, h_49, h_50, h_51, h_52, h_53, h_54, h_55, h_56, h_57, h_59⟩
  · have h_4 : i1.toInt = 0 := h_4
    have h_5 : 0 < (fk 0).toInt := h_5
    refine lv_astore (lv' := [(6, .ref l0), (0, .ref xo), (1, .int i1), (2, .int i2), (3, .int a_), (4, .int b_), (5, .int w_)]) hx hb dX11_odds_8 hl (by decide) rfl (fun ls hl => ?_)
    refine lv_aload_n hx hb dX11_odds_10 rfl (lv_at hl 1 rfl) ?_
    refine lv_iload_n hx hb dX11_odds_11 rfl (lv_at hl 2 rfl) ?_
    refine lv_iload_n hx hb dX11_odds_12 rfl (lv_at hl 3 rfl) ?_
    refine z_Vi (bc := [[(xo, .inr (10, [.ref t, .ref im, .ref mk, .ref rd, .ref po, .ref co, .ref tr, .ref wa, .ref wb_, .ref fi, .ref cd]))], wt, z0_, z1_, wg0_, wg1_, wwA, wwB, wff]) (br := []) (As := [.int i1, .int i2]) (rest := []) C G (c_fit l T xo t im mk rd po co tr wa wb_ fi cd l0 l1 d0 d1 g0 g1 ln fl pl ft fk wt cr0_ inn0_ k10_ k20_ k30_ k40_ z0_ cr1_ inn1_ k11_ k21_ k31_ k41_ z1_ gg0_ q10_ q20_ wg0_ gg1_ q11_ q21_ wg1_ laA mdA wyA pc_A f1A f2A f3A f4A f5A f6A n4A wwA laB mdB wyB pc_B f1B f2B f3B f4B f5B f6B n4B wwB e0f e1f e2f e3f e4f e5f r1f m1f r2f wff i1 i2 ht (by first | with_reducible assumption | with_reducible rfl | omega | assumption | rfl) hz0_ (by first | with_reducible assumption | with_reducible rfl | omega | assumption | rfl) hz1_ (by first | with_reducible assumption | with_reducible rfl | omega | assumption | rfl) hg0_ hg1_ hwwA (by first | with_reducible assumption | with_reducible rfl | omega | assumption | rfl) (by first | with_reducible assumption | with_reducible rfl | omega | assumption | rfl) (by first | with_reducible assumption | with_reducible rfl | omega | assumption | rfl) hwwB (by first | with_reducible assumption | with_reducible rfl | omega | assumption | rfl) (by first | with_reducible assumption | with_reducible rfl | omega | assumption | rfl) (by first | with_reducible assumption | with_reducible rfl | omega | assumption | rfl) hwff hfw hf3 hFI) (kV_RX11_302 C.2.2.2.2 (Nat.le_of_ble_eq_true rfl) (Nat.le_of_ble_eq_true rfl)) [0, 8, 1, 2, 3, 4, 5, 6, 7] [] rfl rfl (ci := 10) (qc := (RX11, TX11, 11)) rfl rfl (List.mem_flatten.mpr ⟨_, List.mem_of_getElem? (i := 0) rfl, List.mem_cons_self⟩) rfl rfl hl.1 dX11_odds_13 (by show _ + 4 ≤ 7; omega) (by show _ + (6 * (zNA (i1.toInt = 0 ∧ 0 < (fk 0).toInt ∧ (0 ≤ i2.toInt ∧ i2.toInt < (fk 2).toInt ∧ i2.toInt < 2) ∧ (e0f.toInt = 0 ∨ ¬ e1f.toInt = i1.toInt ∨ ¬ e2f.toInt = i2.toInt)) mdA n4A (zPl cr0_ inn0_ k10_) - n4A) + 6 * (zNA (i1.toInt = 1 ∧ 1 < (fk 0).toInt ∧ (0 ≤ i2.toInt ∧ i2.toInt < (fk 2).toInt ∧ i2.toInt < 2) ∧ (e0f.toInt = 0 ∨ ¬ e1f.toInt = i1.toInt ∨ ¬ e2f.toInt = i2.toInt)) mdB n4B (zPl cr1_ inn1_ k11_) - n4B) + 2 * (zNF (i1.toInt = 1 ∧ 1 < (fk 0).toInt ∧ (0 ≤ i2.toInt ∧ i2.toInt < (fk 2).toInt ∧ i2.toInt < 2) ∧ (e0f.toInt = 0 ∨ ¬ e1f.toInt = i1.toInt ∨ ¬ e2f.toInt = i2.toInt)) (zNF (i1.toInt = 0 ∧ 0 < (fk 0).toInt ∧ (0 ≤ i2.toInt ∧ i2.toInt < (fk 2).toInt ∧ i2.toInt < 2) ∧ (e0f.toInt = 0 ∨ ¬ e1f.toInt = i1.toInt ∨ ¬ e2f.toInt = i2.toInt)) m1f (zMw mdA wyA cr0_ inn0_ k10_)) (zMw mdB wyB cr1_ inn1_ k11_) - m1f)) ≤ 6 * (zNA (i1.toInt = 0 ∧ 0 < (fk 0).toInt ∧ (0 ≤ i2.toInt ∧ i2.toInt < (fk 2).toInt ∧ i2.toInt < 2) ∧ (e0f.toInt = 0 ∨ ¬ e1f.toInt = i1.toInt ∨ ¬ e2f.toInt = i2.toInt)) mdA n4A (zPl cr0_ inn0_ k10_) - n4A) + 6 * (zNA (i1.toInt = 1 ∧ 1 < (fk 0).toInt ∧ (0 ≤ i2.toInt ∧ i2.toInt < (fk 2).toInt ∧ i2.toInt < 2) ∧ (e0f.toInt = 0 ∨ ¬ e1f.toInt = i1.toInt ∨ ¬ e2f.toInt = i2.toInt)) mdB n4B (zPl cr1_ inn1_ k11_) - n4B) + 2 * (zNF (i1.toInt = 1 ∧ 1 < (fk 0).toInt ∧ (0 ≤ i2.toInt ∧ i2.toInt < (fk 2).toInt ∧ i2.toInt < 2) ∧ (e0f.toInt = 0 ∨ ¬ e1f.toInt = i1.toInt ∨ ¬ e2f.toInt = i2.toInt)) (zNF (i1.toInt = 0 ∧ 0 < (fk 0).toInt ∧ (0 ≤ i2.toInt ∧ i2.toInt < (fk 2).toInt ∧ i2.toInt < 2) ∧ (e0f.toInt = 0 ∨ ¬ e1f.toInt = i1.toInt ∨ ¬ e2f.toInt = i2.toInt)) m1f (zMw mdA wyA cr0_ inn0_ k10_)) (zMw mdB wyB cr1_ inn1_ k11_) - m1f); omega) (fun r_114 b1 H locs hw G => ?_)
    refine zEx34 hw ?_
    intro laA_62 mdA_63 wyA_64 pc_A_65 f1A_66 f2A_67 f3A_68 f4A_69 f5A_70 f6A_71 n4A_72 wwA_73 laB_74 mdB_75 wyB_76 pc_B_77 f1B_78 f2B_79 f3B_80 f4B_81 f5B_82 f6B_83 n4B_84 wwB_85 e0f_86 e1f_87 e2f_88 e3f_89 e4f_90 e5f_91 r1f_92 m1f_93 r2f_94 wff_95
    refine zCu19 ?_
    intro hbs9 h_96 h_97 h_98 h_99 h_100 h_101 h_102 h_103 h_104 h_105 h_106 h_107 h_108 h_109 h_110 h_111 h_112 h_113
    clear hw
    subst hbs9
    have G : zS T A s.heap s [[(xo, .inr (10, [.ref t, .ref im, .ref mk, .ref rd, .ref po, .ref co, .ref tr, .ref wa, .ref wb_, .ref fi, .ref cd]))], wt, z0_, z1_, wg0_, wg1_, wwA_73, wwB_85, wff_95] _ _ := G
    replace h_97 : zHd ((mdA_63 = 0 ∨ laA_62 = l0)) := h_97
    replace h_101 : zHd ((¬ mdA = 0 → ¬ mdA_63 = 0)) := h_101
    replace h_103 : zHd ((mdB_75 = 0 ∨ laB_74 = l1)) := h_103
    replace h_107 : zHd ((¬ mdB = 0 → ¬ mdB_75 = 0)) := h_107
    replace h_113 : zHd ((¬ e0f_86 = 0 → e1f_87.toInt = 0 ∧ ¬ mdA_63 = 0 ∨ e1f_87.toInt = 1 ∧ ¬ mdB_75 = 0)) := h_113
    have hfm9 : m1f_93 ≤ 16384 := zFw_le h_110
    refine lv_if_eq (tgt := 40) hx hb dX11_odds_16 (by decide) (fun c_115 => ?_) (fun c_115 => ?_)
    · have c_115n : r_114.toInt = (0 : Int) := (fa_eq _ _).mp c_115
      refine lv_iconst (v := (-1)) hx hb dX11_odds_40 (by decide) ?_
      exact z_iret C hr hlocks G (by omega) (by omega) dX11_odds_41 ⟨laA_62, mdA_63, wyA_64, pc_A_65, f1A_66, f2A_67, f3A_68, f4A_69, f5A_70, f6A_71, n4A_72, wwA_73, laB_74, mdB_75, wyB_76, pc_B_77, f1B_78, f2B_79, f3B_80, f4B_81, f5B_82, f6B_83, n4B_84, wwB_85, e0f_86, e1f_87, e2f_88, e3f_89, e4f_90, e5f_91, r1f_92, m1f_93, r2f_94, wff_95, rfl, h_96, h_97, h_98, h_99, h_100, h_101, h_102, h_103, h_104, h_105, h_106, h_107, h_108, h_109, h_110, h_111, h_113⟩
    · have c_115n : ¬ r_114.toInt = (0 : Int) := fun q => c_115 ((fa_eq _ _).mpr q)
      refine lv_aload hx hb dX11_odds_19 (lv_at hl 0 rfl) ?_
      refine lv_ifnull hx hb dX11_odds_21 ?_
      refine lv_iload hx hb dX11_odds_24 (lv_at hl 5 rfl) ?_
      refine lv_if_lt (tgt := 40) hx hb dX11_odds_26 (by decide) (fun c_116 => ?_) (fun c_116 => ?_)
      · have c_116n : b_.toInt < (0 : Int) := (fa_lt _ _).mp c_116
        refine lv_iconst (v := (-1)) hx hb dX11_odds_40 (by decide) ?_
        exact z_iret C hr hlocks G (by omega) (by omega) dX11_odds_41 ⟨laA_62, mdA_63, wyA_64, pc_A_65, f1A_66, f2A_67, f3A_68, f4A_69, f5A_70, f6A_71, n4A_72, wwA_73, laB_74, mdB_75, wyB_76, pc_B_77, f1B_78, f2B_79, f3B_80, f4B_81, f5B_82, f6B_83, n4B_84, wwB_85, e0f_86, e1f_87, e2f_88, e3f_89, e4f_90, e5f_91, r1f_92, m1f_93, r2f_94, wff_95, rfl, h_96, h_97, h_98, h_99, h_100, h_101, h_102, h_103, h_104, h_105, h_106, h_107, h_108, h_109, h_110, h_111, h_113⟩
      · have c_116n : ¬ b_.toInt < (0 : Int) := fun q => c_116 ((fa_lt _ _).mpr q)
        refine lv_iload hx hb dX11_odds_29 (lv_at hl 5 rfl) ?_
        refine lv_aload hx hb dX11_odds_31 (lv_at hl 0 rfl) ?_
        refine lv_iload_n hx hb dX11_odds_33 rfl (lv_at hl 4 rfl) ?_
        refine z_Vi (bc := [z0_]) (br := [[(xo, .inr (10, [.ref t, .ref im, .ref mk, .ref rd, .ref po, .ref co, .ref tr, .ref wa, .ref wb_, .ref fi, .ref cd]))], wt, z1_, wg0_, wg1_, wwA_73, wwB_85, wff_95]) (As := [.int a_]) (rest := [.int b_]) C G (c_waysOut l T l0 cr0_ inn0_ k10_ k20_ k30_ k40_ z0_ a_ hz0_) (kV_RX11_221 C.2.2.2.2 (Nat.le_of_ble_eq_true rfl) (Nat.le_of_ble_eq_true rfl)) [2] [0, 1, 3, 4, 5, 6, 7, 8] rfl rfl (ci := 4) (qc := (RX4, TX4, 6)) rfl rfl (List.mem_flatten.mpr ⟨_, List.mem_of_getElem? (i := 0) rfl, (bLand_mem hz0_).choose_spec⟩) rfl rfl hl.1 dX11_odds_34 (by show _ + 0 ≤ 7; omega) (by show _ + 0 ≤ 6 * (zNA (i1.toInt = 0 ∧ 0 < (fk 0).toInt ∧ (0 ≤ i2.toInt ∧ i2.toInt < (fk 2).toInt ∧ i2.toInt < 2) ∧ (e0f.toInt = 0 ∨ ¬ e1f.toInt = i1.toInt ∨ ¬ e2f.toInt = i2.toInt)) mdA n4A (zPl cr0_ inn0_ k10_) - n4A) + 6 * (zNA (i1.toInt = 1 ∧ 1 < (fk 0).toInt ∧ (0 ≤ i2.toInt ∧ i2.toInt < (fk 2).toInt ∧ i2.toInt < 2) ∧ (e0f.toInt = 0 ∨ ¬ e1f.toInt = i1.toInt ∨ ¬ e2f.toInt = i2.toInt)) mdB n4B (zPl cr1_ inn1_ k11_) - n4B) + 2 * (zNF (i1.toInt = 1 ∧ 1 < (fk 0).toInt ∧ (0 ≤ i2.toInt ∧ i2.toInt < (fk 2).toInt ∧ i2.toInt < 2) ∧ (e0f.toInt = 0 ∨ ¬ e1f.toInt = i1.toInt ∨ ¬ e2f.toInt = i2.toInt)) (zNF (i1.toInt = 0 ∧ 0 < (fk 0).toInt ∧ (0 ≤ i2.toInt ∧ i2.toInt < (fk 2).toInt ∧ i2.toInt < 2) ∧ (e0f.toInt = 0 ∨ ¬ e1f.toInt = i1.toInt ∨ ¬ e2f.toInt = i2.toInt)) m1f (zMw mdA wyA cr0_ inn0_ k10_)) (zMw mdB wyB cr1_ inn1_ k11_) - m1f); omega) (fun r_118 b1 H locs hw G => ?_)
        refine zAn2 hw ?_
        intro hbs9 h_117
        clear hw
        subst hbs9
        have G : zS T A s.heap s [[(xo, .inr (10, [.ref t, .ref im, .ref mk, .ref rd, .ref po, .ref co, .ref tr, .ref wa, .ref wb_, .ref fi, .ref cd]))], wt, z1_, wg0_, wg1_, wwA_73, wwB_85, wff_95, z0_] _ _ := G
        subst h_117
        refine lv_icmp_lt (tgt := 42) hx hb dX11_odds_37 (by decide) (fun c_119 => ?_) (fun c_119 => ?_)
        · have c_119n : b_.toInt < (zWays cr0_ inn0_ k10_ a_).toInt := (fa_lt _ _).mp c_119
          refine lv_aload_n hx hb dX11_odds_42 rfl (lv_at hl 1 rfl) ?_
          refine z_get C G clX11 0 rfl 9 (by decide) m_fl_RX11_65 rfl dX11_odds_43 ?_
          refine zEx2 h_108 ?_
          intro a1_120 a2_121 hbs9
          clear h_108
          subst hbs9
          have G : zS T A s.heap s [[(xo, .inr (10, [.ref t, .ref im, .ref mk, .ref rd, .ref po, .ref co, .ref tr, .ref wa, .ref wb_, .ref fi, .ref cd]))], wt, z1_, wg0_, wg1_, wwA_73, wwB_85, [(fi, .inr (3, [.int e0f_86, .int e1f_87, .int e2f_88, .int e3f_89, .int e4f_90, .int e5f_91, .ref a1_120, .ref a2_121]))], [(a1_120, .inl (T.2 0, m1f_93, .inl r1f_92))], [(a2_121, .inl (T.2 0, 7, .inl r2f_94))], z0_] _ _ := G.re rfl
          refine z_get C G clX3 7 rfl 3 (by decide) m_fl_RX11_306 rfl dX11_odds_46 ?_
          refine lv_if_ne (tgt := 54) hx hb dX11_odds_49 (by decide) (fun c_122 => ?_) (fun c_122 => ?_)
          · have c_122n : ¬ e3f_89.toInt = (0 : Int) := fun q => c_122 ((fa_eq _ _).mpr q)
            refine lv_aload_n hx hb dX11_odds_54 rfl (lv_at hl 1 rfl) ?_
            refine z_get C G clX11 0 rfl 9 (by decide) m_fl_RX11_65 rfl dX11_odds_55 ?_
            refine lv_aload_n hx hb dX11_odds_58 rfl (lv_at hl 1 rfl) ?_
            refine lv_iload_n hx hb dX11_odds_59 rfl (lv_at hl 2 rfl) ?_
            refine lv_aload hx hb dX11_odds_60 (lv_at hl 0 rfl) ?_
            have hX := h_112.resolve_left (fun q => absurd (congrArg Int32.toInt q.1) (by show ¬ _ = (0 : Int); omega))
            have hmk : ¬ mdA_63 = 0 := (h_113 hX.2.2.1).elim (fun q => q.2) (fun q => absurd q.1 (by have := hX.2.2.2; omega))
            have hzk : zMk mdA_63 n4A_72 (zPl cr0_ inn0_ k10_) = n4A_72 := by unfold zMk; rw [if_neg hmk]
            have hn9 : zMk mdA_63 n4A_72 (zPl cr0_ inn0_ k10_) ≤ 131072 := by rw [hzk]; exact zPw_le h_100
            refine z_Vq (bc := [[(xo, .inr (10, [.ref t, .ref im, .ref mk, .ref rd, .ref po, .ref co, .ref tr, .ref wa, .ref wb_, .ref fi, .ref cd]))], wwA_73, z0_]) (br := [wt, z1_, wg0_, wg1_, wwB_85, [(fi, .inr (3, [.int e0f_86, .int e1f_87, .int e2f_88, .int e3f_89, .int e4f_90, .int e5f_91, .ref a1_120, .ref a2_121]))], [(a1_120, .inl (T.2 0, m1f_93, .inl r1f_92))], [(a2_121, .inl (T.2 0, 7, .inl r2f_94))]]) (As := [.int i1, .ref l0]) (rest := [.ref fi]) C G (c_waysInA l T xo t im mk rd po co tr wa wb_ fi cd i1 laA_62 mdA_63 wyA_64 pc_A_65 f1A_66 f2A_67 f3A_68 f4A_69 f5A_70 f6A_71 n4A_72 wwA_73 l0 cr0_ inn0_ k10_ k20_ k30_ k40_ z0_ h_96 hz0_ hI0_ h_100 h_97 h_98 (by omega)) (kV_RX11_235 C.2.2.2.2 (Nat.le_of_ble_eq_true rfl) (Nat.le_of_ble_eq_true rfl)) [0, 5, 10] [1, 2, 3, 4, 6, 7, 8, 9] rfl rfl (ci := 10) (qc := (RX11, TX11, 11)) rfl rfl (List.mem_flatten.mpr ⟨_, List.mem_of_getElem? (i := 0) rfl, List.mem_cons_self⟩) rfl rfl hl.1 dX11_odds_62 (by show _ + 3 ≤ 7; omega) (by show _ + (6 * (zMk mdA_63 n4A_72 (zPl cr0_ inn0_ k10_) - n4A_72)) ≤ 6 * (zNA (i1.toInt = 0 ∧ 0 < (fk 0).toInt ∧ (0 ≤ i2.toInt ∧ i2.toInt < (fk 2).toInt ∧ i2.toInt < 2) ∧ (e0f.toInt = 0 ∨ ¬ e1f.toInt = i1.toInt ∨ ¬ e2f.toInt = i2.toInt)) mdA n4A (zPl cr0_ inn0_ k10_) - n4A) + 6 * (zNA (i1.toInt = 1 ∧ 1 < (fk 0).toInt ∧ (0 ≤ i2.toInt ∧ i2.toInt < (fk 2).toInt ∧ i2.toInt < 2) ∧ (e0f.toInt = 0 ∨ ¬ e1f.toInt = i1.toInt ∨ ¬ e2f.toInt = i2.toInt)) mdB n4B (zPl cr1_ inn1_ k11_) - n4B) + 2 * (zNF (i1.toInt = 1 ∧ 1 < (fk 0).toInt ∧ (0 ≤ i2.toInt ∧ i2.toInt < (fk 2).toInt ∧ i2.toInt < 2) ∧ (e0f.toInt = 0 ∨ ¬ e1f.toInt = i1.toInt ∨ ¬ e2f.toInt = i2.toInt)) (zNF (i1.toInt = 0 ∧ 0 < (fk 0).toInt ∧ (0 ≤ i2.toInt ∧ i2.toInt < (fk 2).toInt ∧ i2.toInt < 2) ∧ (e0f.toInt = 0 ∨ ¬ e1f.toInt = i1.toInt ∨ ¬ e2f.toInt = i2.toInt)) m1f (zMw mdA wyA cr0_ inn0_ k10_)) (zMw mdB wyB cr1_ inn1_ k11_) - m1f); omega) (fun r_137 b1 H locs hw G => ?_)
            refine zEx9 hw ?_
            intro w2_123 m2_124 wy2_125 pc2_126 g1_127 g2_128 g4_129 g5_130 g6_131
            refine zCu6 ?_
            intro hbs9 h_132 h_133 h_134 h_135 h_136
            clear hw
            subst hbs9
            have G : zS T A s.heap s [wt, z1_, wg0_, wg1_, wwB_85, [(fi, .inr (3, [.int e0f_86, .int e1f_87, .int e2f_88, .int e3f_89, .int e4f_90, .int e5f_91, .ref a1_120, .ref a2_121]))], [(a1_120, .inl (T.2 0, m1f_93, .inl r1f_92))], [(a2_121, .inl (T.2 0, 7, .inl r2f_94))], [(xo, .inr (10, [.ref t, .ref im, .ref mk, .ref rd, .ref po, .ref co, .ref tr, .ref wa, .ref wb_, .ref fi, .ref cd]))], w2_123, z0_] _ _ := G
            subst h_132
            have hwy9 := h_134
            refine lv_iload_n hx hb dX11_odds_65 rfl (lv_at hl 4 rfl) ?_
            refine lv_iload hx hb dX11_odds_66 (lv_at hl 5 rfl) ?_
            have hw_138 : bFit T fi e0f_86 e1f_87 e2f_88 e3f_89 e4f_90 e5f_91 r1f_92 m1f_93 r2f_94 [(fi, .inr (3, [.int e0f_86, .int e1f_87, .int e2f_88, .int e3f_89, .int e4f_90, .int e5f_91, .ref a1_120, .ref a2_121])), (a1_120, .inl (T.2 0, m1f_93, .inl r1f_92)), (a2_121, .inl (T.2 0, 7, .inl r2f_94))] := ⟨a1_120, a2_121, rfl⟩
            have G : zS T A s.heap s [wt, z1_, wg0_, wg1_, wwB_85, [(fi, .inr (3, [.int e0f_86, .int e1f_87, .int e2f_88, .int e3f_89, .int e4f_90, .int e5f_91, .ref a1_120, .ref a2_121])), (a1_120, .inl (T.2 0, m1f_93, .inl r1f_92)), (a2_121, .inl (T.2 0, 7, .inl r2f_94))], [(xo, .inr (10, [.ref t, .ref im, .ref mk, .ref rd, .ref po, .ref co, .ref tr, .ref wa, .ref wb_, .ref fi, .ref cd]))], w2_123, z0_] _ _ := G.re rfl
            refine z_Vi (bc := [[(fi, .inr (3, [.int e0f_86, .int e1f_87, .int e2f_88, .int e3f_89, .int e4f_90, .int e5f_91, .ref a1_120, .ref a2_121])), (a1_120, .inl (T.2 0, m1f_93, .inl r1f_92)), (a2_121, .inl (T.2 0, 7, .inl r2f_94))], w2_123]) (br := [wt, z1_, wg0_, wg1_, wwB_85, [(xo, .inr (10, [.ref t, .ref im, .ref mk, .ref rd, .ref po, .ref co, .ref tr, .ref wa, .ref wb_, .ref fi, .ref cd]))], z0_]) (As := [.ref wa, .int a_, .int b_]) (rest := []) C G (c_pointing l T fi e0f_86 e1f_87 e2f_88 e3f_89 e4f_90 e5f_91 r1f_92 m1f_93 r2f_94 ([(fi, .inr (3, [.int e0f_86, .int e1f_87, .int e2f_88, .int e3f_89, .int e4f_90, .int e5f_91, .ref a1_120, .ref a2_121])), (a1_120, .inl (T.2 0, m1f_93, .inl r1f_92)), (a2_121, .inl (T.2 0, 7, .inl r2f_94))]) wa l0 m2_124 wy2_125 pc2_126 g1_127 g2_128 f3A_68 g4_129 g5_130 g6_131 (zMk mdA_63 n4A_72 (zPl cr0_ inn0_ k10_)) w2_123 a_ b_ hw_138 h_133 hfm9) (kV_RX11_320 C.2.2.2.2 (Nat.le_of_ble_eq_true rfl) (Nat.le_of_ble_eq_true rfl)) [5, 7] [0, 1, 2, 3, 4, 6, 8] rfl rfl (ci := 3) (qc := (RX3, TX3, 8)) rfl rfl (List.mem_flatten.mpr ⟨_, List.mem_of_getElem? (i := 0) rfl, (bFit_mem hw_138).choose_spec⟩) rfl rfl hl.1 dX11_odds_68 (by show _ + 0 ≤ 7; omega) (by show _ + 0 ≤ 6 * (zNA (i1.toInt = 0 ∧ 0 < (fk 0).toInt ∧ (0 ≤ i2.toInt ∧ i2.toInt < (fk 2).toInt ∧ i2.toInt < 2) ∧ (e0f.toInt = 0 ∨ ¬ e1f.toInt = i1.toInt ∨ ¬ e2f.toInt = i2.toInt)) mdA n4A (zPl cr0_ inn0_ k10_) - n4A) + 6 * (zNA (i1.toInt = 1 ∧ 1 < (fk 0).toInt ∧ (0 ≤ i2.toInt ∧ i2.toInt < (fk 2).toInt ∧ i2.toInt < 2) ∧ (e0f.toInt = 0 ∨ ¬ e1f.toInt = i1.toInt ∨ ¬ e2f.toInt = i2.toInt)) mdB n4B (zPl cr1_ inn1_ k11_) - n4B) + 2 * (zNF (i1.toInt = 1 ∧ 1 < (fk 0).toInt ∧ (0 ≤ i2.toInt ∧ i2.toInt < (fk 2).toInt ∧ i2.toInt < 2) ∧ (e0f.toInt = 0 ∨ ¬ e1f.toInt = i1.toInt ∨ ¬ e2f.toInt = i2.toInt)) (zNF (i1.toInt = 0 ∧ 0 < (fk 0).toInt ∧ (0 ≤ i2.toInt ∧ i2.toInt < (fk 2).toInt ∧ i2.toInt < 2) ∧ (e0f.toInt = 0 ∨ ¬ e1f.toInt = i1.toInt ∨ ¬ e2f.toInt = i2.toInt)) m1f (zMw mdA wyA cr0_ inn0_ k10_)) (zMw mdB wyB cr1_ inn1_ k11_) - m1f); omega) (fun r_139 b1 H locs hw G => ?_)
            obtain rfl := hw
            have G : zS T A s.heap s [wt, z1_, wg0_, wg1_, wwB_85, [(xo, .inr (10, [.ref t, .ref im, .ref mk, .ref rd, .ref po, .ref co, .ref tr, .ref wa, .ref wb_, .ref fi, .ref cd]))], z0_, [(fi, .inr (3, [.int e0f_86, .int e1f_87, .int e2f_88, .int e3f_89, .int e4f_90, .int e5f_91, .ref a1_120, .ref a2_121])), (a1_120, .inl (T.2 0, m1f_93, .inl r1f_92)), (a2_121, .inl (T.2 0, 7, .inl r2f_94))], w2_123] _ _ := G
            refine lv_istore (lv' := [(7, .int r_139), (6, .ref l0), (0, .ref xo), (1, .int i1), (2, .int i2), (3, .int a_), (4, .int b_), (5, .int w_)]) hx hb dX11_odds_71 hl (by decide) rfl (fun ls hl => ?_)
            refine lv_iload hx hb dX11_odds_73 (lv_at hl 0 rfl) ?_
            refine lv_aload_n hx hb dX11_odds_75 rfl (lv_at hl 2 rfl) ?_
            refine z_get C G clX11 5 rfl 9 (by decide) m_fl_RX11_65 rfl dX11_odds_76 ?_
            have G : zS T A s.heap s [wt, z1_, wg0_, wg1_, wwB_85, [(xo, .inr (10, [.ref t, .ref im, .ref mk, .ref rd, .ref po, .ref co, .ref tr, .ref wa, .ref wb_, .ref fi, .ref cd]))], z0_, [(fi, .inr (3, [.int e0f_86, .int e1f_87, .int e2f_88, .int e3f_89, .int e4f_90, .int e5f_91, .ref a1_120, .ref a2_121]))], [(a1_120, .inl (T.2 0, m1f_93, .inl r1f_92))], [(a2_121, .inl (T.2 0, 7, .inl r2f_94))], w2_123] _ _ := G.re rfl
            refine z_get C G clX3 7 rfl 3 (by decide) m_fl_RX11_306 rfl dX11_odds_79 ?_
            refine lv_iload hx hb dX11_odds_82 (lv_at hl 7 rfl) ?_
            refine z_Si (bc := []) (br := [wt, z1_, wg0_, wg1_, wwB_85, [(xo, .inr (10, [.ref t, .ref im, .ref mk, .ref rd, .ref po, .ref co, .ref tr, .ref wa, .ref wb_, .ref fi, .ref cd]))], z0_, [(fi, .inr (3, [.int e0f_86, .int e1f_87, .int e2f_88, .int e3f_89, .int e4f_90, .int e5f_91, .ref a1_120, .ref a2_121]))], [(a1_120, .inl (T.2 0, m1f_93, .inl r1f_92))], [(a2_121, .inl (T.2 0, 7, .inl r2f_94))], w2_123]) (As := [.int r_139, .int e3f_89, .int w_]) (rest := []) C G (c_inLeastTerms l T r_139 e3f_89 w_) (kS_RX11_262 C.2.2.2.2 (Nat.le_of_ble_eq_true rfl) (Nat.le_of_ble_eq_true rfl)) [] [0, 1, 2, 3, 4, 5, 6, 7, 8, 9, 10] rfl rfl rfl rfl hl.1 dX11_odds_84 (by show _ + 0 ≤ 7; omega) (by show _ + 0 ≤ 6 * (zNA (i1.toInt = 0 ∧ 0 < (fk 0).toInt ∧ (0 ≤ i2.toInt ∧ i2.toInt < (fk 2).toInt ∧ i2.toInt < 2) ∧ (e0f.toInt = 0 ∨ ¬ e1f.toInt = i1.toInt ∨ ¬ e2f.toInt = i2.toInt)) mdA n4A (zPl cr0_ inn0_ k10_) - n4A) + 6 * (zNA (i1.toInt = 1 ∧ 1 < (fk 0).toInt ∧ (0 ≤ i2.toInt ∧ i2.toInt < (fk 2).toInt ∧ i2.toInt < 2) ∧ (e0f.toInt = 0 ∨ ¬ e1f.toInt = i1.toInt ∨ ¬ e2f.toInt = i2.toInt)) mdB n4B (zPl cr1_ inn1_ k11_) - n4B) + 2 * (zNF (i1.toInt = 1 ∧ 1 < (fk 0).toInt ∧ (0 ≤ i2.toInt ∧ i2.toInt < (fk 2).toInt ∧ i2.toInt < 2) ∧ (e0f.toInt = 0 ∨ ¬ e1f.toInt = i1.toInt ∨ ¬ e2f.toInt = i2.toInt)) (zNF (i1.toInt = 0 ∧ 0 < (fk 0).toInt ∧ (0 ≤ i2.toInt ∧ i2.toInt < (fk 2).toInt ∧ i2.toInt < 2) ∧ (e0f.toInt = 0 ∨ ¬ e1f.toInt = i1.toInt ∨ ¬ e2f.toInt = i2.toInt)) m1f (zMw mdA wyA cr0_ inn0_ k10_)) (zMw mdB wyB cr1_ inn1_ k11_) - m1f); omega) (fun r_140 b1 H locs hw G => ?_)
            obtain rfl := hw
            have G : zS T A s.heap s [wt, z1_, wg0_, wg1_, wwB_85, [(xo, .inr (10, [.ref t, .ref im, .ref mk, .ref rd, .ref po, .ref co, .ref tr, .ref wa, .ref wb_, .ref fi, .ref cd]))], z0_, [(fi, .inr (3, [.int e0f_86, .int e1f_87, .int e2f_88, .int e3f_89, .int e4f_90, .int e5f_91, .ref a1_120, .ref a2_121]))], [(a1_120, .inl (T.2 0, m1f_93, .inl r1f_92))], [(a2_121, .inl (T.2 0, 7, .inl r2f_94))], w2_123] _ _ := G
            have hw_141 : bFit T fi e0f_86 e1f_87 e2f_88 e3f_89 e4f_90 e5f_91 r1f_92 m1f_93 r2f_94 [(fi, .inr (3, [.int e0f_86, .int e1f_87, .int e2f_88, .int e3f_89, .int e4f_90, .int e5f_91, .ref a1_120, .ref a2_121])), (a1_120, .inl (T.2 0, m1f_93, .inl r1f_92)), (a2_121, .inl (T.2 0, 7, .inl r2f_94))] := ⟨a1_120, a2_121, rfl⟩
            have G : zS T A s.heap s [wt, z1_, wg0_, wg1_, wwB_85, [(xo, .inr (10, [.ref t, .ref im, .ref mk, .ref rd, .ref po, .ref co, .ref tr, .ref wa, .ref wb_, .ref fi, .ref cd]))], z0_, [(fi, .inr (3, [.int e0f_86, .int e1f_87, .int e2f_88, .int e3f_89, .int e4f_90, .int e5f_91, .ref a1_120, .ref a2_121])), (a1_120, .inl (T.2 0, m1f_93, .inl r1f_92)), (a2_121, .inl (T.2 0, 7, .inl r2f_94))], w2_123] _ _ := G.re rfl
            have G := G.sub (bs' := [[(xo, .inr (10, [.ref t, .ref im, .ref mk, .ref rd, .ref po, .ref co, .ref tr, .ref wa, .ref wb_, .ref fi, .ref cd]))], wt, z0_, z1_, wg0_, wg1_, w2_123, wwB_85, [(fi, .inr (3, [.int e0f_86, .int e1f_87, .int e2f_88, .int e3f_89, .int e4f_90, .int e5f_91, .ref a1_120, .ref a2_121])), (a1_120, .inl (T.2 0, m1f_93, .inl r1f_92)), (a2_121, .inl (T.2 0, 7, .inl r2f_94))]]) [5, 0, 6, 1, 2, 3, 8, 4, 7] rfl
            exact z_iret C hr hlocks G (by omega) (by omega) dX11_odds_87 ⟨l0, m2_124, wy2_125, pc2_126, g1_127, g2_128, f3A_68, g4_129, g5_130, g6_131, (zMk mdA_63 n4A_72 (zPl cr0_ inn0_ k10_)), w2_123, laB_74, mdB_75, wyB_76, pc_B_77, f1B_78, f2B_79, f3B_80, f4B_81, f5B_82, f6B_83, n4B_84, wwB_85, e0f_86, e1f_87, e2f_88, e3f_89, e4f_90, e5f_91, r1f_92, m1f_93, r2f_94, ([(fi, .inr (3, [.int e0f_86, .int e1f_87, .int e2f_88, .int e3f_89, .int e4f_90, .int e5f_91, .ref a1_120, .ref a2_121])), (a1_120, .inl (T.2 0, m1f_93, .inl r1f_92)), (a2_121, .inl (T.2 0, 7, .inl r2f_94))]), rfl, h_133, (Or.inr rfl), hwy9, (hzk.trans h_99), (by rw [hzk]; exact h_100), (fun _ => h_136), h_102, h_103, h_104, h_105, h_106, h_107, hw_141, h_109, h_110, h_111, (fun q => (h_113 q).elim (fun w => Or.inl ⟨w.1, h_136⟩) (fun w => Or.inr ⟨w.1, w.2⟩))⟩
          · have c_122n : e3f_89.toInt = (0 : Int) := (fa_eq _ _).mp c_122
            refine lv_iconst (v := (-1)) hx hb dX11_odds_52 (by decide) ?_
            have hw_142 : bFit T fi e0f_86 e1f_87 e2f_88 e3f_89 e4f_90 e5f_91 r1f_92 m1f_93 r2f_94 [(fi, .inr (3, [.int e0f_86, .int e1f_87, .int e2f_88, .int e3f_89, .int e4f_90, .int e5f_91, .ref a1_120, .ref a2_121])), (a1_120, .inl (T.2 0, m1f_93, .inl r1f_92)), (a2_121, .inl (T.2 0, 7, .inl r2f_94))] := ⟨a1_120, a2_121, rfl⟩
            have G : zS T A s.heap s [[(xo, .inr (10, [.ref t, .ref im, .ref mk, .ref rd, .ref po, .ref co, .ref tr, .ref wa, .ref wb_, .ref fi, .ref cd]))], wt, z1_, wg0_, wg1_, wwA_73, wwB_85, [(fi, .inr (3, [.int e0f_86, .int e1f_87, .int e2f_88, .int e3f_89, .int e4f_90, .int e5f_91, .ref a1_120, .ref a2_121])), (a1_120, .inl (T.2 0, m1f_93, .inl r1f_92)), (a2_121, .inl (T.2 0, 7, .inl r2f_94))], z0_] _ _ := G.re rfl
            have G := G.sub (bs' := [[(xo, .inr (10, [.ref t, .ref im, .ref mk, .ref rd, .ref po, .ref co, .ref tr, .ref wa, .ref wb_, .ref fi, .ref cd]))], wt, z0_, z1_, wg0_, wg1_, wwA_73, wwB_85, [(fi, .inr (3, [.int e0f_86, .int e1f_87, .int e2f_88, .int e3f_89, .int e4f_90, .int e5f_91, .ref a1_120, .ref a2_121])), (a1_120, .inl (T.2 0, m1f_93, .inl r1f_92)), (a2_121, .inl (T.2 0, 7, .inl r2f_94))]]) [0, 1, 8, 2, 3, 4, 5, 6, 7] rfl
            exact z_iret C hr hlocks G (by omega) (by omega) dX11_odds_53 ⟨laA_62, mdA_63, wyA_64, pc_A_65, f1A_66, f2A_67, f3A_68, f4A_69, f5A_70, f6A_71, n4A_72, wwA_73, laB_74, mdB_75, wyB_76, pc_B_77, f1B_78, f2B_79, f3B_80, f4B_81, f5B_82, f6B_83, n4B_84, wwB_85, e0f_86, e1f_87, e2f_88, e3f_89, e4f_90, e5f_91, r1f_92, m1f_93, r2f_94, ([(fi, .inr (3, [.int e0f_86, .int e1f_87, .int e2f_88, .int e3f_89, .int e4f_90, .int e5f_91, .ref a1_120, .ref a2_121])), (a1_120, .inl (T.2 0, m1f_93, .inl r1f_92)), (a2_121, .inl (T.2 0, 7, .inl r2f_94))]), rfl, h_96, h_97, h_98, h_99, h_100, h_101, h_102, h_103, h_104, h_105, h_106, h_107, hw_142, h_109, h_110, h_111, h_113⟩
        · have c_119n : ¬ b_.toInt < (zWays cr0_ inn0_ k10_ a_).toInt := fun q => c_119 ((fa_lt _ _).mpr q)
          refine lv_iconst (v := (-1)) hx hb dX11_odds_40 (by decide) ?_
          have G := G.sub (bs' := [[(xo, .inr (10, [.ref t, .ref im, .ref mk, .ref rd, .ref po, .ref co, .ref tr, .ref wa, .ref wb_, .ref fi, .ref cd]))], wt, z0_, z1_, wg0_, wg1_, wwA_73, wwB_85, wff_95]) [0, 1, 8, 2, 3, 4, 5, 6, 7] rfl
          exact z_iret C hr hlocks G (by omega) (by omega) dX11_odds_41 ⟨laA_62, mdA_63, wyA_64, pc_A_65, f1A_66, f2A_67, f3A_68, f4A_69, f5A_70, f6A_71, n4A_72, wwA_73, laB_74, mdB_75, wyB_76, pc_B_77, f1B_78, f2B_79, f3B_80, f4B_81, f5B_82, f6B_83, n4B_84, wwB_85, e0f_86, e1f_87, e2f_88, e3f_89, e4f_90, e5f_91, r1f_92, m1f_93, r2f_94, wff_95, rfl, h_96, h_97, h_98, h_99, h_100, h_101, h_102, h_103, h_104, h_105, h_106, h_107, h_108, h_109, h_110, h_111, h_113⟩
  · have h_6 : i1.toInt = 1 := h_6
    have h_7 : 1 < (fk 0).toInt := h_7
    refine lv_astore (lv' := [(6, .ref l1), (0, .ref xo), (1, .int i1), (2, .int i2), (3, .int a_), (4, .int b_), (5, .int w_)]) hx hb dX11_odds_8 hl (by decide) rfl (fun ls hl => ?_)
    refine lv_aload_n hx hb dX11_odds_10 rfl (lv_at hl 1 rfl) ?_
    refine lv_iload_n hx hb dX11_odds_11 rfl (lv_at hl 2 rfl) ?_
    refine lv_iload_n hx hb dX11_odds_12 rfl (lv_at hl 3 rfl) ?_
    refine z_Vi (bc := [[(xo, .inr (10, [.ref t, .ref im, .ref mk, .ref rd, .ref po, .ref co, .ref tr, .ref wa, .ref wb_, .ref fi, .ref cd]))], wt, z0_, z1_, wg0_, wg1_, wwA, wwB, wff]) (br := []) (As := [.int i1, .int i2]) (rest := []) C G (c_fit l T xo t im mk rd po co tr wa wb_ fi cd l0 l1 d0 d1 g0 g1 ln fl pl ft fk wt cr0_ inn0_ k10_ k20_ k30_ k40_ z0_ cr1_ inn1_ k11_ k21_ k31_ k41_ z1_ gg0_ q10_ q20_ wg0_ gg1_ q11_ q21_ wg1_ laA mdA wyA pc_A f1A f2A f3A f4A f5A f6A n4A wwA laB mdB wyB pc_B f1B f2B f3B f4B f5B f6B n4B wwB e0f e1f e2f e3f e4f e5f r1f m1f r2f wff i1 i2 ht (by first | with_reducible assumption | with_reducible rfl | omega | assumption | rfl) hz0_ (by first | with_reducible assumption | with_reducible rfl | omega | assumption | rfl) hz1_ (by first | with_reducible assumption | with_reducible rfl | omega | assumption | rfl) hg0_ hg1_ hwwA (by first | with_reducible assumption | with_reducible rfl | omega | assumption | rfl) (by first | with_reducible assumption | with_reducible rfl | omega | assumption | rfl) (by first | with_reducible assumption | with_reducible rfl | omega | assumption | rfl) hwwB (by first | with_reducible assumption | with_reducible rfl | omega | assumption | rfl) (by first | with_reducible assumption | with_reducible rfl | omega | assumption | rfl) (by first | with_reducible assumption | with_reducible rfl | omega | assumption | rfl) hwff hfw hf3 hFI) (kV_RX11_302 C.2.2.2.2 (Nat.le_of_ble_eq_true rfl) (Nat.le_of_ble_eq_true rfl)) [0, 8, 1, 2, 3, 4, 5, 6, 7] [] rfl rfl (ci := 10) (qc := (RX11, TX11, 11)) rfl rfl (List.mem_flatten.mpr ⟨_, List.mem_of_getElem? (i := 0) rfl, List.mem_cons_self⟩) rfl rfl hl.1 dX11_odds_13 (by show _ + 4 ≤ 7; omega) (by show _ + (6 * (zNA (i1.toInt = 0 ∧ 0 < (fk 0).toInt ∧ (0 ≤ i2.toInt ∧ i2.toInt < (fk 2).toInt ∧ i2.toInt < 2) ∧ (e0f.toInt = 0 ∨ ¬ e1f.toInt = i1.toInt ∨ ¬ e2f.toInt = i2.toInt)) mdA n4A (zPl cr0_ inn0_ k10_) - n4A) + 6 * (zNA (i1.toInt = 1 ∧ 1 < (fk 0).toInt ∧ (0 ≤ i2.toInt ∧ i2.toInt < (fk 2).toInt ∧ i2.toInt < 2) ∧ (e0f.toInt = 0 ∨ ¬ e1f.toInt = i1.toInt ∨ ¬ e2f.toInt = i2.toInt)) mdB n4B (zPl cr1_ inn1_ k11_) - n4B) + 2 * (zNF (i1.toInt = 1 ∧ 1 < (fk 0).toInt ∧ (0 ≤ i2.toInt ∧ i2.toInt < (fk 2).toInt ∧ i2.toInt < 2) ∧ (e0f.toInt = 0 ∨ ¬ e1f.toInt = i1.toInt ∨ ¬ e2f.toInt = i2.toInt)) (zNF (i1.toInt = 0 ∧ 0 < (fk 0).toInt ∧ (0 ≤ i2.toInt ∧ i2.toInt < (fk 2).toInt ∧ i2.toInt < 2) ∧ (e0f.toInt = 0 ∨ ¬ e1f.toInt = i1.toInt ∨ ¬ e2f.toInt = i2.toInt)) m1f (zMw mdA wyA cr0_ inn0_ k10_)) (zMw mdB wyB cr1_ inn1_ k11_) - m1f)) ≤ 6 * (zNA (i1.toInt = 0 ∧ 0 < (fk 0).toInt ∧ (0 ≤ i2.toInt ∧ i2.toInt < (fk 2).toInt ∧ i2.toInt < 2) ∧ (e0f.toInt = 0 ∨ ¬ e1f.toInt = i1.toInt ∨ ¬ e2f.toInt = i2.toInt)) mdA n4A (zPl cr0_ inn0_ k10_) - n4A) + 6 * (zNA (i1.toInt = 1 ∧ 1 < (fk 0).toInt ∧ (0 ≤ i2.toInt ∧ i2.toInt < (fk 2).toInt ∧ i2.toInt < 2) ∧ (e0f.toInt = 0 ∨ ¬ e1f.toInt = i1.toInt ∨ ¬ e2f.toInt = i2.toInt)) mdB n4B (zPl cr1_ inn1_ k11_) - n4B) + 2 * (zNF (i1.toInt = 1 ∧ 1 < (fk 0).toInt ∧ (0 ≤ i2.toInt ∧ i2.toInt < (fk 2).toInt ∧ i2.toInt < 2) ∧ (e0f.toInt = 0 ∨ ¬ e1f.toInt = i1.toInt ∨ ¬ e2f.toInt = i2.toInt)) (zNF (i1.toInt = 0 ∧ 0 < (fk 0).toInt ∧ (0 ≤ i2.toInt ∧ i2.toInt < (fk 2).toInt ∧ i2.toInt < 2) ∧ (e0f.toInt = 0 ∨ ¬ e1f.toInt = i1.toInt ∨ ¬ e2f.toInt = i2.toInt)) m1f (zMw mdA wyA cr0_ inn0_ k10_)) (zMw mdB wyB cr1_ inn1_ k11_) - m1f); omega) (fun r_195 b1 H locs hw G => ?_)
    refine zEx34 hw ?_
    intro laA_143 mdA_144 wyA_145 pc_A_146 f1A_147 f2A_148 f3A_149 f4A_150 f5A_151 f6A_152 n4A_153 wwA_154 laB_155 mdB_156 wyB_157 pc_B_158 f1B_159 f2B_160 f3B_161 f4B_162 f5B_163 f6B_164 n4B_165 wwB_166 e0f_167 e1f_168 e2f_169 e3f_170 e4f_171 e5f_172 r1f_173 m1f_174 r2f_175 wff_176
    refine zCu19 ?_
    intro hbs9 h_177 h_178 h_179 h_180 h_181 h_182 h_183 h_184 h_185 h_186 h_187 h_188 h_189 h_190 h_191 h_192 h_193 h_194
    clear hw
    subst hbs9
    have G : zS T A s.heap s [[(xo, .inr (10, [.ref t, .ref im, .ref mk, .ref rd, .ref po, .ref co, .ref tr, .ref wa, .ref wb_, .ref fi, .ref cd]))], wt, z0_, z1_, wg0_, wg1_, wwA_154, wwB_166, wff_176] _ _ := G
    replace h_178 : zHd ((mdA_144 = 0 ∨ laA_143 = l0)) := h_178
    replace h_182 : zHd ((¬ mdA = 0 → ¬ mdA_144 = 0)) := h_182
    replace h_184 : zHd ((mdB_156 = 0 ∨ laB_155 = l1)) := h_184
    replace h_188 : zHd ((¬ mdB = 0 → ¬ mdB_156 = 0)) := h_188
    replace h_194 : zHd ((¬ e0f_167 = 0 → e1f_168.toInt = 0 ∧ ¬ mdA_144 = 0 ∨ e1f_168.toInt = 1 ∧ ¬ mdB_156 = 0)) := h_194
    have hfm9 : m1f_174 ≤ 16384 := zFw_le h_191
    refine lv_if_eq (tgt := 40) hx hb dX11_odds_16 (by decide) (fun c_196 => ?_) (fun c_196 => ?_)
    · have c_196n : r_195.toInt = (0 : Int) := (fa_eq _ _).mp c_196
      refine lv_iconst (v := (-1)) hx hb dX11_odds_40 (by decide) ?_
      exact z_iret C hr hlocks G (by omega) (by omega) dX11_odds_41 ⟨laA_143, mdA_144, wyA_145, pc_A_146, f1A_147, f2A_148, f3A_149, f4A_150, f5A_151, f6A_152, n4A_153, wwA_154, laB_155, mdB_156, wyB_157, pc_B_158, f1B_159, f2B_160, f3B_161, f4B_162, f5B_163, f6B_164, n4B_165, wwB_166, e0f_167, e1f_168, e2f_169, e3f_170, e4f_171, e5f_172, r1f_173, m1f_174, r2f_175, wff_176, rfl, h_177, h_178, h_179, h_180, h_181, h_182, h_183, h_184, h_185, h_186, h_187, h_188, h_189, h_190, h_191, h_192, h_194⟩
    · have c_196n : ¬ r_195.toInt = (0 : Int) := fun q => c_196 ((fa_eq _ _).mpr q)
      refine lv_aload hx hb dX11_odds_19 (lv_at hl 0 rfl) ?_
      refine lv_ifnull hx hb dX11_odds_21 ?_
      refine lv_iload hx hb dX11_odds_24 (lv_at hl 5 rfl) ?_
      refine lv_if_lt (tgt := 40) hx hb dX11_odds_26 (by decide) (fun c_197 => ?_) (fun c_197 => ?_)
      · have c_197n : b_.toInt < (0 : Int) := (fa_lt _ _).mp c_197
        refine lv_iconst (v := (-1)) hx hb dX11_odds_40 (by decide) ?_
        exact z_iret C hr hlocks G (by omega) (by omega) dX11_odds_41 ⟨laA_143, mdA_144, wyA_145, pc_A_146, f1A_147, f2A_148, f3A_149, f4A_150, f5A_151, f6A_152, n4A_153, wwA_154, laB_155, mdB_156, wyB_157, pc_B_158, f1B_159, f2B_160, f3B_161, f4B_162, f5B_163, f6B_164, n4B_165, wwB_166, e0f_167, e1f_168, e2f_169, e3f_170, e4f_171, e5f_172, r1f_173, m1f_174, r2f_175, wff_176, rfl, h_177, h_178, h_179, h_180, h_181, h_182, h_183, h_184, h_185, h_186, h_187, h_188, h_189, h_190, h_191, h_192, h_194⟩
      · have c_197n : ¬ b_.toInt < (0 : Int) := fun q => c_197 ((fa_lt _ _).mpr q)
        refine lv_iload hx hb dX11_odds_29 (lv_at hl 5 rfl) ?_
        refine lv_aload hx hb dX11_odds_31 (lv_at hl 0 rfl) ?_
        refine lv_iload_n hx hb dX11_odds_33 rfl (lv_at hl 4 rfl) ?_
        refine z_Vi (bc := [z1_]) (br := [[(xo, .inr (10, [.ref t, .ref im, .ref mk, .ref rd, .ref po, .ref co, .ref tr, .ref wa, .ref wb_, .ref fi, .ref cd]))], wt, z0_, wg0_, wg1_, wwA_154, wwB_166, wff_176]) (As := [.int a_]) (rest := [.int b_]) C G (c_waysOut l T l1 cr1_ inn1_ k11_ k21_ k31_ k41_ z1_ a_ hz1_) (kV_RX11_221 C.2.2.2.2 (Nat.le_of_ble_eq_true rfl) (Nat.le_of_ble_eq_true rfl)) [3] [0, 1, 2, 4, 5, 6, 7, 8] rfl rfl (ci := 4) (qc := (RX4, TX4, 6)) rfl rfl (List.mem_flatten.mpr ⟨_, List.mem_of_getElem? (i := 0) rfl, (bLand_mem hz1_).choose_spec⟩) rfl rfl hl.1 dX11_odds_34 (by show _ + 0 ≤ 7; omega) (by show _ + 0 ≤ 6 * (zNA (i1.toInt = 0 ∧ 0 < (fk 0).toInt ∧ (0 ≤ i2.toInt ∧ i2.toInt < (fk 2).toInt ∧ i2.toInt < 2) ∧ (e0f.toInt = 0 ∨ ¬ e1f.toInt = i1.toInt ∨ ¬ e2f.toInt = i2.toInt)) mdA n4A (zPl cr0_ inn0_ k10_) - n4A) + 6 * (zNA (i1.toInt = 1 ∧ 1 < (fk 0).toInt ∧ (0 ≤ i2.toInt ∧ i2.toInt < (fk 2).toInt ∧ i2.toInt < 2) ∧ (e0f.toInt = 0 ∨ ¬ e1f.toInt = i1.toInt ∨ ¬ e2f.toInt = i2.toInt)) mdB n4B (zPl cr1_ inn1_ k11_) - n4B) + 2 * (zNF (i1.toInt = 1 ∧ 1 < (fk 0).toInt ∧ (0 ≤ i2.toInt ∧ i2.toInt < (fk 2).toInt ∧ i2.toInt < 2) ∧ (e0f.toInt = 0 ∨ ¬ e1f.toInt = i1.toInt ∨ ¬ e2f.toInt = i2.toInt)) (zNF (i1.toInt = 0 ∧ 0 < (fk 0).toInt ∧ (0 ≤ i2.toInt ∧ i2.toInt < (fk 2).toInt ∧ i2.toInt < 2) ∧ (e0f.toInt = 0 ∨ ¬ e1f.toInt = i1.toInt ∨ ¬ e2f.toInt = i2.toInt)) m1f (zMw mdA wyA cr0_ inn0_ k10_)) (zMw mdB wyB cr1_ inn1_ k11_) - m1f); omega) (fun r_199 b1 H locs hw G => ?_)
        refine zAn2 hw ?_
        intro hbs9 h_198
        clear hw
        subst hbs9
        have G : zS T A s.heap s [[(xo, .inr (10, [.ref t, .ref im, .ref mk, .ref rd, .ref po, .ref co, .ref tr, .ref wa, .ref wb_, .ref fi, .ref cd]))], wt, z0_, wg0_, wg1_, wwA_154, wwB_166, wff_176, z1_] _ _ := G
        subst h_198
        refine lv_icmp_lt (tgt := 42) hx hb dX11_odds_37 (by decide) (fun c_200 => ?_) (fun c_200 => ?_)
        · have c_200n : b_.toInt < (zWays cr1_ inn1_ k11_ a_).toInt := (fa_lt _ _).mp c_200
          refine lv_aload_n hx hb dX11_odds_42 rfl (lv_at hl 1 rfl) ?_
          refine z_get C G clX11 0 rfl 9 (by decide) m_fl_RX11_65 rfl dX11_odds_43 ?_
          refine zEx2 h_189 ?_
          intro a1_201 a2_202 hbs9
          clear h_189
          subst hbs9
          have G : zS T A s.heap s [[(xo, .inr (10, [.ref t, .ref im, .ref mk, .ref rd, .ref po, .ref co, .ref tr, .ref wa, .ref wb_, .ref fi, .ref cd]))], wt, z0_, wg0_, wg1_, wwA_154, wwB_166, [(fi, .inr (3, [.int e0f_167, .int e1f_168, .int e2f_169, .int e3f_170, .int e4f_171, .int e5f_172, .ref a1_201, .ref a2_202]))], [(a1_201, .inl (T.2 0, m1f_174, .inl r1f_173))], [(a2_202, .inl (T.2 0, 7, .inl r2f_175))], z1_] _ _ := G.re rfl
          refine z_get C G clX3 7 rfl 3 (by decide) m_fl_RX11_306 rfl dX11_odds_46 ?_
          refine lv_if_ne (tgt := 54) hx hb dX11_odds_49 (by decide) (fun c_203 => ?_) (fun c_203 => ?_)
          · have c_203n : ¬ e3f_170.toInt = (0 : Int) := fun q => c_203 ((fa_eq _ _).mpr q)
            refine lv_aload_n hx hb dX11_odds_54 rfl (lv_at hl 1 rfl) ?_
            refine z_get C G clX11 0 rfl 9 (by decide) m_fl_RX11_65 rfl dX11_odds_55 ?_
            refine lv_aload_n hx hb dX11_odds_58 rfl (lv_at hl 1 rfl) ?_
            refine lv_iload_n hx hb dX11_odds_59 rfl (lv_at hl 2 rfl) ?_
            refine lv_aload hx hb dX11_odds_60 (lv_at hl 0 rfl) ?_
            have hX := h_193.resolve_left (fun q => absurd (congrArg Int32.toInt q.1) (by show ¬ _ = (0 : Int); omega))
            have hmk : ¬ mdB_156 = 0 := (h_194 hX.2.2.1).elim (fun q => absurd q.1 (by have := hX.2.2.2; omega)) (fun q => q.2)
            have hzk : zMk mdB_156 n4B_165 (zPl cr1_ inn1_ k11_) = n4B_165 := by unfold zMk; rw [if_neg hmk]
            have hn9 : zMk mdB_156 n4B_165 (zPl cr1_ inn1_ k11_) ≤ 131072 := by rw [hzk]; exact zPw_le h_187
            refine z_Vq (bc := [[(xo, .inr (10, [.ref t, .ref im, .ref mk, .ref rd, .ref po, .ref co, .ref tr, .ref wa, .ref wb_, .ref fi, .ref cd]))], wwB_166, z1_]) (br := [wt, z0_, wg0_, wg1_, wwA_154, [(fi, .inr (3, [.int e0f_167, .int e1f_168, .int e2f_169, .int e3f_170, .int e4f_171, .int e5f_172, .ref a1_201, .ref a2_202]))], [(a1_201, .inl (T.2 0, m1f_174, .inl r1f_173))], [(a2_202, .inl (T.2 0, 7, .inl r2f_175))]]) (As := [.int i1, .ref l1]) (rest := [.ref fi]) C G (c_waysInB l T xo t im mk rd po co tr wa wb_ fi cd i1 laB_155 mdB_156 wyB_157 pc_B_158 f1B_159 f2B_160 f3B_161 f4B_162 f5B_163 f6B_164 n4B_165 wwB_166 l1 cr1_ inn1_ k11_ k21_ k31_ k41_ z1_ h_183 hz1_ hI1_ h_187 h_184 h_185 (by omega)) (kV_RX11_235 C.2.2.2.2 (Nat.le_of_ble_eq_true rfl) (Nat.le_of_ble_eq_true rfl)) [0, 6, 10] [1, 2, 3, 4, 5, 7, 8, 9] rfl rfl (ci := 10) (qc := (RX11, TX11, 11)) rfl rfl (List.mem_flatten.mpr ⟨_, List.mem_of_getElem? (i := 0) rfl, List.mem_cons_self⟩) rfl rfl hl.1 dX11_odds_62 (by show _ + 3 ≤ 7; omega) (by show _ + (6 * (zMk mdB_156 n4B_165 (zPl cr1_ inn1_ k11_) - n4B_165)) ≤ 6 * (zNA (i1.toInt = 0 ∧ 0 < (fk 0).toInt ∧ (0 ≤ i2.toInt ∧ i2.toInt < (fk 2).toInt ∧ i2.toInt < 2) ∧ (e0f.toInt = 0 ∨ ¬ e1f.toInt = i1.toInt ∨ ¬ e2f.toInt = i2.toInt)) mdA n4A (zPl cr0_ inn0_ k10_) - n4A) + 6 * (zNA (i1.toInt = 1 ∧ 1 < (fk 0).toInt ∧ (0 ≤ i2.toInt ∧ i2.toInt < (fk 2).toInt ∧ i2.toInt < 2) ∧ (e0f.toInt = 0 ∨ ¬ e1f.toInt = i1.toInt ∨ ¬ e2f.toInt = i2.toInt)) mdB n4B (zPl cr1_ inn1_ k11_) - n4B) + 2 * (zNF (i1.toInt = 1 ∧ 1 < (fk 0).toInt ∧ (0 ≤ i2.toInt ∧ i2.toInt < (fk 2).toInt ∧ i2.toInt < 2) ∧ (e0f.toInt = 0 ∨ ¬ e1f.toInt = i1.toInt ∨ ¬ e2f.toInt = i2.toInt)) (zNF (i1.toInt = 0 ∧ 0 < (fk 0).toInt ∧ (0 ≤ i2.toInt ∧ i2.toInt < (fk 2).toInt ∧ i2.toInt < 2) ∧ (e0f.toInt = 0 ∨ ¬ e1f.toInt = i1.toInt ∨ ¬ e2f.toInt = i2.toInt)) m1f (zMw mdA wyA cr0_ inn0_ k10_)) (zMw mdB wyB cr1_ inn1_ k11_) - m1f); omega) (fun r_218 b1 H locs hw G => ?_)
            refine zEx9 hw ?_
            intro w2_204 m2_205 wy2_206 pc2_207 g1_208 g2_209 g4_210 g5_211 g6_212
            refine zCu6 ?_
            intro hbs9 h_213 h_214 h_215 h_216 h_217
            clear hw
            subst hbs9
            have G : zS T A s.heap s [wt, z0_, wg0_, wg1_, wwA_154, [(fi, .inr (3, [.int e0f_167, .int e1f_168, .int e2f_169, .int e3f_170, .int e4f_171, .int e5f_172, .ref a1_201, .ref a2_202]))], [(a1_201, .inl (T.2 0, m1f_174, .inl r1f_173))], [(a2_202, .inl (T.2 0, 7, .inl r2f_175))], [(xo, .inr (10, [.ref t, .ref im, .ref mk, .ref rd, .ref po, .ref co, .ref tr, .ref wa, .ref wb_, .ref fi, .ref cd]))], w2_204, z1_] _ _ := G
            subst h_213
            have hwy9 := h_215
            refine lv_iload_n hx hb dX11_odds_65 rfl (lv_at hl 4 rfl) ?_
            refine lv_iload hx hb dX11_odds_66 (lv_at hl 5 rfl) ?_
            have hw_219 : bFit T fi e0f_167 e1f_168 e2f_169 e3f_170 e4f_171 e5f_172 r1f_173 m1f_174 r2f_175 [(fi, .inr (3, [.int e0f_167, .int e1f_168, .int e2f_169, .int e3f_170, .int e4f_171, .int e5f_172, .ref a1_201, .ref a2_202])), (a1_201, .inl (T.2 0, m1f_174, .inl r1f_173)), (a2_202, .inl (T.2 0, 7, .inl r2f_175))] := ⟨a1_201, a2_202, rfl⟩
            have G : zS T A s.heap s [wt, z0_, wg0_, wg1_, wwA_154, [(fi, .inr (3, [.int e0f_167, .int e1f_168, .int e2f_169, .int e3f_170, .int e4f_171, .int e5f_172, .ref a1_201, .ref a2_202])), (a1_201, .inl (T.2 0, m1f_174, .inl r1f_173)), (a2_202, .inl (T.2 0, 7, .inl r2f_175))], [(xo, .inr (10, [.ref t, .ref im, .ref mk, .ref rd, .ref po, .ref co, .ref tr, .ref wa, .ref wb_, .ref fi, .ref cd]))], w2_204, z1_] _ _ := G.re rfl
            refine z_Vi (bc := [[(fi, .inr (3, [.int e0f_167, .int e1f_168, .int e2f_169, .int e3f_170, .int e4f_171, .int e5f_172, .ref a1_201, .ref a2_202])), (a1_201, .inl (T.2 0, m1f_174, .inl r1f_173)), (a2_202, .inl (T.2 0, 7, .inl r2f_175))], w2_204]) (br := [wt, z0_, wg0_, wg1_, wwA_154, [(xo, .inr (10, [.ref t, .ref im, .ref mk, .ref rd, .ref po, .ref co, .ref tr, .ref wa, .ref wb_, .ref fi, .ref cd]))], z1_]) (As := [.ref wb_, .int a_, .int b_]) (rest := []) C G (c_pointing l T fi e0f_167 e1f_168 e2f_169 e3f_170 e4f_171 e5f_172 r1f_173 m1f_174 r2f_175 ([(fi, .inr (3, [.int e0f_167, .int e1f_168, .int e2f_169, .int e3f_170, .int e4f_171, .int e5f_172, .ref a1_201, .ref a2_202])), (a1_201, .inl (T.2 0, m1f_174, .inl r1f_173)), (a2_202, .inl (T.2 0, 7, .inl r2f_175))]) wb_ l1 m2_205 wy2_206 pc2_207 g1_208 g2_209 f3B_161 g4_210 g5_211 g6_212 (zMk mdB_156 n4B_165 (zPl cr1_ inn1_ k11_)) w2_204 a_ b_ hw_219 h_214 hfm9) (kV_RX11_320 C.2.2.2.2 (Nat.le_of_ble_eq_true rfl) (Nat.le_of_ble_eq_true rfl)) [5, 7] [0, 1, 2, 3, 4, 6, 8] rfl rfl (ci := 3) (qc := (RX3, TX3, 8)) rfl rfl (List.mem_flatten.mpr ⟨_, List.mem_of_getElem? (i := 0) rfl, (bFit_mem hw_219).choose_spec⟩) rfl rfl hl.1 dX11_odds_68 (by show _ + 0 ≤ 7; omega) (by show _ + 0 ≤ 6 * (zNA (i1.toInt = 0 ∧ 0 < (fk 0).toInt ∧ (0 ≤ i2.toInt ∧ i2.toInt < (fk 2).toInt ∧ i2.toInt < 2) ∧ (e0f.toInt = 0 ∨ ¬ e1f.toInt = i1.toInt ∨ ¬ e2f.toInt = i2.toInt)) mdA n4A (zPl cr0_ inn0_ k10_) - n4A) + 6 * (zNA (i1.toInt = 1 ∧ 1 < (fk 0).toInt ∧ (0 ≤ i2.toInt ∧ i2.toInt < (fk 2).toInt ∧ i2.toInt < 2) ∧ (e0f.toInt = 0 ∨ ¬ e1f.toInt = i1.toInt ∨ ¬ e2f.toInt = i2.toInt)) mdB n4B (zPl cr1_ inn1_ k11_) - n4B) + 2 * (zNF (i1.toInt = 1 ∧ 1 < (fk 0).toInt ∧ (0 ≤ i2.toInt ∧ i2.toInt < (fk 2).toInt ∧ i2.toInt < 2) ∧ (e0f.toInt = 0 ∨ ¬ e1f.toInt = i1.toInt ∨ ¬ e2f.toInt = i2.toInt)) (zNF (i1.toInt = 0 ∧ 0 < (fk 0).toInt ∧ (0 ≤ i2.toInt ∧ i2.toInt < (fk 2).toInt ∧ i2.toInt < 2) ∧ (e0f.toInt = 0 ∨ ¬ e1f.toInt = i1.toInt ∨ ¬ e2f.toInt = i2.toInt)) m1f (zMw mdA wyA cr0_ inn0_ k10_)) (zMw mdB wyB cr1_ inn1_ k11_) - m1f); omega) (fun r_220 b1 H locs hw G => ?_)
            obtain rfl := hw
            have G : zS T A s.heap s [wt, z0_, wg0_, wg1_, wwA_154, [(xo, .inr (10, [.ref t, .ref im, .ref mk, .ref rd, .ref po, .ref co, .ref tr, .ref wa, .ref wb_, .ref fi, .ref cd]))], z1_, [(fi, .inr (3, [.int e0f_167, .int e1f_168, .int e2f_169, .int e3f_170, .int e4f_171, .int e5f_172, .ref a1_201, .ref a2_202])), (a1_201, .inl (T.2 0, m1f_174, .inl r1f_173)), (a2_202, .inl (T.2 0, 7, .inl r2f_175))], w2_204] _ _ := G
            refine lv_istore (lv' := [(7, .int r_220), (6, .ref l1), (0, .ref xo), (1, .int i1), (2, .int i2), (3, .int a_), (4, .int b_), (5, .int w_)]) hx hb dX11_odds_71 hl (by decide) rfl (fun ls hl => ?_)
            refine lv_iload hx hb dX11_odds_73 (lv_at hl 0 rfl) ?_
            refine lv_aload_n hx hb dX11_odds_75 rfl (lv_at hl 2 rfl) ?_
            refine z_get C G clX11 5 rfl 9 (by decide) m_fl_RX11_65 rfl dX11_odds_76 ?_
            have G : zS T A s.heap s [wt, z0_, wg0_, wg1_, wwA_154, [(xo, .inr (10, [.ref t, .ref im, .ref mk, .ref rd, .ref po, .ref co, .ref tr, .ref wa, .ref wb_, .ref fi, .ref cd]))], z1_, [(fi, .inr (3, [.int e0f_167, .int e1f_168, .int e2f_169, .int e3f_170, .int e4f_171, .int e5f_172, .ref a1_201, .ref a2_202]))], [(a1_201, .inl (T.2 0, m1f_174, .inl r1f_173))], [(a2_202, .inl (T.2 0, 7, .inl r2f_175))], w2_204] _ _ := G.re rfl
            refine z_get C G clX3 7 rfl 3 (by decide) m_fl_RX11_306 rfl dX11_odds_79 ?_
            refine lv_iload hx hb dX11_odds_82 (lv_at hl 7 rfl) ?_
            refine z_Si (bc := []) (br := [wt, z0_, wg0_, wg1_, wwA_154, [(xo, .inr (10, [.ref t, .ref im, .ref mk, .ref rd, .ref po, .ref co, .ref tr, .ref wa, .ref wb_, .ref fi, .ref cd]))], z1_, [(fi, .inr (3, [.int e0f_167, .int e1f_168, .int e2f_169, .int e3f_170, .int e4f_171, .int e5f_172, .ref a1_201, .ref a2_202]))], [(a1_201, .inl (T.2 0, m1f_174, .inl r1f_173))], [(a2_202, .inl (T.2 0, 7, .inl r2f_175))], w2_204]) (As := [.int r_220, .int e3f_170, .int w_]) (rest := []) C G (c_inLeastTerms l T r_220 e3f_170 w_) (kS_RX11_262 C.2.2.2.2 (Nat.le_of_ble_eq_true rfl) (Nat.le_of_ble_eq_true rfl)) [] [0, 1, 2, 3, 4, 5, 6, 7, 8, 9, 10] rfl rfl rfl rfl hl.1 dX11_odds_84 (by show _ + 0 ≤ 7; omega) (by show _ + 0 ≤ 6 * (zNA (i1.toInt = 0 ∧ 0 < (fk 0).toInt ∧ (0 ≤ i2.toInt ∧ i2.toInt < (fk 2).toInt ∧ i2.toInt < 2) ∧ (e0f.toInt = 0 ∨ ¬ e1f.toInt = i1.toInt ∨ ¬ e2f.toInt = i2.toInt)) mdA n4A (zPl cr0_ inn0_ k10_) - n4A) + 6 * (zNA (i1.toInt = 1 ∧ 1 < (fk 0).toInt ∧ (0 ≤ i2.toInt ∧ i2.toInt < (fk 2).toInt ∧ i2.toInt < 2) ∧ (e0f.toInt = 0 ∨ ¬ e1f.toInt = i1.toInt ∨ ¬ e2f.toInt = i2.toInt)) mdB n4B (zPl cr1_ inn1_ k11_) - n4B) + 2 * (zNF (i1.toInt = 1 ∧ 1 < (fk 0).toInt ∧ (0 ≤ i2.toInt ∧ i2.toInt < (fk 2).toInt ∧ i2.toInt < 2) ∧ (e0f.toInt = 0 ∨ ¬ e1f.toInt = i1.toInt ∨ ¬ e2f.toInt = i2.toInt)) (zNF (i1.toInt = 0 ∧ 0 < (fk 0).toInt ∧ (0 ≤ i2.toInt ∧ i2.toInt < (fk 2).toInt ∧ i2.toInt < 2) ∧ (e0f.toInt = 0 ∨ ¬ e1f.toInt = i1.toInt ∨ ¬ e2f.toInt = i2.toInt)) m1f (zMw mdA wyA cr0_ inn0_ k10_)) (zMw mdB wyB cr1_ inn1_ k11_) - m1f); omega) (fun r_221 b1 H locs hw G => ?_)
            obtain rfl := hw
            have G : zS T A s.heap s [wt, z0_, wg0_, wg1_, wwA_154, [(xo, .inr (10, [.ref t, .ref im, .ref mk, .ref rd, .ref po, .ref co, .ref tr, .ref wa, .ref wb_, .ref fi, .ref cd]))], z1_, [(fi, .inr (3, [.int e0f_167, .int e1f_168, .int e2f_169, .int e3f_170, .int e4f_171, .int e5f_172, .ref a1_201, .ref a2_202]))], [(a1_201, .inl (T.2 0, m1f_174, .inl r1f_173))], [(a2_202, .inl (T.2 0, 7, .inl r2f_175))], w2_204] _ _ := G
            have hw_222 : bFit T fi e0f_167 e1f_168 e2f_169 e3f_170 e4f_171 e5f_172 r1f_173 m1f_174 r2f_175 [(fi, .inr (3, [.int e0f_167, .int e1f_168, .int e2f_169, .int e3f_170, .int e4f_171, .int e5f_172, .ref a1_201, .ref a2_202])), (a1_201, .inl (T.2 0, m1f_174, .inl r1f_173)), (a2_202, .inl (T.2 0, 7, .inl r2f_175))] := ⟨a1_201, a2_202, rfl⟩
            have G : zS T A s.heap s [wt, z0_, wg0_, wg1_, wwA_154, [(xo, .inr (10, [.ref t, .ref im, .ref mk, .ref rd, .ref po, .ref co, .ref tr, .ref wa, .ref wb_, .ref fi, .ref cd]))], z1_, [(fi, .inr (3, [.int e0f_167, .int e1f_168, .int e2f_169, .int e3f_170, .int e4f_171, .int e5f_172, .ref a1_201, .ref a2_202])), (a1_201, .inl (T.2 0, m1f_174, .inl r1f_173)), (a2_202, .inl (T.2 0, 7, .inl r2f_175))], w2_204] _ _ := G.re rfl
            have G := G.sub (bs' := [[(xo, .inr (10, [.ref t, .ref im, .ref mk, .ref rd, .ref po, .ref co, .ref tr, .ref wa, .ref wb_, .ref fi, .ref cd]))], wt, z0_, z1_, wg0_, wg1_, wwA_154, w2_204, [(fi, .inr (3, [.int e0f_167, .int e1f_168, .int e2f_169, .int e3f_170, .int e4f_171, .int e5f_172, .ref a1_201, .ref a2_202])), (a1_201, .inl (T.2 0, m1f_174, .inl r1f_173)), (a2_202, .inl (T.2 0, 7, .inl r2f_175))]]) [5, 0, 1, 6, 2, 3, 4, 8, 7] rfl
            exact z_iret C hr hlocks G (by omega) (by omega) dX11_odds_87 ⟨laA_143, mdA_144, wyA_145, pc_A_146, f1A_147, f2A_148, f3A_149, f4A_150, f5A_151, f6A_152, n4A_153, wwA_154, l1, m2_205, wy2_206, pc2_207, g1_208, g2_209, f3B_161, g4_210, g5_211, g6_212, (zMk mdB_156 n4B_165 (zPl cr1_ inn1_ k11_)), w2_204, e0f_167, e1f_168, e2f_169, e3f_170, e4f_171, e5f_172, r1f_173, m1f_174, r2f_175, ([(fi, .inr (3, [.int e0f_167, .int e1f_168, .int e2f_169, .int e3f_170, .int e4f_171, .int e5f_172, .ref a1_201, .ref a2_202])), (a1_201, .inl (T.2 0, m1f_174, .inl r1f_173)), (a2_202, .inl (T.2 0, 7, .inl r2f_175))]), rfl, h_177, h_178, h_179, h_180, h_181, h_182, h_214, (Or.inr rfl), hwy9, (hzk.trans h_186), (by rw [hzk]; exact h_187), (fun _ => h_217), hw_222, h_190, h_191, h_192, (fun q => (h_194 q).elim (fun w => Or.inl ⟨w.1, w.2⟩) (fun w => Or.inr ⟨w.1, h_217⟩))⟩
          · have c_203n : e3f_170.toInt = (0 : Int) := (fa_eq _ _).mp c_203
            refine lv_iconst (v := (-1)) hx hb dX11_odds_52 (by decide) ?_
            have hw_223 : bFit T fi e0f_167 e1f_168 e2f_169 e3f_170 e4f_171 e5f_172 r1f_173 m1f_174 r2f_175 [(fi, .inr (3, [.int e0f_167, .int e1f_168, .int e2f_169, .int e3f_170, .int e4f_171, .int e5f_172, .ref a1_201, .ref a2_202])), (a1_201, .inl (T.2 0, m1f_174, .inl r1f_173)), (a2_202, .inl (T.2 0, 7, .inl r2f_175))] := ⟨a1_201, a2_202, rfl⟩
            have G : zS T A s.heap s [[(xo, .inr (10, [.ref t, .ref im, .ref mk, .ref rd, .ref po, .ref co, .ref tr, .ref wa, .ref wb_, .ref fi, .ref cd]))], wt, z0_, wg0_, wg1_, wwA_154, wwB_166, [(fi, .inr (3, [.int e0f_167, .int e1f_168, .int e2f_169, .int e3f_170, .int e4f_171, .int e5f_172, .ref a1_201, .ref a2_202])), (a1_201, .inl (T.2 0, m1f_174, .inl r1f_173)), (a2_202, .inl (T.2 0, 7, .inl r2f_175))], z1_] _ _ := G.re rfl
            have G := G.sub (bs' := [[(xo, .inr (10, [.ref t, .ref im, .ref mk, .ref rd, .ref po, .ref co, .ref tr, .ref wa, .ref wb_, .ref fi, .ref cd]))], wt, z0_, z1_, wg0_, wg1_, wwA_154, wwB_166, [(fi, .inr (3, [.int e0f_167, .int e1f_168, .int e2f_169, .int e3f_170, .int e4f_171, .int e5f_172, .ref a1_201, .ref a2_202])), (a1_201, .inl (T.2 0, m1f_174, .inl r1f_173)), (a2_202, .inl (T.2 0, 7, .inl r2f_175))]]) [0, 1, 2, 8, 3, 4, 5, 6, 7] rfl
            exact z_iret C hr hlocks G (by omega) (by omega) dX11_odds_53 ⟨laA_143, mdA_144, wyA_145, pc_A_146, f1A_147, f2A_148, f3A_149, f4A_150, f5A_151, f6A_152, n4A_153, wwA_154, laB_155, mdB_156, wyB_157, pc_B_158, f1B_159, f2B_160, f3B_161, f4B_162, f5B_163, f6B_164, n4B_165, wwB_166, e0f_167, e1f_168, e2f_169, e3f_170, e4f_171, e5f_172, r1f_173, m1f_174, r2f_175, ([(fi, .inr (3, [.int e0f_167, .int e1f_168, .int e2f_169, .int e3f_170, .int e4f_171, .int e5f_172, .ref a1_201, .ref a2_202])), (a1_201, .inl (T.2 0, m1f_174, .inl r1f_173)), (a2_202, .inl (T.2 0, 7, .inl r2f_175))]), rfl, h_177, h_178, h_179, h_180, h_181, h_182, h_183, h_184, h_185, h_186, h_187, h_188, hw_223, h_190, h_191, h_192, h_194⟩
        · have c_200n : ¬ b_.toInt < (zWays cr1_ inn1_ k11_ a_).toInt := fun q => c_200 ((fa_lt _ _).mpr q)
          refine lv_iconst (v := (-1)) hx hb dX11_odds_40 (by decide) ?_
          have G := G.sub (bs' := [[(xo, .inr (10, [.ref t, .ref im, .ref mk, .ref rd, .ref po, .ref co, .ref tr, .ref wa, .ref wb_, .ref fi, .ref cd]))], wt, z0_, z1_, wg0_, wg1_, wwA_154, wwB_166, wff_176]) [0, 1, 2, 8, 3, 4, 5, 6, 7] rfl
          exact z_iret C hr hlocks G (by omega) (by omega) dX11_odds_41 ⟨laA_143, mdA_144, wyA_145, pc_A_146, f1A_147, f2A_148, f3A_149, f4A_150, f5A_151, f6A_152, n4A_153, wwA_154, laB_155, mdB_156, wyB_157, pc_B_158, f1B_159, f2B_160, f3B_161, f4B_162, f5B_163, f6B_164, n4B_165, wwB_166, e0f_167, e1f_168, e2f_169, e3f_170, e4f_171, e5f_172, r1f_173, m1f_174, r2f_175, wff_176, rfl, h_177, h_178, h_179, h_180, h_181, h_182, h_183, h_184, h_185, h_186, h_187, h_188, h_189, h_190, h_191, h_192, h_194⟩
theorem m_ml_RX12_1 : Cond.methodLink RX12 1 objectInit ∈ zT := zmem1 zsub_5 234 rfl rfl
theorem m_fl_RX12_7 : Cond.fieldLink RX12 7 (TX12 0).1 (TX12 0).2.1 (TX12 0).2.2.1 ∈ zT := zmem1 zsub_5 235 rfl rfl
theorem m_fl_RX12_13 : Cond.fieldLink RX12 13 (TX12 1).1 (TX12 1).2.1 (TX12 1).2.2.1 ∈ zT := zmem1 zsub_5 236 rfl rfl
theorem m_fl_RX12_17 : Cond.fieldLink RX12 17 (TX12 10).1 (TX12 10).2.1 (TX12 10).2.2.1 ∈ zT := zmem1 zsub_6 5 rfl rfl
theorem m_fl_RX12_20 : Cond.fieldLink RX12 20 (TX12 14).1 (TX12 14).2.1 (TX12 14).2.2.1 ∈ zT := zmem1 zsub_6 9 rfl rfl
theorem m_fl_RX12_23 : Cond.fieldLink RX12 23 (TX12 15).1 (TX12 15).2.1 (TX12 15).2.2.1 ∈ zT := zmem1 zsub_6 10 rfl rfl
theorem m_fl_RX12_26 : Cond.fieldLink RX12 26 (TX12 16).1 (TX12 16).2.1 (TX12 16).2.2.1 ∈ zT := zmem1 zsub_6 11 rfl rfl
theorem m_fl_RX12_29 : Cond.fieldLink RX12 29 (TX12 21).1 (TX12 21).2.1 (TX12 21).2.2.1 ∈ zT := zmem1 zsub_6 16 rfl rfl
theorem m_fl_RX12_32 : Cond.fieldLink RX12 32 (TX12 22).1 (TX12 22).2.1 (TX12 22).2.2.1 ∈ zT := zmem1 zsub_6 17 rfl rfl
theorem m_fl_RX12_35 : Cond.fieldLink RX12 35 (TX12 23).1 (TX12 23).2.1 (TX12 23).2.2.1 ∈ zT := zmem1 zsub_6 18 rfl rfl
theorem m_fl_RX12_38 : Cond.fieldLink RX12 38 (TX12 24).1 (TX12 24).2.1 (TX12 24).2.2.1 ∈ zT := zmem1 zsub_6 19 rfl rfl
theorem m_fl_RX12_41 : Cond.fieldLink RX12 41 (TX12 25).1 (TX12 25).2.1 (TX12 25).2.2.1 ∈ zT := zmem1 zsub_6 20 rfl rfl
theorem m_fl_RX12_44 : Cond.fieldLink RX12 44 (TX12 26).1 (TX12 26).2.1 (TX12 26).2.2.1 ∈ zT := zmem1 zsub_6 21 rfl rfl
theorem m_fl_RX12_47 : Cond.fieldLink RX12 47 (TX12 39).1 (TX12 39).2.1 (TX12 39).2.2.1 ∈ zT := zmem1 zsub_6 34 rfl rfl
theorem m_fl_RX12_50 : Cond.fieldLink RX12 50 (TX12 40).1 (TX12 40).2.1 (TX12 40).2.2.1 ∈ zT := zmem1 zsub_6 35 rfl rfl
theorem m_fl_RX12_53 : Cond.fieldLink RX12 53 (TX12 41).1 (TX12 41).2.1 (TX12 41).2.2.1 ∈ zT := zmem1 zsub_6 36 rfl rfl
theorem dX12_init_0 : decode cX12_init 0 = .ok (.aload_n 0, 1) := zo_42 (by decide +kernel)
theorem dX12_init_1 : decode cX12_init 1 = .ok (.invokespecial 1, 3) := zo_183 (by decide +kernel)
theorem dX12_init_4 : decode cX12_init 4 = .ok (.aload_n 0, 1) := zo_42 (by decide +kernel)
theorem dX12_init_5 : decode cX12_init 5 = .ok (.sipush 3952, 3) := zo_17 (by decide +kernel)
theorem dX12_init_8 : decode cX12_init 8 = .ok (.newarray .int, 2) := by decide +kernel
theorem dX12_init_10 : decode cX12_init 10 = .ok (.putfield 7, 3) := zo_181 (by decide +kernel)
theorem dX12_init_13 : decode cX12_init 13 = .ok (.aload_n 0, 1) := zo_42 (by decide +kernel)
theorem dX12_init_14 : decode cX12_init 14 = .ok (.iconst 3, 1) := zo_6 (by decide +kernel)
theorem dX12_init_15 : decode cX12_init 15 = .ok (.newarray .boolean, 2) := by decide +kernel
theorem dX12_init_17 : decode cX12_init 17 = .ok (.putfield 13, 3) := zo_181 (by decide +kernel)
theorem dX12_init_20 : decode cX12_init 20 = .ok (.aload_n 0, 1) := zo_42 (by decide +kernel)
theorem dX12_init_21 : decode cX12_init 21 = .ok (.bipush 121, 2) := zo_16 (by decide +kernel)
theorem dX12_init_23 : decode cX12_init 23 = .ok (.newarray .int, 2) := by decide +kernel
theorem dX12_init_25 : decode cX12_init 25 = .ok (.putfield 17, 3) := zo_181 (by decide +kernel)
theorem dX12_init_28 : decode cX12_init 28 = .ok (.aload_n 0, 1) := zo_42 (by decide +kernel)
theorem dX12_init_29 : decode cX12_init 29 = .ok (.bipush 7, 2) := zo_16 (by decide +kernel)
theorem dX12_init_31 : decode cX12_init 31 = .ok (.newarray .int, 2) := by decide +kernel
theorem dX12_init_33 : decode cX12_init 33 = .ok (.putfield 20, 3) := zo_181 (by decide +kernel)
theorem dX12_init_36 : decode cX12_init 36 = .ok (.aload_n 0, 1) := zo_42 (by decide +kernel)
theorem dX12_init_37 : decode cX12_init 37 = .ok (.bipush 7, 2) := zo_16 (by decide +kernel)
theorem dX12_init_39 : decode cX12_init 39 = .ok (.newarray .int, 2) := by decide +kernel
theorem dX12_init_41 : decode cX12_init 41 = .ok (.putfield 23, 3) := zo_181 (by decide +kernel)
theorem dX12_init_44 : decode cX12_init 44 = .ok (.aload_n 0, 1) := zo_42 (by decide +kernel)
theorem dX12_init_45 : decode cX12_init 45 = .ok (.bipush 7, 2) := zo_16 (by decide +kernel)
theorem dX12_init_47 : decode cX12_init 47 = .ok (.newarray .int, 2) := by decide +kernel
theorem dX12_init_49 : decode cX12_init 49 = .ok (.putfield 26, 3) := zo_181 (by decide +kernel)
theorem dX12_init_52 : decode cX12_init 52 = .ok (.aload_n 0, 1) := zo_42 (by decide +kernel)
theorem dX12_init_53 : decode cX12_init 53 = .ok (.bipush 7, 2) := zo_16 (by decide +kernel)
theorem dX12_init_55 : decode cX12_init 55 = .ok (.newarray .int, 2) := by decide +kernel
theorem dX12_init_57 : decode cX12_init 57 = .ok (.putfield 29, 3) := zo_181 (by decide +kernel)
theorem dX12_init_60 : decode cX12_init 60 = .ok (.aload_n 0, 1) := zo_42 (by decide +kernel)
theorem dX12_init_61 : decode cX12_init 61 = .ok (.bipush 7, 2) := zo_16 (by decide +kernel)
theorem dX12_init_63 : decode cX12_init 63 = .ok (.newarray .int, 2) := by decide +kernel
theorem dX12_init_65 : decode cX12_init 65 = .ok (.putfield 32, 3) := zo_181 (by decide +kernel)
theorem dX12_init_68 : decode cX12_init 68 = .ok (.aload_n 0, 1) := zo_42 (by decide +kernel)
theorem dX12_init_69 : decode cX12_init 69 = .ok (.sipush 16384, 3) := zo_17 (by decide +kernel)
theorem dX12_init_72 : decode cX12_init 72 = .ok (.newarray .int, 2) := by decide +kernel
theorem dX12_init_74 : decode cX12_init 74 = .ok (.putfield 35, 3) := zo_181 (by decide +kernel)
theorem dX12_init_77 : decode cX12_init 77 = .ok (.aload_n 0, 1) := zo_42 (by decide +kernel)
theorem dX12_init_78 : decode cX12_init 78 = .ok (.sipush 512, 3) := zo_17 (by decide +kernel)
theorem dX12_init_81 : decode cX12_init 81 = .ok (.newarray .int, 2) := by decide +kernel
theorem dX12_init_83 : decode cX12_init 83 = .ok (.putfield 38, 3) := zo_181 (by decide +kernel)
theorem dX12_init_86 : decode cX12_init 86 = .ok (.aload_n 0, 1) := zo_42 (by decide +kernel)
theorem dX12_init_87 : decode cX12_init 87 = .ok (.bipush 49, 2) := zo_16 (by decide +kernel)
theorem dX12_init_89 : decode cX12_init 89 = .ok (.newarray .int, 2) := by decide +kernel
theorem dX12_init_91 : decode cX12_init 91 = .ok (.putfield 41, 3) := zo_181 (by decide +kernel)
theorem dX12_init_94 : decode cX12_init 94 = .ok (.aload_n 0, 1) := zo_42 (by decide +kernel)
theorem dX12_init_95 : decode cX12_init 95 = .ok (.bipush 7, 2) := zo_16 (by decide +kernel)
theorem dX12_init_97 : decode cX12_init 97 = .ok (.newarray .int, 2) := by decide +kernel
theorem dX12_init_99 : decode cX12_init 99 = .ok (.putfield 44, 3) := zo_181 (by decide +kernel)
theorem dX12_init_102 : decode cX12_init 102 = .ok (.aload_n 0, 1) := zo_42 (by decide +kernel)
theorem dX12_init_103 : decode cX12_init 103 = .ok (.bipush 28, 2) := zo_16 (by decide +kernel)
theorem dX12_init_105 : decode cX12_init 105 = .ok (.newarray .int, 2) := by decide +kernel
theorem dX12_init_107 : decode cX12_init 107 = .ok (.putfield 47, 3) := zo_181 (by decide +kernel)
theorem dX12_init_110 : decode cX12_init 110 = .ok (.aload_n 0, 1) := zo_42 (by decide +kernel)
theorem dX12_init_111 : decode cX12_init 111 = .ok (.bipush 49, 2) := zo_16 (by decide +kernel)
theorem dX12_init_113 : decode cX12_init 113 = .ok (.newarray .int, 2) := by decide +kernel
theorem dX12_init_115 : decode cX12_init 115 = .ok (.putfield 50, 3) := zo_181 (by decide +kernel)
theorem dX12_init_118 : decode cX12_init 118 = .ok (.aload_n 0, 1) := zo_42 (by decide +kernel)
theorem dX12_init_119 : decode cX12_init 119 = .ok (.bipush 7, 2) := zo_16 (by decide +kernel)
theorem dX12_init_121 : decode cX12_init 121 = .ok (.newarray .int, 2) := by decide +kernel
theorem dX12_init_123 : decode cX12_init 123 = .ok (.putfield 53, 3) := zo_181 (by decide +kernel)
theorem dX12_init_126 : decode cX12_init 126 = .ok (.aload_n 0, 1) := zo_42 (by decide +kernel)
theorem dX12_init_127 : decode cX12_init 127 = .ok (.getfield 7, 3) := zo_180 (by decide +kernel)
theorem dX12_init_130 : decode cX12_init 130 = .ok (.bipush 6, 2) := zo_16 (by decide +kernel)
theorem dX12_init_132 : decode cX12_init 132 = .ok (.iconst (-1), 1) := zo_2 (by decide +kernel)
theorem dX12_init_133 : decode cX12_init 133 = .ok (.iastore, 1) := zo_79 (by decide +kernel)
theorem dX12_init_134 : decode cX12_init 134 = .ok (.return_, 1) := zo_177 (by decide +kernel)
theorem dX12_end_0 : decode cX12_end 0 = .ok (.iload_n 1, 1) := zo_27 (by decide +kernel)
theorem dX12_end_1 : decode cX12_end 1 = .ok (.ifCond .lt 13, 3) := zo_155 (by decide +kernel)
theorem dX12_end_4 : decode cX12_end 4 = .ok (.iload_n 1, 1) := zo_27 (by decide +kernel)
theorem dX12_end_5 : decode cX12_end 5 = .ok (.aload_n 0, 1) := zo_42 (by decide +kernel)
theorem dX12_end_6 : decode cX12_end 6 = .ok (.getfield 7, 3) := zo_180 (by decide +kernel)
theorem dX12_end_9 : decode cX12_end 9 = .ok (.iconst 4, 1) := zo_7 (by decide +kernel)
theorem dX12_end_10 : decode cX12_end 10 = .ok (.iaload, 1) := zo_46 (by decide +kernel)
theorem dX12_end_11 : decode cX12_end 11 = .ok (.if_icmp .le 5, 3) := zo_164 (by decide +kernel)
theorem dX12_end_14 : decode cX12_end 14 = .ok (.iconst (-1), 1) := zo_2 (by decide +kernel)
theorem dX12_end_15 : decode cX12_end 15 = .ok (.ireturn, 1) := zo_172 (by decide +kernel)
theorem dX12_end_16 : decode cX12_end 16 = .ok (.aload_n 0, 1) := zo_42 (by decide +kernel)
theorem dX12_end_17 : decode cX12_end 17 = .ok (.getfield 7, 3) := zo_180 (by decide +kernel)
theorem dX12_end_20 : decode cX12_end 20 = .ok (.iconst 4, 1) := zo_7 (by decide +kernel)
theorem dX12_end_21 : decode cX12_end 21 = .ok (.iload_n 1, 1) := zo_27 (by decide +kernel)
theorem dX12_end_22 : decode cX12_end 22 = .ok (.iastore, 1) := zo_79 (by decide +kernel)
theorem dX12_end_23 : decode cX12_end 23 = .ok (.iload_n 1, 1) := zo_27 (by decide +kernel)
theorem dX12_end_24 : decode cX12_end 24 = .ok (.ireturn, 1) := zo_172 (by decide +kernel)
set_option maxHeartbeats 4000000 in
set_option maxRecDepth 100000 in
theorem c_m_init (l : Launch) (T : zTy) (mo : Nat) : zMv l T yX12_init cX12_init 1 2 15 21147 [.ref mo] [[(mo, .inr (11, [.null, .null, .int 0, .int 0, .int 0, .int 0, .int 0, .int 0, .int 0, .int 0, .null, .int 0, .int 0, .int 0, .null, .null, .null, .int 0, .int 0, .int 0, .int 0, .null, .null, .null, .null, .null, .null, .int 0, .int 0, .int 0, .int 0, .int 0, .int 0, .int 0, .int 0, .int 0, .int 0, .int 0, .int 0, .null, .null, .null, .int 0]))]] (fun bs => ∃ (m_all : Nat) (m_has : Nat) (m_read : Nat) (m_posts : Nat) (m_shut : Nat) (m_here : Nat) (m_was : Nat) (m_came : Nat) (m_seenAt : Nat) (m_rowWorth : Nat) (m_farBy : Nat) (m_used : Nat) (m_fitPost : Nat) (m_fitEnd : Nat) (m_keptPosts : Nat), bs = [[(mo, .inr (11, [.ref m_all, .ref m_has, .int 0, .int 0, .int 0, .int 0, .int 0, .int 0, .int 0, .int 0, .ref m_read, .int 0, .int 0, .int 0, .ref m_posts, .ref m_shut, .ref m_here, .int 0, .int 0, .int 0, .int 0, .ref m_was, .ref m_came, .ref m_seenAt, .ref m_rowWorth, .ref m_farBy, .ref m_used, .int 0, .int 0, .int 0, .int 0, .int 0, .int 0, .int 0, .int 0, .int 0, .int 0, .int 0, .int 0, .ref m_fitPost, .ref m_fitEnd, .ref m_keptPosts, .int 0]))], [(m_all, .inl (T.2 0, 3952, .inl (upd (fun _ => 0) 6 (-1))))], [(m_has, .inl (T.2 2, 3, .inl (fun _ => 0)))], [(m_read, .inl (T.2 0, 121, .inl (fun _ => 0)))], [(m_posts, .inl (T.2 0, 7, .inl (fun _ => 0)))], [(m_shut, .inl (T.2 0, 7, .inl (fun _ => 0)))], [(m_here, .inl (T.2 0, 7, .inl (fun _ => 0)))], [(m_was, .inl (T.2 0, 7, .inl (fun _ => 0)))], [(m_came, .inl (T.2 0, 7, .inl (fun _ => 0)))], [(m_seenAt, .inl (T.2 0, 16384, .inl (fun _ => 0)))], [(m_rowWorth, .inl (T.2 0, 512, .inl (fun _ => 0)))], [(m_farBy, .inl (T.2 0, 49, .inl (fun _ => 0)))], [(m_used, .inl (T.2 0, 7, .inl (fun _ => 0)))], [(m_fitPost, .inl (T.2 0, 28, .inl (fun _ => 0)))], [(m_fitEnd, .inl (T.2 0, 49, .inl (fun _ => 0)))], [(m_keptPosts, .inl (T.2 0, 7, .inl (fun _ => 0)))]]) := by
  refine zMv_of (own := RX12) (by decide) rfl (Nat.le_of_ble_eq_true rfl) ?_
  intro p e s m args below meth c A ls C hr hlocks hnm hAe G hl
  have hx := C.1
  have hb := C.2.1
  have hl : lv_has ls 1 [(0, .ref mo)] := hl
  refine lv_aload_n hx hb dX12_init_0 rfl (lv_at hl 0 rfl) ?_
  refine W.objInit hx hb C.2.2.2.1 (C.2.2.2.2 _ m_ml_RX12_1) (C.2.2.2.2 _ m_im_obj) (C.2.2.2.2 _ m_co_obj) rfl (by rw [C.2.2.1]; exact hl.1) rfl dX12_init_1 (Nat.le_of_ble_eq_true rfl) (Nat.le_of_ble_eq_true rfl) ?_
  refine W.eq (g2 := F0 m 4 ls []) rfl ?_
  refine lv_aload_n hx hb dX12_init_4 rfl (lv_at hl 0 rfl) ?_
  refine lv_sipush (v := 3952) hx hb dX12_init_5 (by decide) ?_
  refine z_newa C G 0 (ty := .int) (N' := 3952) (a0 := (3952, .inl (fun _ => 0))) rfl z_uint m_ar_int rfl (fun _ => rfl) (by decide) (by decide) (Nat.le_of_ble_eq_true rfl) (Nat.le_of_ble_eq_true rfl) (Nat.le_of_ble_eq_true rfl) dX12_init_8 (fun q_1 H G => ?_)
  have G : zS T A s.heap s [[(mo, .inr (11, [.null, .null, .int 0, .int 0, .int 0, .int 0, .int 0, .int 0, .int 0, .int 0, .null, .int 0, .int 0, .int 0, .null, .null, .null, .int 0, .int 0, .int 0, .int 0, .null, .null, .null, .null, .null, .null, .int 0, .int 0, .int 0, .int 0, .int 0, .int 0, .int 0, .int 0, .int 0, .int 0, .int 0, .int 0, .null, .null, .null, .int 0]))], [(q_1, .inl (T.2 0, 3952, .inl (fun _ => 0)))]] _ _ := G
  refine z_putF C G hnm clX12 0 rfl 0 (by decide) m_fl_RX12_7 rfl rfl rfl rfl (Nat.le_of_ble_eq_true rfl) dX12_init_10 (fun H locs G => ?_)
  have G : zS T A s.heap s [[(mo, .inr (11, [.ref q_1, .null, .int 0, .int 0, .int 0, .int 0, .int 0, .int 0, .int 0, .int 0, .null, .int 0, .int 0, .int 0, .null, .null, .null, .int 0, .int 0, .int 0, .int 0, .null, .null, .null, .null, .null, .null, .int 0, .int 0, .int 0, .int 0, .int 0, .int 0, .int 0, .int 0, .int 0, .int 0, .int 0, .int 0, .null, .null, .null, .int 0]))], [(q_1, .inl (T.2 0, 3952, .inl (fun _ => 0)))]] _ _ := G
  refine lv_aload_n hx hb dX12_init_13 rfl (lv_at hl 0 rfl) ?_
  refine lv_iconst (v := 3) hx hb dX12_init_14 (by decide) ?_
  refine z_newa C G 2 (ty := .boolean) (N' := 3) (a0 := (3, .inl (fun _ => 0))) rfl z_uboolean m_ar_boolean rfl (fun _ => rfl) (by decide) (by decide) (Nat.le_of_ble_eq_true rfl) (Nat.le_of_ble_eq_true rfl) (Nat.le_of_ble_eq_true rfl) dX12_init_15 (fun q_2 H G => ?_)
  have G : zS T A s.heap s [[(mo, .inr (11, [.ref q_1, .null, .int 0, .int 0, .int 0, .int 0, .int 0, .int 0, .int 0, .int 0, .null, .int 0, .int 0, .int 0, .null, .null, .null, .int 0, .int 0, .int 0, .int 0, .null, .null, .null, .null, .null, .null, .int 0, .int 0, .int 0, .int 0, .int 0, .int 0, .int 0, .int 0, .int 0, .int 0, .int 0, .int 0, .null, .null, .null, .int 0]))], [(q_1, .inl (T.2 0, 3952, .inl (fun _ => 0)))], [(q_2, .inl (T.2 2, 3, .inl (fun _ => 0)))]] _ _ := G
  refine z_putF C G hnm clX12 0 rfl 1 (by decide) m_fl_RX12_13 rfl rfl rfl rfl (Nat.le_of_ble_eq_true rfl) dX12_init_17 (fun H locs G => ?_)
  have G : zS T A s.heap s [[(mo, .inr (11, [.ref q_1, .ref q_2, .int 0, .int 0, .int 0, .int 0, .int 0, .int 0, .int 0, .int 0, .null, .int 0, .int 0, .int 0, .null, .null, .null, .int 0, .int 0, .int 0, .int 0, .null, .null, .null, .null, .null, .null, .int 0, .int 0, .int 0, .int 0, .int 0, .int 0, .int 0, .int 0, .int 0, .int 0, .int 0, .int 0, .null, .null, .null, .int 0]))], [(q_1, .inl (T.2 0, 3952, .inl (fun _ => 0)))], [(q_2, .inl (T.2 2, 3, .inl (fun _ => 0)))]] _ _ := G
  refine lv_aload_n hx hb dX12_init_20 rfl (lv_at hl 0 rfl) ?_
  refine lv_bipush (v := 121) hx hb dX12_init_21 (by decide) ?_
  refine z_newa C G 0 (ty := .int) (N' := 121) (a0 := (121, .inl (fun _ => 0))) rfl z_uint m_ar_int rfl (fun _ => rfl) (by decide) (by decide) (Nat.le_of_ble_eq_true rfl) (Nat.le_of_ble_eq_true rfl) (Nat.le_of_ble_eq_true rfl) dX12_init_23 (fun q_3 H G => ?_)
  have G : zS T A s.heap s [[(mo, .inr (11, [.ref q_1, .ref q_2, .int 0, .int 0, .int 0, .int 0, .int 0, .int 0, .int 0, .int 0, .null, .int 0, .int 0, .int 0, .null, .null, .null, .int 0, .int 0, .int 0, .int 0, .null, .null, .null, .null, .null, .null, .int 0, .int 0, .int 0, .int 0, .int 0, .int 0, .int 0, .int 0, .int 0, .int 0, .int 0, .int 0, .null, .null, .null, .int 0]))], [(q_1, .inl (T.2 0, 3952, .inl (fun _ => 0)))], [(q_2, .inl (T.2 2, 3, .inl (fun _ => 0)))], [(q_3, .inl (T.2 0, 121, .inl (fun _ => 0)))]] _ _ := G
  refine z_putF C G hnm clX12 0 rfl 10 (by decide) m_fl_RX12_17 rfl rfl rfl rfl (Nat.le_of_ble_eq_true rfl) dX12_init_25 (fun H locs G => ?_)
  have G : zS T A s.heap s [[(mo, .inr (11, [.ref q_1, .ref q_2, .int 0, .int 0, .int 0, .int 0, .int 0, .int 0, .int 0, .int 0, .ref q_3, .int 0, .int 0, .int 0, .null, .null, .null, .int 0, .int 0, .int 0, .int 0, .null, .null, .null, .null, .null, .null, .int 0, .int 0, .int 0, .int 0, .int 0, .int 0, .int 0, .int 0, .int 0, .int 0, .int 0, .int 0, .null, .null, .null, .int 0]))], [(q_1, .inl (T.2 0, 3952, .inl (fun _ => 0)))], [(q_2, .inl (T.2 2, 3, .inl (fun _ => 0)))], [(q_3, .inl (T.2 0, 121, .inl (fun _ => 0)))]] _ _ := G
  refine lv_aload_n hx hb dX12_init_28 rfl (lv_at hl 0 rfl) ?_
  refine lv_bipush (v := 7) hx hb dX12_init_29 (by decide) ?_
  refine z_newa C G 0 (ty := .int) (N' := 7) (a0 := (7, .inl (fun _ => 0))) rfl z_uint m_ar_int rfl (fun _ => rfl) (by decide) (by decide) (Nat.le_of_ble_eq_true rfl) (Nat.le_of_ble_eq_true rfl) (Nat.le_of_ble_eq_true rfl) dX12_init_31 (fun q_4 H G => ?_)
  have G : zS T A s.heap s [[(mo, .inr (11, [.ref q_1, .ref q_2, .int 0, .int 0, .int 0, .int 0, .int 0, .int 0, .int 0, .int 0, .ref q_3, .int 0, .int 0, .int 0, .null, .null, .null, .int 0, .int 0, .int 0, .int 0, .null, .null, .null, .null, .null, .null, .int 0, .int 0, .int 0, .int 0, .int 0, .int 0, .int 0, .int 0, .int 0, .int 0, .int 0, .int 0, .null, .null, .null, .int 0]))], [(q_1, .inl (T.2 0, 3952, .inl (fun _ => 0)))], [(q_2, .inl (T.2 2, 3, .inl (fun _ => 0)))], [(q_3, .inl (T.2 0, 121, .inl (fun _ => 0)))], [(q_4, .inl (T.2 0, 7, .inl (fun _ => 0)))]] _ _ := G
  refine z_putF C G hnm clX12 0 rfl 14 (by decide) m_fl_RX12_20 rfl rfl rfl rfl (Nat.le_of_ble_eq_true rfl) dX12_init_33 (fun H locs G => ?_)
  have G : zS T A s.heap s [[(mo, .inr (11, [.ref q_1, .ref q_2, .int 0, .int 0, .int 0, .int 0, .int 0, .int 0, .int 0, .int 0, .ref q_3, .int 0, .int 0, .int 0, .ref q_4, .null, .null, .int 0, .int 0, .int 0, .int 0, .null, .null, .null, .null, .null, .null, .int 0, .int 0, .int 0, .int 0, .int 0, .int 0, .int 0, .int 0, .int 0, .int 0, .int 0, .int 0, .null, .null, .null, .int 0]))], [(q_1, .inl (T.2 0, 3952, .inl (fun _ => 0)))], [(q_2, .inl (T.2 2, 3, .inl (fun _ => 0)))], [(q_3, .inl (T.2 0, 121, .inl (fun _ => 0)))], [(q_4, .inl (T.2 0, 7, .inl (fun _ => 0)))]] _ _ := G
  refine lv_aload_n hx hb dX12_init_36 rfl (lv_at hl 0 rfl) ?_
  refine lv_bipush (v := 7) hx hb dX12_init_37 (by decide) ?_
  refine z_newa C G 0 (ty := .int) (N' := 7) (a0 := (7, .inl (fun _ => 0))) rfl z_uint m_ar_int rfl (fun _ => rfl) (by decide) (by decide) (Nat.le_of_ble_eq_true rfl) (Nat.le_of_ble_eq_true rfl) (Nat.le_of_ble_eq_true rfl) dX12_init_39 (fun q_5 H G => ?_)
  have G : zS T A s.heap s [[(mo, .inr (11, [.ref q_1, .ref q_2, .int 0, .int 0, .int 0, .int 0, .int 0, .int 0, .int 0, .int 0, .ref q_3, .int 0, .int 0, .int 0, .ref q_4, .null, .null, .int 0, .int 0, .int 0, .int 0, .null, .null, .null, .null, .null, .null, .int 0, .int 0, .int 0, .int 0, .int 0, .int 0, .int 0, .int 0, .int 0, .int 0, .int 0, .int 0, .null, .null, .null, .int 0]))], [(q_1, .inl (T.2 0, 3952, .inl (fun _ => 0)))], [(q_2, .inl (T.2 2, 3, .inl (fun _ => 0)))], [(q_3, .inl (T.2 0, 121, .inl (fun _ => 0)))], [(q_4, .inl (T.2 0, 7, .inl (fun _ => 0)))], [(q_5, .inl (T.2 0, 7, .inl (fun _ => 0)))]] _ _ := G
  refine z_putF C G hnm clX12 0 rfl 15 (by decide) m_fl_RX12_23 rfl rfl rfl rfl (Nat.le_of_ble_eq_true rfl) dX12_init_41 (fun H locs G => ?_)
  have G : zS T A s.heap s [[(mo, .inr (11, [.ref q_1, .ref q_2, .int 0, .int 0, .int 0, .int 0, .int 0, .int 0, .int 0, .int 0, .ref q_3, .int 0, .int 0, .int 0, .ref q_4, .ref q_5, .null, .int 0, .int 0, .int 0, .int 0, .null, .null, .null, .null, .null, .null, .int 0, .int 0, .int 0, .int 0, .int 0, .int 0, .int 0, .int 0, .int 0, .int 0, .int 0, .int 0, .null, .null, .null, .int 0]))], [(q_1, .inl (T.2 0, 3952, .inl (fun _ => 0)))], [(q_2, .inl (T.2 2, 3, .inl (fun _ => 0)))], [(q_3, .inl (T.2 0, 121, .inl (fun _ => 0)))], [(q_4, .inl (T.2 0, 7, .inl (fun _ => 0)))], [(q_5, .inl (T.2 0, 7, .inl (fun _ => 0)))]] _ _ := G
  refine lv_aload_n hx hb dX12_init_44 rfl (lv_at hl 0 rfl) ?_
  refine lv_bipush (v := 7) hx hb dX12_init_45 (by decide) ?_
  refine z_newa C G 0 (ty := .int) (N' := 7) (a0 := (7, .inl (fun _ => 0))) rfl z_uint m_ar_int rfl (fun _ => rfl) (by decide) (by decide) (Nat.le_of_ble_eq_true rfl) (Nat.le_of_ble_eq_true rfl) (Nat.le_of_ble_eq_true rfl) dX12_init_47 (fun q_6 H G => ?_)
  have G : zS T A s.heap s [[(mo, .inr (11, [.ref q_1, .ref q_2, .int 0, .int 0, .int 0, .int 0, .int 0, .int 0, .int 0, .int 0, .ref q_3, .int 0, .int 0, .int 0, .ref q_4, .ref q_5, .null, .int 0, .int 0, .int 0, .int 0, .null, .null, .null, .null, .null, .null, .int 0, .int 0, .int 0, .int 0, .int 0, .int 0, .int 0, .int 0, .int 0, .int 0, .int 0, .int 0, .null, .null, .null, .int 0]))], [(q_1, .inl (T.2 0, 3952, .inl (fun _ => 0)))], [(q_2, .inl (T.2 2, 3, .inl (fun _ => 0)))], [(q_3, .inl (T.2 0, 121, .inl (fun _ => 0)))], [(q_4, .inl (T.2 0, 7, .inl (fun _ => 0)))], [(q_5, .inl (T.2 0, 7, .inl (fun _ => 0)))], [(q_6, .inl (T.2 0, 7, .inl (fun _ => 0)))]] _ _ := G
  refine z_putF C G hnm clX12 0 rfl 16 (by decide) m_fl_RX12_26 rfl rfl rfl rfl (Nat.le_of_ble_eq_true rfl) dX12_init_49 (fun H locs G => ?_)
  have G : zS T A s.heap s [[(mo, .inr (11, [.ref q_1, .ref q_2, .int 0, .int 0, .int 0, .int 0, .int 0, .int 0, .int 0, .int 0, .ref q_3, .int 0, .int 0, .int 0, .ref q_4, .ref q_5, .ref q_6, .int 0, .int 0, .int 0, .int 0, .null, .null, .null, .null, .null, .null, .int 0, .int 0, .int 0, .int 0, .int 0, .int 0, .int 0, .int 0, .int 0, .int 0, .int 0, .int 0, .null, .null, .null, .int 0]))], [(q_1, .inl (T.2 0, 3952, .inl (fun _ => 0)))], [(q_2, .inl (T.2 2, 3, .inl (fun _ => 0)))], [(q_3, .inl (T.2 0, 121, .inl (fun _ => 0)))], [(q_4, .inl (T.2 0, 7, .inl (fun _ => 0)))], [(q_5, .inl (T.2 0, 7, .inl (fun _ => 0)))], [(q_6, .inl (T.2 0, 7, .inl (fun _ => 0)))]] _ _ := G
  refine lv_aload_n hx hb dX12_init_52 rfl (lv_at hl 0 rfl) ?_
  refine lv_bipush (v := 7) hx hb dX12_init_53 (by decide) ?_
  refine z_newa C G 0 (ty := .int) (N' := 7) (a0 := (7, .inl (fun _ => 0))) rfl z_uint m_ar_int rfl (fun _ => rfl) (by decide) (by decide) (Nat.le_of_ble_eq_true rfl) (Nat.le_of_ble_eq_true rfl) (Nat.le_of_ble_eq_true rfl) dX12_init_55 (fun q_7 H G => ?_)
  have G : zS T A s.heap s [[(mo, .inr (11, [.ref q_1, .ref q_2, .int 0, .int 0, .int 0, .int 0, .int 0, .int 0, .int 0, .int 0, .ref q_3, .int 0, .int 0, .int 0, .ref q_4, .ref q_5, .ref q_6, .int 0, .int 0, .int 0, .int 0, .null, .null, .null, .null, .null, .null, .int 0, .int 0, .int 0, .int 0, .int 0, .int 0, .int 0, .int 0, .int 0, .int 0, .int 0, .int 0, .null, .null, .null, .int 0]))], [(q_1, .inl (T.2 0, 3952, .inl (fun _ => 0)))], [(q_2, .inl (T.2 2, 3, .inl (fun _ => 0)))], [(q_3, .inl (T.2 0, 121, .inl (fun _ => 0)))], [(q_4, .inl (T.2 0, 7, .inl (fun _ => 0)))], [(q_5, .inl (T.2 0, 7, .inl (fun _ => 0)))], [(q_6, .inl (T.2 0, 7, .inl (fun _ => 0)))], [(q_7, .inl (T.2 0, 7, .inl (fun _ => 0)))]] _ _ := G
  refine z_putF C G hnm clX12 0 rfl 21 (by decide) m_fl_RX12_29 rfl rfl rfl rfl (Nat.le_of_ble_eq_true rfl) dX12_init_57 (fun H locs G => ?_)
  have G : zS T A s.heap s [[(mo, .inr (11, [.ref q_1, .ref q_2, .int 0, .int 0, .int 0, .int 0, .int 0, .int 0, .int 0, .int 0, .ref q_3, .int 0, .int 0, .int 0, .ref q_4, .ref q_5, .ref q_6, .int 0, .int 0, .int 0, .int 0, .ref q_7, .null, .null, .null, .null, .null, .int 0, .int 0, .int 0, .int 0, .int 0, .int 0, .int 0, .int 0, .int 0, .int 0, .int 0, .int 0, .null, .null, .null, .int 0]))], [(q_1, .inl (T.2 0, 3952, .inl (fun _ => 0)))], [(q_2, .inl (T.2 2, 3, .inl (fun _ => 0)))], [(q_3, .inl (T.2 0, 121, .inl (fun _ => 0)))], [(q_4, .inl (T.2 0, 7, .inl (fun _ => 0)))], [(q_5, .inl (T.2 0, 7, .inl (fun _ => 0)))], [(q_6, .inl (T.2 0, 7, .inl (fun _ => 0)))], [(q_7, .inl (T.2 0, 7, .inl (fun _ => 0)))]] _ _ := G
  refine lv_aload_n hx hb dX12_init_60 rfl (lv_at hl 0 rfl) ?_
  refine lv_bipush (v := 7) hx hb dX12_init_61 (by decide) ?_
  refine z_newa C G 0 (ty := .int) (N' := 7) (a0 := (7, .inl (fun _ => 0))) rfl z_uint m_ar_int rfl (fun _ => rfl) (by decide) (by decide) (Nat.le_of_ble_eq_true rfl) (Nat.le_of_ble_eq_true rfl) (Nat.le_of_ble_eq_true rfl) dX12_init_63 (fun q_8 H G => ?_)
  have G : zS T A s.heap s [[(mo, .inr (11, [.ref q_1, .ref q_2, .int 0, .int 0, .int 0, .int 0, .int 0, .int 0, .int 0, .int 0, .ref q_3, .int 0, .int 0, .int 0, .ref q_4, .ref q_5, .ref q_6, .int 0, .int 0, .int 0, .int 0, .ref q_7, .null, .null, .null, .null, .null, .int 0, .int 0, .int 0, .int 0, .int 0, .int 0, .int 0, .int 0, .int 0, .int 0, .int 0, .int 0, .null, .null, .null, .int 0]))], [(q_1, .inl (T.2 0, 3952, .inl (fun _ => 0)))], [(q_2, .inl (T.2 2, 3, .inl (fun _ => 0)))], [(q_3, .inl (T.2 0, 121, .inl (fun _ => 0)))], [(q_4, .inl (T.2 0, 7, .inl (fun _ => 0)))], [(q_5, .inl (T.2 0, 7, .inl (fun _ => 0)))], [(q_6, .inl (T.2 0, 7, .inl (fun _ => 0)))], [(q_7, .inl (T.2 0, 7, .inl (fun _ => 0)))], [(q_8, .inl (T.2 0, 7, .inl (fun _ => 0)))]] _ _ := G
  refine z_putF C G hnm clX12 0 rfl 22 (by decide) m_fl_RX12_32 rfl rfl rfl rfl (Nat.le_of_ble_eq_true rfl) dX12_init_65 (fun H locs G => ?_)
  have G : zS T A s.heap s [[(mo, .inr (11, [.ref q_1, .ref q_2, .int 0, .int 0, .int 0, .int 0, .int 0, .int 0, .int 0, .int 0, .ref q_3, .int 0, .int 0, .int 0, .ref q_4, .ref q_5, .ref q_6, .int 0, .int 0, .int 0, .int 0, .ref q_7, .ref q_8, .null, .null, .null, .null, .int 0, .int 0, .int 0, .int 0, .int 0, .int 0, .int 0, .int 0, .int 0, .int 0, .int 0, .int 0, .null, .null, .null, .int 0]))], [(q_1, .inl (T.2 0, 3952, .inl (fun _ => 0)))], [(q_2, .inl (T.2 2, 3, .inl (fun _ => 0)))], [(q_3, .inl (T.2 0, 121, .inl (fun _ => 0)))], [(q_4, .inl (T.2 0, 7, .inl (fun _ => 0)))], [(q_5, .inl (T.2 0, 7, .inl (fun _ => 0)))], [(q_6, .inl (T.2 0, 7, .inl (fun _ => 0)))], [(q_7, .inl (T.2 0, 7, .inl (fun _ => 0)))], [(q_8, .inl (T.2 0, 7, .inl (fun _ => 0)))]] _ _ := G
  refine lv_aload_n hx hb dX12_init_68 rfl (lv_at hl 0 rfl) ?_
  refine lv_sipush (v := 16384) hx hb dX12_init_69 (by decide) ?_
  refine z_newa C G 0 (ty := .int) (N' := 16384) (a0 := (16384, .inl (fun _ => 0))) rfl z_uint m_ar_int rfl (fun _ => rfl) (by decide) (by decide) (Nat.le_of_ble_eq_true rfl) (Nat.le_of_ble_eq_true rfl) (Nat.le_of_ble_eq_true rfl) dX12_init_72 (fun q_9 H G => ?_)
  have G : zS T A s.heap s [[(mo, .inr (11, [.ref q_1, .ref q_2, .int 0, .int 0, .int 0, .int 0, .int 0, .int 0, .int 0, .int 0, .ref q_3, .int 0, .int 0, .int 0, .ref q_4, .ref q_5, .ref q_6, .int 0, .int 0, .int 0, .int 0, .ref q_7, .ref q_8, .null, .null, .null, .null, .int 0, .int 0, .int 0, .int 0, .int 0, .int 0, .int 0, .int 0, .int 0, .int 0, .int 0, .int 0, .null, .null, .null, .int 0]))], [(q_1, .inl (T.2 0, 3952, .inl (fun _ => 0)))], [(q_2, .inl (T.2 2, 3, .inl (fun _ => 0)))], [(q_3, .inl (T.2 0, 121, .inl (fun _ => 0)))], [(q_4, .inl (T.2 0, 7, .inl (fun _ => 0)))], [(q_5, .inl (T.2 0, 7, .inl (fun _ => 0)))], [(q_6, .inl (T.2 0, 7, .inl (fun _ => 0)))], [(q_7, .inl (T.2 0, 7, .inl (fun _ => 0)))], [(q_8, .inl (T.2 0, 7, .inl (fun _ => 0)))], [(q_9, .inl (T.2 0, 16384, .inl (fun _ => 0)))]] _ _ := G
  refine z_putF C G hnm clX12 0 rfl 23 (by decide) m_fl_RX12_35 rfl rfl rfl rfl (Nat.le_of_ble_eq_true rfl) dX12_init_74 (fun H locs G => ?_)
  have G : zS T A s.heap s [[(mo, .inr (11, [.ref q_1, .ref q_2, .int 0, .int 0, .int 0, .int 0, .int 0, .int 0, .int 0, .int 0, .ref q_3, .int 0, .int 0, .int 0, .ref q_4, .ref q_5, .ref q_6, .int 0, .int 0, .int 0, .int 0, .ref q_7, .ref q_8, .ref q_9, .null, .null, .null, .int 0, .int 0, .int 0, .int 0, .int 0, .int 0, .int 0, .int 0, .int 0, .int 0, .int 0, .int 0, .null, .null, .null, .int 0]))], [(q_1, .inl (T.2 0, 3952, .inl (fun _ => 0)))], [(q_2, .inl (T.2 2, 3, .inl (fun _ => 0)))], [(q_3, .inl (T.2 0, 121, .inl (fun _ => 0)))], [(q_4, .inl (T.2 0, 7, .inl (fun _ => 0)))], [(q_5, .inl (T.2 0, 7, .inl (fun _ => 0)))], [(q_6, .inl (T.2 0, 7, .inl (fun _ => 0)))], [(q_7, .inl (T.2 0, 7, .inl (fun _ => 0)))], [(q_8, .inl (T.2 0, 7, .inl (fun _ => 0)))], [(q_9, .inl (T.2 0, 16384, .inl (fun _ => 0)))]] _ _ := G
  refine lv_aload_n hx hb dX12_init_77 rfl (lv_at hl 0 rfl) ?_
  refine lv_sipush (v := 512) hx hb dX12_init_78 (by decide) ?_
  refine z_newa C G 0 (ty := .int) (N' := 512) (a0 := (512, .inl (fun _ => 0))) rfl z_uint m_ar_int rfl (fun _ => rfl) (by decide) (by decide) (Nat.le_of_ble_eq_true rfl) (Nat.le_of_ble_eq_true rfl) (Nat.le_of_ble_eq_true rfl) dX12_init_81 (fun q_10 H G => ?_)
  have G : zS T A s.heap s [[(mo, .inr (11, [.ref q_1, .ref q_2, .int 0, .int 0, .int 0, .int 0, .int 0, .int 0, .int 0, .int 0, .ref q_3, .int 0, .int 0, .int 0, .ref q_4, .ref q_5, .ref q_6, .int 0, .int 0, .int 0, .int 0, .ref q_7, .ref q_8, .ref q_9, .null, .null, .null, .int 0, .int 0, .int 0, .int 0, .int 0, .int 0, .int 0, .int 0, .int 0, .int 0, .int 0, .int 0, .null, .null, .null, .int 0]))], [(q_1, .inl (T.2 0, 3952, .inl (fun _ => 0)))], [(q_2, .inl (T.2 2, 3, .inl (fun _ => 0)))], [(q_3, .inl (T.2 0, 121, .inl (fun _ => 0)))], [(q_4, .inl (T.2 0, 7, .inl (fun _ => 0)))], [(q_5, .inl (T.2 0, 7, .inl (fun _ => 0)))], [(q_6, .inl (T.2 0, 7, .inl (fun _ => 0)))], [(q_7, .inl (T.2 0, 7, .inl (fun _ => 0)))], [(q_8, .inl (T.2 0, 7, .inl (fun _ => 0)))], [(q_9, .inl (T.2 0, 16384, .inl (fun _ => 0)))], [(q_10, .inl (T.2 0, 512, .inl (fun _ => 0)))]] _ _ := G
  refine z_putF C G hnm clX12 0 rfl 24 (by decide) m_fl_RX12_38 rfl rfl rfl rfl (Nat.le_of_ble_eq_true rfl) dX12_init_83 (fun H locs G => ?_)
  have G : zS T A s.heap s [[(mo, .inr (11, [.ref q_1, .ref q_2, .int 0, .int 0, .int 0, .int 0, .int 0, .int 0, .int 0, .int 0, .ref q_3, .int 0, .int 0, .int 0, .ref q_4, .ref q_5, .ref q_6, .int 0, .int 0, .int 0, .int 0, .ref q_7, .ref q_8, .ref q_9, .ref q_10, .null, .null, .int 0, .int 0, .int 0, .int 0, .int 0, .int 0, .int 0, .int 0, .int 0, .int 0, .int 0, .int 0, .null, .null, .null, .int 0]))], [(q_1, .inl (T.2 0, 3952, .inl (fun _ => 0)))], [(q_2, .inl (T.2 2, 3, .inl (fun _ => 0)))], [(q_3, .inl (T.2 0, 121, .inl (fun _ => 0)))], [(q_4, .inl (T.2 0, 7, .inl (fun _ => 0)))], [(q_5, .inl (T.2 0, 7, .inl (fun _ => 0)))], [(q_6, .inl (T.2 0, 7, .inl (fun _ => 0)))], [(q_7, .inl (T.2 0, 7, .inl (fun _ => 0)))], [(q_8, .inl (T.2 0, 7, .inl (fun _ => 0)))], [(q_9, .inl (T.2 0, 16384, .inl (fun _ => 0)))], [(q_10, .inl (T.2 0, 512, .inl (fun _ => 0)))]] _ _ := G
  refine lv_aload_n hx hb dX12_init_86 rfl (lv_at hl 0 rfl) ?_
  refine lv_bipush (v := 49) hx hb dX12_init_87 (by decide) ?_
  refine z_newa C G 0 (ty := .int) (N' := 49) (a0 := (49, .inl (fun _ => 0))) rfl z_uint m_ar_int rfl (fun _ => rfl) (by decide) (by decide) (Nat.le_of_ble_eq_true rfl) (Nat.le_of_ble_eq_true rfl) (Nat.le_of_ble_eq_true rfl) dX12_init_89 (fun q_11 H G => ?_)
  have G : zS T A s.heap s [[(mo, .inr (11, [.ref q_1, .ref q_2, .int 0, .int 0, .int 0, .int 0, .int 0, .int 0, .int 0, .int 0, .ref q_3, .int 0, .int 0, .int 0, .ref q_4, .ref q_5, .ref q_6, .int 0, .int 0, .int 0, .int 0, .ref q_7, .ref q_8, .ref q_9, .ref q_10, .null, .null, .int 0, .int 0, .int 0, .int 0, .int 0, .int 0, .int 0, .int 0, .int 0, .int 0, .int 0, .int 0, .null, .null, .null, .int 0]))], [(q_1, .inl (T.2 0, 3952, .inl (fun _ => 0)))], [(q_2, .inl (T.2 2, 3, .inl (fun _ => 0)))], [(q_3, .inl (T.2 0, 121, .inl (fun _ => 0)))], [(q_4, .inl (T.2 0, 7, .inl (fun _ => 0)))], [(q_5, .inl (T.2 0, 7, .inl (fun _ => 0)))], [(q_6, .inl (T.2 0, 7, .inl (fun _ => 0)))], [(q_7, .inl (T.2 0, 7, .inl (fun _ => 0)))], [(q_8, .inl (T.2 0, 7, .inl (fun _ => 0)))], [(q_9, .inl (T.2 0, 16384, .inl (fun _ => 0)))], [(q_10, .inl (T.2 0, 512, .inl (fun _ => 0)))], [(q_11, .inl (T.2 0, 49, .inl (fun _ => 0)))]] _ _ := G
  refine z_putF C G hnm clX12 0 rfl 25 (by decide) m_fl_RX12_41 rfl rfl rfl rfl (Nat.le_of_ble_eq_true rfl) dX12_init_91 (fun H locs G => ?_)
  have G : zS T A s.heap s [[(mo, .inr (11, [.ref q_1, .ref q_2, .int 0, .int 0, .int 0, .int 0, .int 0, .int 0, .int 0, .int 0, .ref q_3, .int 0, .int 0, .int 0, .ref q_4, .ref q_5, .ref q_6, .int 0, .int 0, .int 0, .int 0, .ref q_7, .ref q_8, .ref q_9, .ref q_10, .ref q_11, .null, .int 0, .int 0, .int 0, .int 0, .int 0, .int 0, .int 0, .int 0, .int 0, .int 0, .int 0, .int 0, .null, .null, .null, .int 0]))], [(q_1, .inl (T.2 0, 3952, .inl (fun _ => 0)))], [(q_2, .inl (T.2 2, 3, .inl (fun _ => 0)))], [(q_3, .inl (T.2 0, 121, .inl (fun _ => 0)))], [(q_4, .inl (T.2 0, 7, .inl (fun _ => 0)))], [(q_5, .inl (T.2 0, 7, .inl (fun _ => 0)))], [(q_6, .inl (T.2 0, 7, .inl (fun _ => 0)))], [(q_7, .inl (T.2 0, 7, .inl (fun _ => 0)))], [(q_8, .inl (T.2 0, 7, .inl (fun _ => 0)))], [(q_9, .inl (T.2 0, 16384, .inl (fun _ => 0)))], [(q_10, .inl (T.2 0, 512, .inl (fun _ => 0)))], [(q_11, .inl (T.2 0, 49, .inl (fun _ => 0)))]] _ _ := G
  refine lv_aload_n hx hb dX12_init_94 rfl (lv_at hl 0 rfl) ?_
  refine lv_bipush (v := 7) hx hb dX12_init_95 (by decide) ?_
  refine z_newa C G 0 (ty := .int) (N' := 7) (a0 := (7, .inl (fun _ => 0))) rfl z_uint m_ar_int rfl (fun _ => rfl) (by decide) (by decide) (Nat.le_of_ble_eq_true rfl) (Nat.le_of_ble_eq_true rfl) (Nat.le_of_ble_eq_true rfl) dX12_init_97 (fun q_12 H G => ?_)
  have G : zS T A s.heap s [[(mo, .inr (11, [.ref q_1, .ref q_2, .int 0, .int 0, .int 0, .int 0, .int 0, .int 0, .int 0, .int 0, .ref q_3, .int 0, .int 0, .int 0, .ref q_4, .ref q_5, .ref q_6, .int 0, .int 0, .int 0, .int 0, .ref q_7, .ref q_8, .ref q_9, .ref q_10, .ref q_11, .null, .int 0, .int 0, .int 0, .int 0, .int 0, .int 0, .int 0, .int 0, .int 0, .int 0, .int 0, .int 0, .null, .null, .null, .int 0]))], [(q_1, .inl (T.2 0, 3952, .inl (fun _ => 0)))], [(q_2, .inl (T.2 2, 3, .inl (fun _ => 0)))], [(q_3, .inl (T.2 0, 121, .inl (fun _ => 0)))], [(q_4, .inl (T.2 0, 7, .inl (fun _ => 0)))], [(q_5, .inl (T.2 0, 7, .inl (fun _ => 0)))], [(q_6, .inl (T.2 0, 7, .inl (fun _ => 0)))], [(q_7, .inl (T.2 0, 7, .inl (fun _ => 0)))], [(q_8, .inl (T.2 0, 7, .inl (fun _ => 0)))], [(q_9, .inl (T.2 0, 16384, .inl (fun _ => 0)))], [(q_10, .inl (T.2 0, 512, .inl (fun _ => 0)))], [(q_11, .inl (T.2 0, 49, .inl (fun _ => 0)))], [(q_12, .inl (T.2 0, 7, .inl (fun _ => 0)))]] _ _ := G
  refine z_putF C G hnm clX12 0 rfl 26 (by decide) m_fl_RX12_44 rfl rfl rfl rfl (Nat.le_of_ble_eq_true rfl) dX12_init_99 (fun H locs G => ?_)
  have G : zS T A s.heap s [[(mo, .inr (11, [.ref q_1, .ref q_2, .int 0, .int 0, .int 0, .int 0, .int 0, .int 0, .int 0, .int 0, .ref q_3, .int 0, .int 0, .int 0, .ref q_4, .ref q_5, .ref q_6, .int 0, .int 0, .int 0, .int 0, .ref q_7, .ref q_8, .ref q_9, .ref q_10, .ref q_11, .ref q_12, .int 0, .int 0, .int 0, .int 0, .int 0, .int 0, .int 0, .int 0, .int 0, .int 0, .int 0, .int 0, .null, .null, .null, .int 0]))], [(q_1, .inl (T.2 0, 3952, .inl (fun _ => 0)))], [(q_2, .inl (T.2 2, 3, .inl (fun _ => 0)))], [(q_3, .inl (T.2 0, 121, .inl (fun _ => 0)))], [(q_4, .inl (T.2 0, 7, .inl (fun _ => 0)))], [(q_5, .inl (T.2 0, 7, .inl (fun _ => 0)))], [(q_6, .inl (T.2 0, 7, .inl (fun _ => 0)))], [(q_7, .inl (T.2 0, 7, .inl (fun _ => 0)))], [(q_8, .inl (T.2 0, 7, .inl (fun _ => 0)))], [(q_9, .inl (T.2 0, 16384, .inl (fun _ => 0)))], [(q_10, .inl (T.2 0, 512, .inl (fun _ => 0)))], [(q_11, .inl (T.2 0, 49, .inl (fun _ => 0)))], [(q_12, .inl (T.2 0, 7, .inl (fun _ => 0)))]] _ _ := G
  refine lv_aload_n hx hb dX12_init_102 rfl (lv_at hl 0 rfl) ?_
  refine lv_bipush (v := 28) hx hb dX12_init_103 (by decide) ?_
  refine z_newa C G 0 (ty := .int) (N' := 28) (a0 := (28, .inl (fun _ => 0))) rfl z_uint m_ar_int rfl (fun _ => rfl) (by decide) (by decide) (Nat.le_of_ble_eq_true rfl) (Nat.le_of_ble_eq_true rfl) (Nat.le_of_ble_eq_true rfl) dX12_init_105 (fun q_13 H G => ?_)
  have G : zS T A s.heap s [[(mo, .inr (11, [.ref q_1, .ref q_2, .int 0, .int 0, .int 0, .int 0, .int 0, .int 0, .int 0, .int 0, .ref q_3, .int 0, .int 0, .int 0, .ref q_4, .ref q_5, .ref q_6, .int 0, .int 0, .int 0, .int 0, .ref q_7, .ref q_8, .ref q_9, .ref q_10, .ref q_11, .ref q_12, .int 0, .int 0, .int 0, .int 0, .int 0, .int 0, .int 0, .int 0, .int 0, .int 0, .int 0, .int 0, .null, .null, .null, .int 0]))], [(q_1, .inl (T.2 0, 3952, .inl (fun _ => 0)))], [(q_2, .inl (T.2 2, 3, .inl (fun _ => 0)))], [(q_3, .inl (T.2 0, 121, .inl (fun _ => 0)))], [(q_4, .inl (T.2 0, 7, .inl (fun _ => 0)))], [(q_5, .inl (T.2 0, 7, .inl (fun _ => 0)))], [(q_6, .inl (T.2 0, 7, .inl (fun _ => 0)))], [(q_7, .inl (T.2 0, 7, .inl (fun _ => 0)))], [(q_8, .inl (T.2 0, 7, .inl (fun _ => 0)))], [(q_9, .inl (T.2 0, 16384, .inl (fun _ => 0)))], [(q_10, .inl (T.2 0, 512, .inl (fun _ => 0)))], [(q_11, .inl (T.2 0, 49, .inl (fun _ => 0)))], [(q_12, .inl (T.2 0, 7, .inl (fun _ => 0)))], [(q_13, .inl (T.2 0, 28, .inl (fun _ => 0)))]] _ _ := G
  refine z_putF C G hnm clX12 0 rfl 39 (by decide) m_fl_RX12_47 rfl rfl rfl rfl (Nat.le_of_ble_eq_true rfl) dX12_init_107 (fun H locs G => ?_)
  have G : zS T A s.heap s [[(mo, .inr (11, [.ref q_1, .ref q_2, .int 0, .int 0, .int 0, .int 0, .int 0, .int 0, .int 0, .int 0, .ref q_3, .int 0, .int 0, .int 0, .ref q_4, .ref q_5, .ref q_6, .int 0, .int 0, .int 0, .int 0, .ref q_7, .ref q_8, .ref q_9, .ref q_10, .ref q_11, .ref q_12, .int 0, .int 0, .int 0, .int 0, .int 0, .int 0, .int 0, .int 0, .int 0, .int 0, .int 0, .int 0, .ref q_13, .null, .null, .int 0]))], [(q_1, .inl (T.2 0, 3952, .inl (fun _ => 0)))], [(q_2, .inl (T.2 2, 3, .inl (fun _ => 0)))], [(q_3, .inl (T.2 0, 121, .inl (fun _ => 0)))], [(q_4, .inl (T.2 0, 7, .inl (fun _ => 0)))], [(q_5, .inl (T.2 0, 7, .inl (fun _ => 0)))], [(q_6, .inl (T.2 0, 7, .inl (fun _ => 0)))], [(q_7, .inl (T.2 0, 7, .inl (fun _ => 0)))], [(q_8, .inl (T.2 0, 7, .inl (fun _ => 0)))], [(q_9, .inl (T.2 0, 16384, .inl (fun _ => 0)))], [(q_10, .inl (T.2 0, 512, .inl (fun _ => 0)))], [(q_11, .inl (T.2 0, 49, .inl (fun _ => 0)))], [(q_12, .inl (T.2 0, 7, .inl (fun _ => 0)))], [(q_13, .inl (T.2 0, 28, .inl (fun _ => 0)))]] _ _ := G
  refine lv_aload_n hx hb dX12_init_110 rfl (lv_at hl 0 rfl) ?_
  refine lv_bipush (v := 49) hx hb dX12_init_111 (by decide) ?_
  refine z_newa C G 0 (ty := .int) (N' := 49) (a0 := (49, .inl (fun _ => 0))) rfl z_uint m_ar_int rfl (fun _ => rfl) (by decide) (by decide) (Nat.le_of_ble_eq_true rfl) (Nat.le_of_ble_eq_true rfl) (Nat.le_of_ble_eq_true rfl) dX12_init_113 (fun q_14 H G => ?_)
  have G : zS T A s.heap s [[(mo, .inr (11, [.ref q_1, .ref q_2, .int 0, .int 0, .int 0, .int 0, .int 0, .int 0, .int 0, .int 0, .ref q_3, .int 0, .int 0, .int 0, .ref q_4, .ref q_5, .ref q_6, .int 0, .int 0, .int 0, .int 0, .ref q_7, .ref q_8, .ref q_9, .ref q_10, .ref q_11, .ref q_12, .int 0, .int 0, .int 0, .int 0, .int 0, .int 0, .int 0, .int 0, .int 0, .int 0, .int 0, .int 0, .ref q_13, .null, .null, .int 0]))], [(q_1, .inl (T.2 0, 3952, .inl (fun _ => 0)))], [(q_2, .inl (T.2 2, 3, .inl (fun _ => 0)))], [(q_3, .inl (T.2 0, 121, .inl (fun _ => 0)))], [(q_4, .inl (T.2 0, 7, .inl (fun _ => 0)))], [(q_5, .inl (T.2 0, 7, .inl (fun _ => 0)))], [(q_6, .inl (T.2 0, 7, .inl (fun _ => 0)))], [(q_7, .inl (T.2 0, 7, .inl (fun _ => 0)))], [(q_8, .inl (T.2 0, 7, .inl (fun _ => 0)))], [(q_9, .inl (T.2 0, 16384, .inl (fun _ => 0)))], [(q_10, .inl (T.2 0, 512, .inl (fun _ => 0)))], [(q_11, .inl (T.2 0, 49, .inl (fun _ => 0)))], [(q_12, .inl (T.2 0, 7, .inl (fun _ => 0)))], [(q_13, .inl (T.2 0, 28, .inl (fun _ => 0)))], [(q_14, .inl (T.2 0, 49, .inl (fun _ => 0)))]] _ _ := G
  refine z_putF C G hnm clX12 0 rfl 40 (by decide) m_fl_RX12_50 rfl rfl rfl rfl (Nat.le_of_ble_eq_true rfl) dX12_init_115 (fun H locs G => ?_)
  have G : zS T A s.heap s [[(mo, .inr (11, [.ref q_1, .ref q_2, .int 0, .int 0, .int 0, .int 0, .int 0, .int 0, .int 0, .int 0, .ref q_3, .int 0, .int 0, .int 0, .ref q_4, .ref q_5, .ref q_6, .int 0, .int 0, .int 0, .int 0, .ref q_7, .ref q_8, .ref q_9, .ref q_10, .ref q_11, .ref q_12, .int 0, .int 0, .int 0, .int 0, .int 0, .int 0, .int 0, .int 0, .int 0, .int 0, .int 0, .int 0, .ref q_13, .ref q_14, .null, .int 0]))], [(q_1, .inl (T.2 0, 3952, .inl (fun _ => 0)))], [(q_2, .inl (T.2 2, 3, .inl (fun _ => 0)))], [(q_3, .inl (T.2 0, 121, .inl (fun _ => 0)))], [(q_4, .inl (T.2 0, 7, .inl (fun _ => 0)))], [(q_5, .inl (T.2 0, 7, .inl (fun _ => 0)))], [(q_6, .inl (T.2 0, 7, .inl (fun _ => 0)))], [(q_7, .inl (T.2 0, 7, .inl (fun _ => 0)))], [(q_8, .inl (T.2 0, 7, .inl (fun _ => 0)))], [(q_9, .inl (T.2 0, 16384, .inl (fun _ => 0)))], [(q_10, .inl (T.2 0, 512, .inl (fun _ => 0)))], [(q_11, .inl (T.2 0, 49, .inl (fun _ => 0)))], [(q_12, .inl (T.2 0, 7, .inl (fun _ => 0)))], [(q_13, .inl (T.2 0, 28, .inl (fun _ => 0)))], [(q_14, .inl (T.2 0, 49, .inl (fun _ => 0)))]] _ _ := G
  refine lv_aload_n hx hb dX12_init_118 rfl (lv_at hl 0 rfl) ?_
  refine lv_bipush (v := 7) hx hb dX12_init_119 (by decide) ?_
  refine z_newa C G 0 (ty := .int) (N' := 7) (a0 := (7, .inl (fun _ => 0))) rfl z_uint m_ar_int rfl (fun _ => rfl) (by decide) (by decide) (Nat.le_of_ble_eq_true rfl) (Nat.le_of_ble_eq_true rfl) (Nat.le_of_ble_eq_true rfl) dX12_init_121 (fun q_15 H G => ?_)
  have G : zS T A s.heap s [[(mo, .inr (11, [.ref q_1, .ref q_2, .int 0, .int 0, .int 0, .int 0, .int 0, .int 0, .int 0, .int 0, .ref q_3, .int 0, .int 0, .int 0, .ref q_4, .ref q_5, .ref q_6, .int 0, .int 0, .int 0, .int 0, .ref q_7, .ref q_8, .ref q_9, .ref q_10, .ref q_11, .ref q_12, .int 0, .int 0, .int 0, .int 0, .int 0, .int 0, .int 0, .int 0, .int 0, .int 0, .int 0, .int 0, .ref q_13, .ref q_14, .null, .int 0]))], [(q_1, .inl (T.2 0, 3952, .inl (fun _ => 0)))], [(q_2, .inl (T.2 2, 3, .inl (fun _ => 0)))], [(q_3, .inl (T.2 0, 121, .inl (fun _ => 0)))], [(q_4, .inl (T.2 0, 7, .inl (fun _ => 0)))], [(q_5, .inl (T.2 0, 7, .inl (fun _ => 0)))], [(q_6, .inl (T.2 0, 7, .inl (fun _ => 0)))], [(q_7, .inl (T.2 0, 7, .inl (fun _ => 0)))], [(q_8, .inl (T.2 0, 7, .inl (fun _ => 0)))], [(q_9, .inl (T.2 0, 16384, .inl (fun _ => 0)))], [(q_10, .inl (T.2 0, 512, .inl (fun _ => 0)))], [(q_11, .inl (T.2 0, 49, .inl (fun _ => 0)))], [(q_12, .inl (T.2 0, 7, .inl (fun _ => 0)))], [(q_13, .inl (T.2 0, 28, .inl (fun _ => 0)))], [(q_14, .inl (T.2 0, 49, .inl (fun _ => 0)))], [(q_15, .inl (T.2 0, 7, .inl (fun _ => 0)))]] _ _ := G
  refine z_putF C G hnm clX12 0 rfl 41 (by decide) m_fl_RX12_53 rfl rfl rfl rfl (Nat.le_of_ble_eq_true rfl) dX12_init_123 (fun H locs G => ?_)
  have G : zS T A s.heap s [[(mo, .inr (11, [.ref q_1, .ref q_2, .int 0, .int 0, .int 0, .int 0, .int 0, .int 0, .int 0, .int 0, .ref q_3, .int 0, .int 0, .int 0, .ref q_4, .ref q_5, .ref q_6, .int 0, .int 0, .int 0, .int 0, .ref q_7, .ref q_8, .ref q_9, .ref q_10, .ref q_11, .ref q_12, .int 0, .int 0, .int 0, .int 0, .int 0, .int 0, .int 0, .int 0, .int 0, .int 0, .int 0, .int 0, .ref q_13, .ref q_14, .ref q_15, .int 0]))], [(q_1, .inl (T.2 0, 3952, .inl (fun _ => 0)))], [(q_2, .inl (T.2 2, 3, .inl (fun _ => 0)))], [(q_3, .inl (T.2 0, 121, .inl (fun _ => 0)))], [(q_4, .inl (T.2 0, 7, .inl (fun _ => 0)))], [(q_5, .inl (T.2 0, 7, .inl (fun _ => 0)))], [(q_6, .inl (T.2 0, 7, .inl (fun _ => 0)))], [(q_7, .inl (T.2 0, 7, .inl (fun _ => 0)))], [(q_8, .inl (T.2 0, 7, .inl (fun _ => 0)))], [(q_9, .inl (T.2 0, 16384, .inl (fun _ => 0)))], [(q_10, .inl (T.2 0, 512, .inl (fun _ => 0)))], [(q_11, .inl (T.2 0, 49, .inl (fun _ => 0)))], [(q_12, .inl (T.2 0, 7, .inl (fun _ => 0)))], [(q_13, .inl (T.2 0, 28, .inl (fun _ => 0)))], [(q_14, .inl (T.2 0, 49, .inl (fun _ => 0)))], [(q_15, .inl (T.2 0, 7, .inl (fun _ => 0)))]] _ _ := G
  refine lv_aload_n hx hb dX12_init_126 rfl (lv_at hl 0 rfl) ?_
  refine z_get C G clX12 0 rfl 0 (by decide) m_fl_RX12_7 rfl dX12_init_127 ?_
  refine lv_bipush (v := 6) hx hb dX12_init_130 (by decide) ?_
  refine lv_iconst (v := (-1)) hx hb dX12_init_132 (by decide) ?_
  refine z_ist C G 1 rfl (vp_in_nI (n := 6) (by decide) (by decide)) dX12_init_133 (fun H locs G => ?_)
  have G : zS T A s.heap s [[(mo, .inr (11, [.ref q_1, .ref q_2, .int 0, .int 0, .int 0, .int 0, .int 0, .int 0, .int 0, .int 0, .ref q_3, .int 0, .int 0, .int 0, .ref q_4, .ref q_5, .ref q_6, .int 0, .int 0, .int 0, .int 0, .ref q_7, .ref q_8, .ref q_9, .ref q_10, .ref q_11, .ref q_12, .int 0, .int 0, .int 0, .int 0, .int 0, .int 0, .int 0, .int 0, .int 0, .int 0, .int 0, .int 0, .ref q_13, .ref q_14, .ref q_15, .int 0]))], [(q_1, .inl (T.2 0, 3952, .inl (upd (fun _ => 0) 6 (-1))))], [(q_2, .inl (T.2 2, 3, .inl (fun _ => 0)))], [(q_3, .inl (T.2 0, 121, .inl (fun _ => 0)))], [(q_4, .inl (T.2 0, 7, .inl (fun _ => 0)))], [(q_5, .inl (T.2 0, 7, .inl (fun _ => 0)))], [(q_6, .inl (T.2 0, 7, .inl (fun _ => 0)))], [(q_7, .inl (T.2 0, 7, .inl (fun _ => 0)))], [(q_8, .inl (T.2 0, 7, .inl (fun _ => 0)))], [(q_9, .inl (T.2 0, 16384, .inl (fun _ => 0)))], [(q_10, .inl (T.2 0, 512, .inl (fun _ => 0)))], [(q_11, .inl (T.2 0, 49, .inl (fun _ => 0)))], [(q_12, .inl (T.2 0, 7, .inl (fun _ => 0)))], [(q_13, .inl (T.2 0, 28, .inl (fun _ => 0)))], [(q_14, .inl (T.2 0, 49, .inl (fun _ => 0)))], [(q_15, .inl (T.2 0, 7, .inl (fun _ => 0)))]] _ _ := G
  exact z_vret C hr hlocks G (Nat.le_of_ble_eq_true rfl) (Nat.le_of_ble_eq_true rfl) dX12_init_134 ⟨q_1, q_2, q_3, q_4, q_5, q_6, q_7, q_8, q_9, q_10, q_11, q_12, q_13, q_14, q_15, rfl⟩
set_option maxHeartbeats 4000000 in
set_option maxRecDepth 100000 in
/-- c_m_end -/
theorem c_m_end (l : Launch) (T : zTy) (mo : Nat) (m_all : Nat) (m_has : Nat) (i_size : Int32) (i_next : Int32) (i_where : Int32) (i_token : Int32) (i_number : Int32) (i_word : Int32) (i_wrong : Int32) (i_farCrossing : Int32) (m_read : Nat) (i_z0 : Int32) (i_crossings : Int32) (i_inns : Int32) (m_posts : Nat) (m_shut : Nat) (m_here : Nat) (i_steps : Int32) (i_done : Int32) (i_at : Int32) (i_gone : Int32) (m_was : Nat) (m_came : Nat) (m_seenAt : Nat) (m_rowWorth : Nat) (m_farBy : Nat) (m_used : Nat) (i_everywhere : Int32) (i_again0 : Int32) (i_d0 : Int32) (i_never : Int32) (i_firstCame : Int32) (i_longRun : Int32) (i_moved : Int32) (i_crowd : Int32) (i_l0 : Int32) (i_fitMany : Int32) (i_fitLeast : Int32) (i_fitMost : Int32) (m_fitPost : Nat) (m_fitEnd : Nat) (m_keptPosts : Nat) (i_x0 : Int32) (f_all : Nat → Int32) (n : Int32) : zMi l T yX12_end cX12_end 2 (some .int) 1 0 0 [.ref mo, .int n] [[(mo, .inr (11, [.ref m_all, .ref m_has, .int i_size, .int i_next, .int i_where, .int i_token, .int i_number, .int i_word, .int i_wrong, .int i_farCrossing, .ref m_read, .int i_z0, .int i_crossings, .int i_inns, .ref m_posts, .ref m_shut, .ref m_here, .int i_steps, .int i_done, .int i_at, .int i_gone, .ref m_was, .ref m_came, .ref m_seenAt, .ref m_rowWorth, .ref m_farBy, .ref m_used, .int i_everywhere, .int i_again0, .int i_d0, .int i_never, .int i_firstCame, .int i_longRun, .int i_moved, .int i_crowd, .int i_l0, .int i_fitMany, .int i_fitLeast, .int i_fitMost, .ref m_fitPost, .ref m_fitEnd, .ref m_keptPosts, .int i_x0]))], [(m_all, .inl (T.2 0, 3952, .inl f_all))]] (fun (r : Int32) bs => ∃ (g_all : Nat → Int32), bs = [[(mo, .inr (11, [.ref m_all, .ref m_has, .int i_size, .int i_next, .int i_where, .int i_token, .int i_number, .int i_word, .int i_wrong, .int i_farCrossing, .ref m_read, .int i_z0, .int i_crossings, .int i_inns, .ref m_posts, .ref m_shut, .ref m_here, .int i_steps, .int i_done, .int i_at, .int i_gone, .ref m_was, .ref m_came, .ref m_seenAt, .ref m_rowWorth, .ref m_farBy, .ref m_used, .int i_everywhere, .int i_again0, .int i_d0, .int i_never, .int i_firstCame, .int i_longRun, .int i_moved, .int i_crowd, .int i_l0, .int i_fitMany, .int i_fitLeast, .int i_fitMost, .ref m_fitPost, .ref m_fitEnd, .ref m_keptPosts, .int i_x0]))], [(m_all, .inl (T.2 0, 3952, .inl g_all))]] ∧ ((n.toInt < 0 ∨ (f_all 4).toInt < n.toInt) ∧ r.toInt = -1 ∧ g_all = f_all ∨ (0 ≤ n.toInt ∧ n.toInt ≤ (f_all 4).toInt) ∧ g_all = upd f_all 4 n ∧ r = n)) := by
  refine zMi_of (own := RX12) (by decide) rfl (Nat.le_of_ble_eq_true rfl) ?_
  intro p e s m args below meth c A ls C hr hlocks hnm hAe G hl
  have hx := C.1
  have hb := C.2.1
  have hl : lv_has ls 2 [(0, .ref mo), (1, .int n)] := hl
  refine lv_iload_n hx hb dX12_end_0 rfl (lv_at hl 1 rfl) ?_
  refine lv_if_lt (tgt := 14) hx hb dX12_end_1 (by decide) (fun c_1 => ?_) (fun c_1 => ?_)
  · have c_1n : n.toInt < (0 : Int) := (fa_lt _ _).mp c_1
    refine lv_iconst (v := (-1)) hx hb dX12_end_14 (by decide) ?_
    exact z_iret C hr hlocks G (Nat.le_of_ble_eq_true rfl) (Nat.le_of_ble_eq_true rfl) dX12_end_15 ⟨f_all, rfl, (Or.inl ⟨by omega, by decide, rfl⟩)⟩
  · have c_1n : ¬ n.toInt < (0 : Int) := fun q => c_1 ((fa_lt _ _).mpr q)
    refine lv_iload_n hx hb dX12_end_4 rfl (lv_at hl 1 rfl) ?_
    refine lv_aload_n hx hb dX12_end_5 rfl (lv_at hl 0 rfl) ?_
    refine z_get C G clX12 0 rfl 0 (by decide) m_fl_RX12_7 rfl dX12_end_6 ?_
    refine lv_iconst (v := 4) hx hb dX12_end_9 (by decide) ?_
    refine z_ild C G 1 rfl (vp_in_nI (n := 4) (by decide) (by decide)) dX12_end_10 ?_
    refine lv_topi (fun v_2 ev_2 => ?_)
    rw [show ((4 : Int32).toNatClampNeg) = 4 from rfl] at ev_2
    subst ev_2
    refine lv_icmp_le (tgt := 16) hx hb dX12_end_11 (by decide) (fun c_3 => ?_) (fun c_3 => ?_)
    · have c_3n : n.toInt ≤ (f_all 4).toInt := (fa_le _ _).mp c_3
      refine lv_aload_n hx hb dX12_end_16 rfl (lv_at hl 0 rfl) ?_
      refine z_get C G clX12 0 rfl 0 (by decide) m_fl_RX12_7 rfl dX12_end_17 ?_
      refine lv_iconst (v := 4) hx hb dX12_end_20 (by decide) ?_
      refine lv_iload_n hx hb dX12_end_21 rfl (lv_at hl 1 rfl) ?_
      refine z_ist C G 1 rfl (vp_in_nI (n := 4) (by decide) (by decide)) dX12_end_22 (fun H locs G => ?_)
      have G : zS T A s.heap s [[(mo, .inr (11, [.ref m_all, .ref m_has, .int i_size, .int i_next, .int i_where, .int i_token, .int i_number, .int i_word, .int i_wrong, .int i_farCrossing, .ref m_read, .int i_z0, .int i_crossings, .int i_inns, .ref m_posts, .ref m_shut, .ref m_here, .int i_steps, .int i_done, .int i_at, .int i_gone, .ref m_was, .ref m_came, .ref m_seenAt, .ref m_rowWorth, .ref m_farBy, .ref m_used, .int i_everywhere, .int i_again0, .int i_d0, .int i_never, .int i_firstCame, .int i_longRun, .int i_moved, .int i_crowd, .int i_l0, .int i_fitMany, .int i_fitLeast, .int i_fitMost, .ref m_fitPost, .ref m_fitEnd, .ref m_keptPosts, .int i_x0]))], [(m_all, .inl (T.2 0, 3952, .inl (upd f_all 4 n)))]] _ _ := G
      refine lv_iload_n hx hb dX12_end_23 rfl (lv_at hl 1 rfl) ?_
      exact z_iret C hr hlocks G (Nat.le_of_ble_eq_true rfl) (Nat.le_of_ble_eq_true rfl) dX12_end_24 ⟨(upd f_all 4 n), rfl, (Or.inr ⟨by omega, rfl, rfl⟩)⟩
    · have c_3n : ¬ n.toInt ≤ (f_all 4).toInt := fun q => c_3 ((fa_le _ _).mpr q)
      refine lv_iconst (v := (-1)) hx hb dX12_end_14 (by decide) ?_
      exact z_iret C hr hlocks G (Nat.le_of_ble_eq_true rfl) (Nat.le_of_ble_eq_true rfl) dX12_end_15 ⟨f_all, rfl, (Or.inl ⟨by omega, by decide, rfl⟩)⟩
theorem dX12_feed_0 : decode cX12_feed 0 = .ok (.aload_n 0, 1) := zo_42 (by decide +kernel)
theorem dX12_feed_1 : decode cX12_feed 1 = .ok (.getfield 7, 3) := zo_180 (by decide +kernel)
theorem dX12_feed_4 : decode cX12_feed 4 = .ok (.iconst 4, 1) := zo_7 (by decide +kernel)
theorem dX12_feed_5 : decode cX12_feed 5 = .ok (.iaload, 1) := zo_46 (by decide +kernel)
theorem dX12_feed_6 : decode cX12_feed 6 = .ok (.bipush 20, 2) := zo_16 (by decide +kernel)
theorem dX12_feed_8 : decode cX12_feed 8 = .ok (.iadd, 1) := zo_96 (by decide +kernel)
theorem dX12_feed_9 : decode cX12_feed 9 = .ok (.sipush 600, 3) := zo_17 (by decide +kernel)
theorem dX12_feed_12 : decode cX12_feed 12 = .ok (.if_icmp .le 5, 3) := zo_164 (by decide +kernel)
theorem dX12_feed_15 : decode cX12_feed 15 = .ok (.iconst (-1), 1) := zo_2 (by decide +kernel)
theorem dX12_feed_16 : decode cX12_feed 16 = .ok (.ireturn, 1) := zo_172 (by decide +kernel)
theorem dX12_feed_17 : decode cX12_feed 17 = .ok (.iconst 0, 1) := zo_3 (by decide +kernel)
theorem dX12_feed_18 : decode cX12_feed 18 = .ok (.istore 6, 2) := zo_54 (by decide +kernel)
theorem dX12_feed_20 : decode cX12_feed 20 = .ok (.iload 6, 2) := zo_21 (by decide +kernel)
theorem dX12_feed_22 : decode cX12_feed 22 = .ok (.bipush 20, 2) := zo_16 (by decide +kernel)
theorem dX12_feed_24 : decode cX12_feed 24 = .ok (.if_icmp .ge 98, 3) := zo_162 (by decide +kernel)
theorem dX12_feed_27 : decode cX12_feed 27 = .ok (.iload 6, 2) := zo_21 (by decide +kernel)
theorem dX12_feed_29 : decode cX12_feed 29 = .ok (.iconst 4, 1) := zo_7 (by decide +kernel)
theorem dX12_feed_30 : decode cX12_feed 30 = .ok (.if_icmp .ge 7, 3) := zo_162 (by decide +kernel)
theorem dX12_feed_33 : decode cX12_feed 33 = .ok (.iload_n 1, 1) := zo_27 (by decide +kernel)
theorem dX12_feed_34 : decode cX12_feed 34 = .ok (.goto 39, 3) := zo_167 (by decide +kernel)
theorem dX12_feed_37 : decode cX12_feed 37 = .ok (.iload 6, 2) := zo_21 (by decide +kernel)
theorem dX12_feed_39 : decode cX12_feed 39 = .ok (.bipush 8, 2) := zo_16 (by decide +kernel)
theorem dX12_feed_41 : decode cX12_feed 41 = .ok (.if_icmp .ge 7, 3) := zo_162 (by decide +kernel)
theorem dX12_feed_44 : decode cX12_feed 44 = .ok (.iload_n 2, 1) := zo_28 (by decide +kernel)
theorem dX12_feed_45 : decode cX12_feed 45 = .ok (.goto 28, 3) := zo_167 (by decide +kernel)
theorem dX12_feed_48 : decode cX12_feed 48 = .ok (.iload 6, 2) := zo_21 (by decide +kernel)
theorem dX12_feed_50 : decode cX12_feed 50 = .ok (.bipush 12, 2) := zo_16 (by decide +kernel)
theorem dX12_feed_52 : decode cX12_feed 52 = .ok (.if_icmp .ge 7, 3) := zo_162 (by decide +kernel)
theorem dX12_feed_55 : decode cX12_feed 55 = .ok (.iload_n 3, 1) := zo_29 (by decide +kernel)
theorem dX12_feed_56 : decode cX12_feed 56 = .ok (.goto 17, 3) := zo_167 (by decide +kernel)
theorem dX12_feed_59 : decode cX12_feed 59 = .ok (.iload 6, 2) := zo_21 (by decide +kernel)
theorem dX12_feed_61 : decode cX12_feed 61 = .ok (.bipush 16, 2) := zo_16 (by decide +kernel)
theorem dX12_feed_63 : decode cX12_feed 63 = .ok (.if_icmp .ge 8, 3) := zo_162 (by decide +kernel)
theorem dX12_feed_66 : decode cX12_feed 66 = .ok (.iload 4, 2) := zo_21 (by decide +kernel)
theorem dX12_feed_68 : decode cX12_feed 68 = .ok (.goto 5, 3) := zo_167 (by decide +kernel)
theorem dX12_feed_71 : decode cX12_feed 71 = .ok (.iload 5, 2) := zo_21 (by decide +kernel)
theorem dX12_feed_73 : decode cX12_feed 73 = .ok (.istore 7, 2) := zo_54 (by decide +kernel)
theorem dX12_feed_75 : decode cX12_feed 75 = .ok (.aload_n 0, 1) := zo_42 (by decide +kernel)
theorem dX12_feed_76 : decode cX12_feed 76 = .ok (.getfield 7, 3) := zo_180 (by decide +kernel)
theorem dX12_feed_79 : decode cX12_feed 79 = .ok (.bipush 10, 2) := zo_16 (by decide +kernel)
theorem dX12_feed_81 : decode cX12_feed 81 = .ok (.aload_n 0, 1) := zo_42 (by decide +kernel)
theorem dX12_feed_82 : decode cX12_feed 82 = .ok (.getfield 7, 3) := zo_180 (by decide +kernel)
theorem dX12_feed_85 : decode cX12_feed 85 = .ok (.iconst 4, 1) := zo_7 (by decide +kernel)
theorem dX12_feed_86 : decode cX12_feed 86 = .ok (.iaload, 1) := zo_46 (by decide +kernel)
theorem dX12_feed_87 : decode cX12_feed 87 = .ok (.iadd, 1) := zo_96 (by decide +kernel)
theorem dX12_feed_88 : decode cX12_feed 88 = .ok (.iload 7, 2) := zo_21 (by decide +kernel)
theorem dX12_feed_90 : decode cX12_feed 90 = .ok (.bipush 24, 2) := zo_16 (by decide +kernel)
theorem dX12_feed_92 : decode cX12_feed 92 = .ok (.bipush 8, 2) := zo_16 (by decide +kernel)
theorem dX12_feed_94 : decode cX12_feed 94 = .ok (.iload 6, 2) := zo_21 (by decide +kernel)
theorem dX12_feed_96 : decode cX12_feed 96 = .ok (.iconst 4, 1) := zo_7 (by decide +kernel)
theorem dX12_feed_97 : decode cX12_feed 97 = .ok (.irem, 1) := zo_112 (by decide +kernel)
theorem dX12_feed_98 : decode cX12_feed 98 = .ok (.imul, 1) := zo_104 (by decide +kernel)
theorem dX12_feed_99 : decode cX12_feed 99 = .ok (.isub, 1) := zo_100 (by decide +kernel)
theorem dX12_feed_100 : decode cX12_feed 100 = .ok (.ishr, 1) := zo_122 (by decide +kernel)
theorem dX12_feed_101 : decode cX12_feed 101 = .ok (.sipush 255, 3) := zo_17 (by decide +kernel)
theorem dX12_feed_104 : decode cX12_feed 104 = .ok (.iand, 1) := zo_126 (by decide +kernel)
theorem dX12_feed_105 : decode cX12_feed 105 = .ok (.iastore, 1) := zo_79 (by decide +kernel)
theorem dX12_feed_106 : decode cX12_feed 106 = .ok (.aload_n 0, 1) := zo_42 (by decide +kernel)
theorem dX12_feed_107 : decode cX12_feed 107 = .ok (.getfield 7, 3) := zo_180 (by decide +kernel)
theorem dX12_feed_110 : decode cX12_feed 110 = .ok (.iconst 4, 1) := zo_7 (by decide +kernel)
theorem dX12_feed_111 : decode cX12_feed 111 = .ok (.dup2, 1) := zo_92 (by decide +kernel)
theorem dX12_feed_112 : decode cX12_feed 112 = .ok (.iaload, 1) := zo_46 (by decide +kernel)
theorem dX12_feed_113 : decode cX12_feed 113 = .ok (.iconst 1, 1) := zo_4 (by decide +kernel)
theorem dX12_feed_114 : decode cX12_feed 114 = .ok (.iadd, 1) := zo_96 (by decide +kernel)
theorem dX12_feed_115 : decode cX12_feed 115 = .ok (.iastore, 1) := zo_79 (by decide +kernel)
theorem dX12_feed_116 : decode cX12_feed 116 = .ok (.iinc 6 1, 3) := zo_132 (by decide +kernel)
theorem dX12_feed_119 : decode cX12_feed 119 = .ok (.goto (-99), 3) := zo_167 (by decide +kernel)
theorem dX12_feed_122 : decode cX12_feed 122 = .ok (.aload_n 0, 1) := zo_42 (by decide +kernel)
theorem dX12_feed_123 : decode cX12_feed 123 = .ok (.getfield 7, 3) := zo_180 (by decide +kernel)
theorem dX12_feed_126 : decode cX12_feed 126 = .ok (.iconst 4, 1) := zo_7 (by decide +kernel)
theorem dX12_feed_127 : decode cX12_feed 127 = .ok (.iaload, 1) := zo_46 (by decide +kernel)
theorem dX12_feed_128 : decode cX12_feed 128 = .ok (.ireturn, 1) := zo_172 (by decide +kernel)
theorem m_co_X12_isIn : Cond.code yX12_isIn cX12_isIn 3 (some .boolean) ∈ zT := zmem1 zsub_6 139 rfl rfl
theorem m_ml_RX12_111 : Cond.methodLink RX12 111 yX12_isIn ∈ zT := zmem1 zsub_6 137 rfl rfl
theorem m_st_X12_isIn : Cond.static yX12_isIn ∈ zT := zmem1 zsub_6 138 rfl rfl
theorem m_ii_RX12 : Cond.initialized RX12 ∈ zT := zmem1 zsub_1 12 rfl rfl
theorem kS_RX12_111 {R : Room} {s : State} {args : Array Value} {d mc ms : Nat} (hts : ∀ w ∈ zT, w.before args s = true) (h1 : d + 1 ≤ R.frames) (h2 : 8 + (3 + 11) + 40 * d ≤ R.locals) : CallB R s args RX12 111 yX12_isIn cX12_isIn 3 (some .boolean) (zW yX12_isIn cX12_isIn 3 (some .boolean)) (zR d mc ms) mc ms 3 ∧ (Cond.static yX12_isIn).before args s = true := z_cwS hts m_co_X12_isIn m_ml_RX12_111 m_st_X12_isIn m_ii_RX12 (by decide +kernel) h1 h2
theorem dX12_isIn_0 : decode cX12_isIn 0 = .ok (.iload_n 0, 1) := zo_26 (by decide +kernel)
theorem dX12_isIn_1 : decode cX12_isIn 1 = .ok (.iload_n 1, 1) := zo_27 (by decide +kernel)
theorem dX12_isIn_2 : decode cX12_isIn 2 = .ok (.if_icmp .lt 12, 3) := zo_161 (by decide +kernel)
theorem dX12_isIn_5 : decode cX12_isIn 5 = .ok (.iload_n 0, 1) := zo_26 (by decide +kernel)
theorem dX12_isIn_6 : decode cX12_isIn 6 = .ok (.iload_n 2, 1) := zo_28 (by decide +kernel)
theorem dX12_isIn_7 : decode cX12_isIn 7 = .ok (.if_icmp .gt 7, 3) := zo_163 (by decide +kernel)
theorem dX12_isIn_10 : decode cX12_isIn 10 = .ok (.iconst 1, 1) := zo_4 (by decide +kernel)
theorem dX12_isIn_11 : decode cX12_isIn 11 = .ok (.goto 4, 3) := zo_167 (by decide +kernel)
theorem dX12_isIn_14 : decode cX12_isIn 14 = .ok (.iconst 0, 1) := zo_3 (by decide +kernel)
theorem dX12_isIn_15 : decode cX12_isIn 15 = .ok (.ireturn, 1) := zo_172 (by decide +kernel)
theorem dX12_image_0 : decode cX12_image 0 = .ok (.iload_n 1, 1) := zo_27 (by decide +kernel)
theorem dX12_image_1 : decode cX12_image 1 = .ok (.iconst 0, 1) := zo_3 (by decide +kernel)
theorem dX12_image_2 : decode cX12_image 2 = .ok (.iconst 2, 1) := zo_5 (by decide +kernel)
theorem dX12_image_3 : decode cX12_image 3 = .ok (.invokestatic 111, 3) := zo_184 (by decide +kernel)
theorem dX12_image_6 : decode cX12_image 6 = .ok (.ifCond .ne 5, 3) := zo_154 (by decide +kernel)
theorem dX12_image_9 : decode cX12_image 9 = .ok (.iconst 0, 1) := zo_3 (by decide +kernel)
theorem dX12_image_10 : decode cX12_image 10 = .ok (.ireturn, 1) := zo_172 (by decide +kernel)
theorem dX12_image_11 : decode cX12_image 11 = .ok (.aload_n 0, 1) := zo_42 (by decide +kernel)
theorem dX12_image_12 : decode cX12_image 12 = .ok (.getfield 13, 3) := zo_180 (by decide +kernel)
theorem dX12_image_15 : decode cX12_image 15 = .ok (.iload_n 1, 1) := zo_27 (by decide +kernel)
theorem dX12_image_16 : decode cX12_image 16 = .ok (.iconst 1, 1) := zo_4 (by decide +kernel)
theorem dX12_image_17 : decode cX12_image 17 = .ok (.bastore, 1) := zo_84 (by decide +kernel)
theorem dX12_image_18 : decode cX12_image 18 = .ok (.iconst 0, 1) := zo_3 (by decide +kernel)
theorem dX12_image_19 : decode cX12_image 19 = .ok (.istore_n 2, 1) := zo_61 (by decide +kernel)
theorem dX12_image_20 : decode cX12_image 20 = .ok (.iload_n 2, 1) := zo_28 (by decide +kernel)
theorem dX12_image_21 : decode cX12_image 21 = .ok (.sipush 988, 3) := zo_17 (by decide +kernel)
theorem dX12_image_24 : decode cX12_image 24 = .ok (.if_icmp .ge 29, 3) := zo_162 (by decide +kernel)
theorem dX12_image_27 : decode cX12_image 27 = .ok (.aload_n 0, 1) := zo_42 (by decide +kernel)
theorem dX12_image_28 : decode cX12_image 28 = .ok (.getfield 7, 3) := zo_180 (by decide +kernel)
theorem dX12_image_31 : decode cX12_image 31 = .ok (.sipush 988, 3) := zo_17 (by decide +kernel)
theorem dX12_image_34 : decode cX12_image 34 = .ok (.iload_n 1, 1) := zo_27 (by decide +kernel)
theorem dX12_image_35 : decode cX12_image 35 = .ok (.iconst 1, 1) := zo_4 (by decide +kernel)
theorem dX12_image_36 : decode cX12_image 36 = .ok (.iadd, 1) := zo_96 (by decide +kernel)
theorem dX12_image_37 : decode cX12_image 37 = .ok (.imul, 1) := zo_104 (by decide +kernel)
theorem dX12_image_38 : decode cX12_image 38 = .ok (.iload_n 2, 1) := zo_28 (by decide +kernel)
theorem dX12_image_39 : decode cX12_image 39 = .ok (.iadd, 1) := zo_96 (by decide +kernel)
theorem dX12_image_40 : decode cX12_image 40 = .ok (.aload_n 0, 1) := zo_42 (by decide +kernel)
theorem dX12_image_41 : decode cX12_image 41 = .ok (.getfield 7, 3) := zo_180 (by decide +kernel)
theorem dX12_image_44 : decode cX12_image 44 = .ok (.iload_n 2, 1) := zo_28 (by decide +kernel)
theorem dX12_image_45 : decode cX12_image 45 = .ok (.iaload, 1) := zo_46 (by decide +kernel)
theorem dX12_image_46 : decode cX12_image 46 = .ok (.iastore, 1) := zo_79 (by decide +kernel)
theorem dX12_image_47 : decode cX12_image 47 = .ok (.iinc 2 1, 3) := zo_132 (by decide +kernel)
theorem dX12_image_50 : decode cX12_image 50 = .ok (.goto (-30), 3) := zo_167 (by decide +kernel)
theorem dX12_image_53 : decode cX12_image 53 = .ok (.iconst 1, 1) := zo_4 (by decide +kernel)
theorem dX12_image_54 : decode cX12_image 54 = .ok (.ireturn, 1) := zo_172 (by decide +kernel)
set_option maxHeartbeats 4000000 in
set_option maxRecDepth 100000 in
/-- c_m_isIn -/
theorem c_m_isIn (l : Launch) (T : zTy) (x : Int32) (y : Int32) (z : Int32) : zMi l T yX12_isIn cX12_isIn 3 (some .boolean) 1 0 0 [.int x, .int y, .int z] [] (fun (r : Int32) bs => bs = [] ∧ ((r = 1 ∧ y.toInt ≤ x.toInt ∧ x.toInt ≤ z.toInt) ∨ (r = 0 ∧ (x.toInt < y.toInt ∨ z.toInt < x.toInt)))) := by
  refine zMi_of (own := RX12) (by decide) rfl (Nat.le_of_ble_eq_true rfl) ?_
  intro p e s m args below meth c A ls C hr hlocks hnm hAe G hl
  have hx := C.1
  have hb := C.2.1
  have hl : lv_has ls 3 [(0, .int x), (1, .int y), (2, .int z)] := hl
  refine lv_iload_n hx hb dX12_isIn_0 rfl (lv_at hl 0 rfl) ?_
  refine lv_iload_n hx hb dX12_isIn_1 rfl (lv_at hl 1 rfl) ?_
  refine lv_icmp_lt (tgt := 14) hx hb dX12_isIn_2 (by decide) (fun c_1 => ?_) (fun c_1 => ?_)
  · have c_1n : x.toInt < y.toInt := (fa_lt _ _).mp c_1
    refine lv_iconst (v := 0) hx hb dX12_isIn_14 (by decide) ?_
    exact z_zret C hr hlocks G (Nat.le_of_ble_eq_true rfl) (Nat.le_of_ble_eq_true rfl) dX12_isIn_15 rfl ⟨rfl, (Or.inr (⟨rfl, (by first | with_reducible assumption | omega | assumption)⟩))⟩
  · have c_1n : ¬ x.toInt < y.toInt := fun q => c_1 ((fa_lt _ _).mpr q)
    refine lv_iload_n hx hb dX12_isIn_5 rfl (lv_at hl 0 rfl) ?_
    refine lv_iload_n hx hb dX12_isIn_6 rfl (lv_at hl 2 rfl) ?_
    refine lv_icmp_gt (tgt := 14) hx hb dX12_isIn_7 (by decide) (fun c_2 => ?_) (fun c_2 => ?_)
    · have c_2n : z.toInt < x.toInt := (fa_lt _ _).mp c_2
      refine lv_iconst (v := 0) hx hb dX12_isIn_14 (by decide) ?_
      exact z_zret C hr hlocks G (Nat.le_of_ble_eq_true rfl) (Nat.le_of_ble_eq_true rfl) dX12_isIn_15 rfl ⟨rfl, (Or.inr (⟨rfl, (by first | with_reducible assumption | omega | assumption)⟩))⟩
    · have c_2n : ¬ z.toInt < x.toInt := fun q => c_2 ((fa_lt _ _).mpr q)
      refine lv_iconst (v := 1) hx hb dX12_isIn_10 (by decide) ?_
      refine lv_goto (tgt := 15) hx hb dX12_isIn_11 (by decide) ?_
      exact z_zret C hr hlocks G (Nat.le_of_ble_eq_true rfl) (Nat.le_of_ble_eq_true rfl) dX12_isIn_15 rfl ⟨rfl, (Or.inl (⟨rfl, (by first | with_reducible assumption | omega | assumption), (by first | with_reducible assumption | omega | assumption)⟩))⟩
theorem z_upS {x f : Nat → Int32} {b i : Nat} {v : Int32} (h : ∀ j, j < i → x (b + j) = f j) (hv : v = f i) : ∀ j, j < i + 1 → upd x (b + i) v (b + j) = f j := by
  intro j hj
  unfold upd
  split
  · rename_i e
    rw [show j = i by omega]
    exact hv
  · exact h j (by omega)
theorem z_upO {x f : Nat → Int32} {p : Nat → Prop} {i : Nat} {v : Int32} (h : ∀ j, p j → x j = f j) (hi : ¬ p i) : ∀ j, p j → upd x i v j = f j := by
  intro j hj
  unfold upd
  split
  · rename_i e
    exact absurd (e ▸ hj) hi
  · exact h j hj
set_option maxHeartbeats 4000000 in
set_option maxRecDepth 100000 in
/-- c_m_image -/
theorem c_m_image (l : Launch) (T : zTy) (mo : Nat) (m_all : Nat) (m_has : Nat) (i_size : Int32) (i_next : Int32) (i_where : Int32) (i_token : Int32) (i_number : Int32) (i_word : Int32) (i_wrong : Int32) (i_farCrossing : Int32) (m_read : Nat) (i_z0 : Int32) (i_crossings : Int32) (i_inns : Int32) (m_posts : Nat) (m_shut : Nat) (m_here : Nat) (i_steps : Int32) (i_done : Int32) (i_at : Int32) (i_gone : Int32) (m_was : Nat) (m_came : Nat) (m_seenAt : Nat) (m_rowWorth : Nat) (m_farBy : Nat) (m_used : Nat) (i_everywhere : Int32) (i_again0 : Int32) (i_d0 : Int32) (i_never : Int32) (i_firstCame : Int32) (i_longRun : Int32) (i_moved : Int32) (i_crowd : Int32) (i_l0 : Int32) (i_fitMany : Int32) (i_fitLeast : Int32) (i_fitMost : Int32) (m_fitPost : Nat) (m_fitEnd : Nat) (m_keptPosts : Nat) (i_x0 : Int32) (f_all : Nat → Int32) (f_has : Nat → Int32) (k_ : Int32) : zMi l T yX12_image cX12_image 3 (some .boolean) 2 0 0 [.ref mo, .int k_] [[(mo, .inr (11, [.ref m_all, .ref m_has, .int i_size, .int i_next, .int i_where, .int i_token, .int i_number, .int i_word, .int i_wrong, .int i_farCrossing, .ref m_read, .int i_z0, .int i_crossings, .int i_inns, .ref m_posts, .ref m_shut, .ref m_here, .int i_steps, .int i_done, .int i_at, .int i_gone, .ref m_was, .ref m_came, .ref m_seenAt, .ref m_rowWorth, .ref m_farBy, .ref m_used, .int i_everywhere, .int i_again0, .int i_d0, .int i_never, .int i_firstCame, .int i_longRun, .int i_moved, .int i_crowd, .int i_l0, .int i_fitMany, .int i_fitLeast, .int i_fitMost, .ref m_fitPost, .ref m_fitEnd, .ref m_keptPosts, .int i_x0]))], [(m_all, .inl (T.2 0, 3952, .inl f_all))], [(m_has, .inl (T.2 2, 3, .inl f_has))]] (fun (r : Int32) bs => ∃ (g_all : Nat → Int32) (g_has : Nat → Int32), bs = [[(mo, .inr (11, [.ref m_all, .ref m_has, .int i_size, .int i_next, .int i_where, .int i_token, .int i_number, .int i_word, .int i_wrong, .int i_farCrossing, .ref m_read, .int i_z0, .int i_crossings, .int i_inns, .ref m_posts, .ref m_shut, .ref m_here, .int i_steps, .int i_done, .int i_at, .int i_gone, .ref m_was, .ref m_came, .ref m_seenAt, .ref m_rowWorth, .ref m_farBy, .ref m_used, .int i_everywhere, .int i_again0, .int i_d0, .int i_never, .int i_firstCame, .int i_longRun, .int i_moved, .int i_crowd, .int i_l0, .int i_fitMany, .int i_fitLeast, .int i_fitMost, .ref m_fitPost, .ref m_fitEnd, .ref m_keptPosts, .int i_x0]))], [(m_all, .inl (T.2 0, 3952, .inl g_all))], [(m_has, .inl (T.2 2, 3, .inl g_has))]] ∧ (r = 0 ∧ (k_.toInt < 0 ∨ 3 ≤ k_.toInt) ∧ g_all = f_all ∧ g_has = f_has ∨ r = 1 ∧ (0 ≤ k_.toInt ∧ k_.toInt < 3) ∧ (∀ j, j < 988 → g_all (988 * (k_.toNatClampNeg + 1) + j) = f_all j) ∧ (∀ j, (j < 988 * (k_.toNatClampNeg + 1) ∨ 988 * (k_.toNatClampNeg + 1) + 988 ≤ j) → g_all j = f_all j) ∧ g_has = upd f_has k_.toNatClampNeg 1)) := by
  refine zMi_of (own := RX12) (by decide) rfl (Nat.le_of_ble_eq_true rfl) ?_
  intro p e s m args below meth c A ls C hr hlocks hnm hAe G hl
  have hx := C.1
  have hb := C.2.1
  have hl : lv_has ls 3 [(0, .ref mo), (1, .int k_)] := hl
  refine lv_iload_n hx hb dX12_image_0 rfl (lv_at hl 1 rfl) ?_
  refine lv_iconst (v := 0) hx hb dX12_image_1 (by decide) ?_
  refine lv_iconst (v := 2) hx hb dX12_image_2 (by decide) ?_
  refine z_Si (bc := []) (br := [[(mo, .inr (11, [.ref m_all, .ref m_has, .int i_size, .int i_next, .int i_where, .int i_token, .int i_number, .int i_word, .int i_wrong, .int i_farCrossing, .ref m_read, .int i_z0, .int i_crossings, .int i_inns, .ref m_posts, .ref m_shut, .ref m_here, .int i_steps, .int i_done, .int i_at, .int i_gone, .ref m_was, .ref m_came, .ref m_seenAt, .ref m_rowWorth, .ref m_farBy, .ref m_used, .int i_everywhere, .int i_again0, .int i_d0, .int i_never, .int i_firstCame, .int i_longRun, .int i_moved, .int i_crowd, .int i_l0, .int i_fitMany, .int i_fitLeast, .int i_fitMost, .ref m_fitPost, .ref m_fitEnd, .ref m_keptPosts, .int i_x0]))], [(m_all, .inl (T.2 0, 3952, .inl f_all))], [(m_has, .inl (T.2 2, 3, .inl f_has))]]) (As := [.int k_, .int 0, .int 2]) (rest := []) C G (c_m_isIn l T k_ 0 2) (kS_RX12_111 C.2.2.2.2 (Nat.le_of_ble_eq_true rfl) (Nat.le_of_ble_eq_true rfl)) [] [0, 1, 2] rfl rfl rfl rfl hl.1 dX12_image_3 (Nat.le_of_ble_eq_true rfl) (Nat.le_of_ble_eq_true rfl) (fun r_2 b1 H locs hw G => ?_)
  refine zAn2 hw ?_
  intro hbs9 hc_1
  clear hw
  subst hbs9
  have G : zS T A s.heap s [[(mo, .inr (11, [.ref m_all, .ref m_has, .int i_size, .int i_next, .int i_where, .int i_token, .int i_number, .int i_word, .int i_wrong, .int i_farCrossing, .ref m_read, .int i_z0, .int i_crossings, .int i_inns, .ref m_posts, .ref m_shut, .ref m_here, .int i_steps, .int i_done, .int i_at, .int i_gone, .ref m_was, .ref m_came, .ref m_seenAt, .ref m_rowWorth, .ref m_farBy, .ref m_used, .int i_everywhere, .int i_again0, .int i_d0, .int i_never, .int i_firstCame, .int i_longRun, .int i_moved, .int i_crowd, .int i_l0, .int i_fitMany, .int i_fitLeast, .int i_fitMost, .ref m_fitPost, .ref m_fitEnd, .ref m_keptPosts, .int i_x0]))], [(m_all, .inl (T.2 0, 3952, .inl f_all))], [(m_has, .inl (T.2 2, 3, .inl f_has))]] _ _ := G
  rcases hc_1 with ⟨rfl, h_3, h_4⟩ | ⟨rfl, h_5⟩
  · have h_3 : (0 : Int) ≤ k_.toInt := h_3
    have h_4 : k_.toInt ≤ (2 : Int) := h_4
    refine lv_if_ne (tgt := 11) hx hb dX12_image_6 (by decide) (fun _ => ?_) (fun q => absurd q (by decide))
    rcases (show k_.toInt = 0 ∨ k_.toInt = 1 ∨ k_.toInt = 2 from by omega) with hk | hk | hk
    · obtain rfl : k_ = 0 := Int32.toInt_inj.mp hk
      refine lv_aload_n hx hb dX12_image_11 rfl (lv_at hl 0 rfl) ?_
      refine z_get C G clX12 0 rfl 1 (by decide) m_fl_RX12_13 rfl dX12_image_12 ?_
      refine lv_iload_n hx hb dX12_image_15 rfl (lv_at hl 1 rfl) ?_
      refine lv_iconst (v := 1) hx hb dX12_image_16 (by decide) ?_
      refine z_zst C G 2 rfl (vp_in_nI (n := 0) (by decide) (by decide)) dX12_image_17 (fun H locs G => ?_)
      have G : zS T A s.heap s [[(mo, .inr (11, [.ref m_all, .ref m_has, .int i_size, .int i_next, .int i_where, .int i_token, .int i_number, .int i_word, .int i_wrong, .int i_farCrossing, .ref m_read, .int i_z0, .int i_crossings, .int i_inns, .ref m_posts, .ref m_shut, .ref m_here, .int i_steps, .int i_done, .int i_at, .int i_gone, .ref m_was, .ref m_came, .ref m_seenAt, .ref m_rowWorth, .ref m_farBy, .ref m_used, .int i_everywhere, .int i_again0, .int i_d0, .int i_never, .int i_firstCame, .int i_longRun, .int i_moved, .int i_crowd, .int i_l0, .int i_fitMany, .int i_fitLeast, .int i_fitMost, .ref m_fitPost, .ref m_fitEnd, .ref m_keptPosts, .int i_x0]))], [(m_all, .inl (T.2 0, 3952, .inl f_all))], [(m_has, .inl (T.2 2, 3, .inl (upd f_has 0 (vp_nar .boolean 1))))]] _ _ := G
      refine lv_iconst (v := 0) hx hb dX12_image_18 (by decide) ?_
      refine lv_istore_n (lv' := [(2, .int 0), (0, .ref mo), (1, .int 0)]) hx hb dX12_image_19 rfl hl (by decide) rfl (fun ls hl => ?_)
      refine z_lp2 (T := T) 20 (fun (i : Nat) (x : Nat → Int32) => [[(mo, .inr (11, [.ref m_all, .ref m_has, .int i_size, .int i_next, .int i_where, .int i_token, .int i_number, .int i_word, .int i_wrong, .int i_farCrossing, .ref m_read, .int i_z0, .int i_crossings, .int i_inns, .ref m_posts, .ref m_shut, .ref m_here, .int i_steps, .int i_done, .int i_at, .int i_gone, .ref m_was, .ref m_came, .ref m_seenAt, .ref m_rowWorth, .ref m_farBy, .ref m_used, .int i_everywhere, .int i_again0, .int i_d0, .int i_never, .int i_firstCame, .int i_longRun, .int i_moved, .int i_crowd, .int i_l0, .int i_fitMany, .int i_fitLeast, .int i_fitMost, .ref m_fitPost, .ref m_fitEnd, .ref m_keptPosts, .int i_x0]))], [(m_all, .inl (T.2 0, 3952, .inl x))], [(m_has, .inl (T.2 2, 3, .inl (upd f_has 0 (vp_nar .boolean 1))))]]) (fun (i : Nat) (x : Nat → Int32) => [(2, .int (nI i)), (0, .ref mo), (1, .int 0)]) (fun (i : Nat) (x : Nat → Int32) => i ≤ 988 ∧ (∀ j, j < i → x (988 + j) = f_all j) ∧ (∀ j, (j < 988 ∨ 1976 ≤ j) → x j = f_all j)) (fun (i : Nat) (x : Nat → Int32) => 988 - i) ?_ 0 f_all (show 0 ≤ 988 ∧ (∀ j, j < 0 → f_all (988 + j) = f_all j) ∧ (∀ j, (j < 988 ∨ 1976 ≤ j) → f_all j = f_all j) from ⟨by omega, fun j hj => absurd hj (by omega), fun j _ => rfl⟩) G (lv_sub hl [0, 1, 2] rfl)
      intro i x hI9 ih_20 H locs ls G hl
      replace hI9 : i ≤ 988 ∧ (∀ j, j < i → x (988 + j) = f_all j) ∧ (∀ j, (j < 988 ∨ 1976 ≤ j) → x j = f_all j) := hI9
      refine zAn3 hI9 ?_
      intro hi hS hO
      clear hI9
      replace G : zS T A s.heap s [[(mo, .inr (11, [.ref m_all, .ref m_has, .int i_size, .int i_next, .int i_where, .int i_token, .int i_number, .int i_word, .int i_wrong, .int i_farCrossing, .ref m_read, .int i_z0, .int i_crossings, .int i_inns, .ref m_posts, .ref m_shut, .ref m_here, .int i_steps, .int i_done, .int i_at, .int i_gone, .ref m_was, .ref m_came, .ref m_seenAt, .ref m_rowWorth, .ref m_farBy, .ref m_used, .int i_everywhere, .int i_again0, .int i_d0, .int i_never, .int i_firstCame, .int i_longRun, .int i_moved, .int i_crowd, .int i_l0, .int i_fitMany, .int i_fitLeast, .int i_fitMost, .ref m_fitPost, .ref m_fitEnd, .ref m_keptPosts, .int i_x0]))], [(m_all, .inl (T.2 0, 3952, .inl x))], [(m_has, .inl (T.2 2, 3, .inl (upd f_has 0 (vp_nar .boolean 1))))]] _ _ := G
      replace hl : lv_has ls 3 [(2, .int (nI i)), (0, .ref mo), (1, .int 0)] := hl
      refine lv_iload_n hx hb dX12_image_20 rfl (lv_at hl 0 rfl) ?_
      refine lv_sipush (v := 988) hx hb dX12_image_21 (by decide) ?_
      refine lv_icmp_ge (tgt := 53) hx hb dX12_image_24 (by decide) (fun c_6 => ?_) (fun c_6 => ?_)
      · have c_6n : 988 ≤ i := (nI_leI (a := 988) (b := i) (by omega) (by omega)).mp c_6
        refine lv_iconst (v := 1) hx hb dX12_image_53 (by decide) ?_
        exact z_zret C hr hlocks G (Nat.le_of_ble_eq_true rfl) (Nat.le_of_ble_eq_true rfl) dX12_image_54 rfl ⟨x, (upd f_has 0 (vp_nar .boolean 1)), rfl, (Or.inr ⟨rfl, by decide, fun j hj => hS j (by omega), hO, rfl⟩)⟩
      · have c_6n : ¬ 988 ≤ i := fun q => c_6 ((nI_leI (a := 988) (b := i) (by omega) (by omega)).mpr q)
        refine lv_aload_n hx hb dX12_image_27 rfl (lv_at hl 1 rfl) ?_
        refine z_get C G clX12 0 rfl 0 (by decide) m_fl_RX12_7 rfl dX12_image_28 ?_
        refine lv_sipush (v := 988) hx hb dX12_image_31 (by decide) ?_
        refine lv_iload_n hx hb dX12_image_34 rfl (lv_at hl 2 rfl) ?_
        refine lv_iconst (v := 1) hx hb dX12_image_35 (by decide) ?_
        refine lv_iadd hx hb dX12_image_36 ?_
        refine lv_topi (fun y_7 ey_7 => ?_)
        obtain rfl : y_7 = 1 := ey_7.trans (by decide)
        refine lv_imul hx hb dX12_image_37 ?_
        refine lv_topi (fun y_8 ey_8 => ?_)
        obtain rfl : y_8 = 988 := ey_8.trans (by decide)
        refine lv_iload_n hx hb dX12_image_38 rfl (lv_at hl 0 rfl) ?_
        refine lv_iadd hx hb dX12_image_39 ?_
        refine lv_topi (fun y_9 ey_9 => ?_)
        obtain rfl : y_9 = nI (988 + i) := ey_9.trans (z_iaddn 988 i rfl rfl)
        refine lv_aload_n hx hb dX12_image_40 rfl (lv_at hl 1 rfl) ?_
        refine z_get C G clX12 0 rfl 0 (by decide) m_fl_RX12_7 rfl dX12_image_41 ?_
        refine lv_iload_n hx hb dX12_image_44 rfl (lv_at hl 0 rfl) ?_
        refine z_ild C G 1 rfl (vp_in_nI (by omega) (by omega)) dX12_image_45 ?_
        refine lv_topi (fun v_10 ev_10 => ?_)
        rw [nI_clamp (by omega)] at ev_10
        subst ev_10
        refine z_ist C G 1 rfl (vp_in_nI (by omega) (by omega)) dX12_image_46 (fun H locs G => ?_)
        rw [nI_clamp (by omega)] at G
        have G : zS T A s.heap s [[(mo, .inr (11, [.ref m_all, .ref m_has, .int i_size, .int i_next, .int i_where, .int i_token, .int i_number, .int i_word, .int i_wrong, .int i_farCrossing, .ref m_read, .int i_z0, .int i_crossings, .int i_inns, .ref m_posts, .ref m_shut, .ref m_here, .int i_steps, .int i_done, .int i_at, .int i_gone, .ref m_was, .ref m_came, .ref m_seenAt, .ref m_rowWorth, .ref m_farBy, .ref m_used, .int i_everywhere, .int i_again0, .int i_d0, .int i_never, .int i_firstCame, .int i_longRun, .int i_moved, .int i_crowd, .int i_l0, .int i_fitMany, .int i_fitLeast, .int i_fitMost, .ref m_fitPost, .ref m_fitEnd, .ref m_keptPosts, .int i_x0]))], [(m_all, .inl (T.2 0, 3952, .inl (upd x (988 + i) (x i))))], [(m_has, .inl (T.2 2, 3, .inl (upd f_has 0 (vp_nar .boolean 1))))]] _ _ := G
        refine lv_iinc (v := nI (i + 1)) (lv' := [(2, .int (nI (i + 1))), (0, .ref mo), (1, .int 0)]) hx hb dX12_image_47 hl (k := 0) rfl (z_inc i 1) (by decide) rfl (fun ls hl => ?_)
        refine lv_goto (tgt := 20) hx hb dX12_image_50 (by decide) ?_
        exact ih_20 (i + 1) (upd x (988 + i) (x i)) (show (i + 1) ≤ 988 ∧ (∀ j, j < (i + 1) → (upd x (988 + i) (x i)) (988 + j) = f_all j) ∧ (∀ j, (j < 988 ∨ 1976 ≤ j) → (upd x (988 + i) (x i)) j = f_all j) from ⟨by omega, z_upS hS (hO i (by omega)), z_upO hO (by omega)⟩) (show 988 - (i + 1) < 988 - i from by omega) _ _ ls G (lv_sub hl [0, 1, 2] rfl)
    · obtain rfl : k_ = 1 := Int32.toInt_inj.mp hk
      refine lv_aload_n hx hb dX12_image_11 rfl (lv_at hl 0 rfl) ?_
      refine z_get C G clX12 0 rfl 1 (by decide) m_fl_RX12_13 rfl dX12_image_12 ?_
      refine lv_iload_n hx hb dX12_image_15 rfl (lv_at hl 1 rfl) ?_
      refine lv_iconst (v := 1) hx hb dX12_image_16 (by decide) ?_
      refine z_zst C G 2 rfl (vp_in_nI (n := 1) (by decide) (by decide)) dX12_image_17 (fun H locs G => ?_)
      have G : zS T A s.heap s [[(mo, .inr (11, [.ref m_all, .ref m_has, .int i_size, .int i_next, .int i_where, .int i_token, .int i_number, .int i_word, .int i_wrong, .int i_farCrossing, .ref m_read, .int i_z0, .int i_crossings, .int i_inns, .ref m_posts, .ref m_shut, .ref m_here, .int i_steps, .int i_done, .int i_at, .int i_gone, .ref m_was, .ref m_came, .ref m_seenAt, .ref m_rowWorth, .ref m_farBy, .ref m_used, .int i_everywhere, .int i_again0, .int i_d0, .int i_never, .int i_firstCame, .int i_longRun, .int i_moved, .int i_crowd, .int i_l0, .int i_fitMany, .int i_fitLeast, .int i_fitMost, .ref m_fitPost, .ref m_fitEnd, .ref m_keptPosts, .int i_x0]))], [(m_all, .inl (T.2 0, 3952, .inl f_all))], [(m_has, .inl (T.2 2, 3, .inl (upd f_has 1 (vp_nar .boolean 1))))]] _ _ := G
      refine lv_iconst (v := 0) hx hb dX12_image_18 (by decide) ?_
      refine lv_istore_n (lv' := [(2, .int 0), (0, .ref mo), (1, .int 1)]) hx hb dX12_image_19 rfl hl (by decide) rfl (fun ls hl => ?_)
      refine z_lp2 (T := T) 20 (fun (i : Nat) (x : Nat → Int32) => [[(mo, .inr (11, [.ref m_all, .ref m_has, .int i_size, .int i_next, .int i_where, .int i_token, .int i_number, .int i_word, .int i_wrong, .int i_farCrossing, .ref m_read, .int i_z0, .int i_crossings, .int i_inns, .ref m_posts, .ref m_shut, .ref m_here, .int i_steps, .int i_done, .int i_at, .int i_gone, .ref m_was, .ref m_came, .ref m_seenAt, .ref m_rowWorth, .ref m_farBy, .ref m_used, .int i_everywhere, .int i_again0, .int i_d0, .int i_never, .int i_firstCame, .int i_longRun, .int i_moved, .int i_crowd, .int i_l0, .int i_fitMany, .int i_fitLeast, .int i_fitMost, .ref m_fitPost, .ref m_fitEnd, .ref m_keptPosts, .int i_x0]))], [(m_all, .inl (T.2 0, 3952, .inl x))], [(m_has, .inl (T.2 2, 3, .inl (upd f_has 1 (vp_nar .boolean 1))))]]) (fun (i : Nat) (x : Nat → Int32) => [(2, .int (nI i)), (0, .ref mo), (1, .int 1)]) (fun (i : Nat) (x : Nat → Int32) => i ≤ 988 ∧ (∀ j, j < i → x (1976 + j) = f_all j) ∧ (∀ j, (j < 1976 ∨ 2964 ≤ j) → x j = f_all j)) (fun (i : Nat) (x : Nat → Int32) => 988 - i) ?_ 0 f_all (show 0 ≤ 988 ∧ (∀ j, j < 0 → f_all (1976 + j) = f_all j) ∧ (∀ j, (j < 1976 ∨ 2964 ≤ j) → f_all j = f_all j) from ⟨by omega, fun j hj => absurd hj (by omega), fun j _ => rfl⟩) G (lv_sub hl [0, 1, 2] rfl)
      intro i x hI9 ih_20 H locs ls G hl
      replace hI9 : i ≤ 988 ∧ (∀ j, j < i → x (1976 + j) = f_all j) ∧ (∀ j, (j < 1976 ∨ 2964 ≤ j) → x j = f_all j) := hI9
      refine zAn3 hI9 ?_
      intro hi hS hO
      clear hI9
      replace G : zS T A s.heap s [[(mo, .inr (11, [.ref m_all, .ref m_has, .int i_size, .int i_next, .int i_where, .int i_token, .int i_number, .int i_word, .int i_wrong, .int i_farCrossing, .ref m_read, .int i_z0, .int i_crossings, .int i_inns, .ref m_posts, .ref m_shut, .ref m_here, .int i_steps, .int i_done, .int i_at, .int i_gone, .ref m_was, .ref m_came, .ref m_seenAt, .ref m_rowWorth, .ref m_farBy, .ref m_used, .int i_everywhere, .int i_again0, .int i_d0, .int i_never, .int i_firstCame, .int i_longRun, .int i_moved, .int i_crowd, .int i_l0, .int i_fitMany, .int i_fitLeast, .int i_fitMost, .ref m_fitPost, .ref m_fitEnd, .ref m_keptPosts, .int i_x0]))], [(m_all, .inl (T.2 0, 3952, .inl x))], [(m_has, .inl (T.2 2, 3, .inl (upd f_has 1 (vp_nar .boolean 1))))]] _ _ := G
      replace hl : lv_has ls 3 [(2, .int (nI i)), (0, .ref mo), (1, .int 1)] := hl
      refine lv_iload_n hx hb dX12_image_20 rfl (lv_at hl 0 rfl) ?_
      refine lv_sipush (v := 988) hx hb dX12_image_21 (by decide) ?_
      refine lv_icmp_ge (tgt := 53) hx hb dX12_image_24 (by decide) (fun c_11 => ?_) (fun c_11 => ?_)
      · have c_11n : 988 ≤ i := (nI_leI (a := 988) (b := i) (by omega) (by omega)).mp c_11
        refine lv_iconst (v := 1) hx hb dX12_image_53 (by decide) ?_
        exact z_zret C hr hlocks G (Nat.le_of_ble_eq_true rfl) (Nat.le_of_ble_eq_true rfl) dX12_image_54 rfl ⟨x, (upd f_has 1 (vp_nar .boolean 1)), rfl, (Or.inr ⟨rfl, by decide, fun j hj => hS j (by omega), hO, rfl⟩)⟩
      · have c_11n : ¬ 988 ≤ i := fun q => c_11 ((nI_leI (a := 988) (b := i) (by omega) (by omega)).mpr q)
        refine lv_aload_n hx hb dX12_image_27 rfl (lv_at hl 1 rfl) ?_
        refine z_get C G clX12 0 rfl 0 (by decide) m_fl_RX12_7 rfl dX12_image_28 ?_
        refine lv_sipush (v := 988) hx hb dX12_image_31 (by decide) ?_
        refine lv_iload_n hx hb dX12_image_34 rfl (lv_at hl 2 rfl) ?_
        refine lv_iconst (v := 1) hx hb dX12_image_35 (by decide) ?_
        refine lv_iadd hx hb dX12_image_36 ?_
        refine lv_topi (fun y_12 ey_12 => ?_)
        obtain rfl : y_12 = 2 := ey_12.trans (by decide)
        refine lv_imul hx hb dX12_image_37 ?_
        refine lv_topi (fun y_13 ey_13 => ?_)
        obtain rfl : y_13 = 1976 := ey_13.trans (by decide)
        refine lv_iload_n hx hb dX12_image_38 rfl (lv_at hl 0 rfl) ?_
        refine lv_iadd hx hb dX12_image_39 ?_
        refine lv_topi (fun y_14 ey_14 => ?_)
        obtain rfl : y_14 = nI (1976 + i) := ey_14.trans (z_iaddn 1976 i rfl rfl)
        refine lv_aload_n hx hb dX12_image_40 rfl (lv_at hl 1 rfl) ?_
        refine z_get C G clX12 0 rfl 0 (by decide) m_fl_RX12_7 rfl dX12_image_41 ?_
        refine lv_iload_n hx hb dX12_image_44 rfl (lv_at hl 0 rfl) ?_
        refine z_ild C G 1 rfl (vp_in_nI (by omega) (by omega)) dX12_image_45 ?_
        refine lv_topi (fun v_15 ev_15 => ?_)
        rw [nI_clamp (by omega)] at ev_15
        subst ev_15
        refine z_ist C G 1 rfl (vp_in_nI (by omega) (by omega)) dX12_image_46 (fun H locs G => ?_)
        rw [nI_clamp (by omega)] at G
        have G : zS T A s.heap s [[(mo, .inr (11, [.ref m_all, .ref m_has, .int i_size, .int i_next, .int i_where, .int i_token, .int i_number, .int i_word, .int i_wrong, .int i_farCrossing, .ref m_read, .int i_z0, .int i_crossings, .int i_inns, .ref m_posts, .ref m_shut, .ref m_here, .int i_steps, .int i_done, .int i_at, .int i_gone, .ref m_was, .ref m_came, .ref m_seenAt, .ref m_rowWorth, .ref m_farBy, .ref m_used, .int i_everywhere, .int i_again0, .int i_d0, .int i_never, .int i_firstCame, .int i_longRun, .int i_moved, .int i_crowd, .int i_l0, .int i_fitMany, .int i_fitLeast, .int i_fitMost, .ref m_fitPost, .ref m_fitEnd, .ref m_keptPosts, .int i_x0]))], [(m_all, .inl (T.2 0, 3952, .inl (upd x (1976 + i) (x i))))], [(m_has, .inl (T.2 2, 3, .inl (upd f_has 1 (vp_nar .boolean 1))))]] _ _ := G
        refine lv_iinc (v := nI (i + 1)) (lv' := [(2, .int (nI (i + 1))), (0, .ref mo), (1, .int 1)]) hx hb dX12_image_47 hl (k := 0) rfl (z_inc i 1) (by decide) rfl (fun ls hl => ?_)
        refine lv_goto (tgt := 20) hx hb dX12_image_50 (by decide) ?_
        exact ih_20 (i + 1) (upd x (1976 + i) (x i)) (show (i + 1) ≤ 988 ∧ (∀ j, j < (i + 1) → (upd x (1976 + i) (x i)) (1976 + j) = f_all j) ∧ (∀ j, (j < 1976 ∨ 2964 ≤ j) → (upd x (1976 + i) (x i)) j = f_all j) from ⟨by omega, z_upS hS (hO i (by omega)), z_upO hO (by omega)⟩) (show 988 - (i + 1) < 988 - i from by omega) _ _ ls G (lv_sub hl [0, 1, 2] rfl)
    · obtain rfl : k_ = 2 := Int32.toInt_inj.mp hk
      refine lv_aload_n hx hb dX12_image_11 rfl (lv_at hl 0 rfl) ?_
      refine z_get C G clX12 0 rfl 1 (by decide) m_fl_RX12_13 rfl dX12_image_12 ?_
      refine lv_iload_n hx hb dX12_image_15 rfl (lv_at hl 1 rfl) ?_
      refine lv_iconst (v := 1) hx hb dX12_image_16 (by decide) ?_
      refine z_zst C G 2 rfl (vp_in_nI (n := 2) (by decide) (by decide)) dX12_image_17 (fun H locs G => ?_)
      have G : zS T A s.heap s [[(mo, .inr (11, [.ref m_all, .ref m_has, .int i_size, .int i_next, .int i_where, .int i_token, .int i_number, .int i_word, .int i_wrong, .int i_farCrossing, .ref m_read, .int i_z0, .int i_crossings, .int i_inns, .ref m_posts, .ref m_shut, .ref m_here, .int i_steps, .int i_done, .int i_at, .int i_gone, .ref m_was, .ref m_came, .ref m_seenAt, .ref m_rowWorth, .ref m_farBy, .ref m_used, .int i_everywhere, .int i_again0, .int i_d0, .int i_never, .int i_firstCame, .int i_longRun, .int i_moved, .int i_crowd, .int i_l0, .int i_fitMany, .int i_fitLeast, .int i_fitMost, .ref m_fitPost, .ref m_fitEnd, .ref m_keptPosts, .int i_x0]))], [(m_all, .inl (T.2 0, 3952, .inl f_all))], [(m_has, .inl (T.2 2, 3, .inl (upd f_has 2 (vp_nar .boolean 1))))]] _ _ := G
      refine lv_iconst (v := 0) hx hb dX12_image_18 (by decide) ?_
      refine lv_istore_n (lv' := [(2, .int 0), (0, .ref mo), (1, .int 2)]) hx hb dX12_image_19 rfl hl (by decide) rfl (fun ls hl => ?_)
      refine z_lp2 (T := T) 20 (fun (i : Nat) (x : Nat → Int32) => [[(mo, .inr (11, [.ref m_all, .ref m_has, .int i_size, .int i_next, .int i_where, .int i_token, .int i_number, .int i_word, .int i_wrong, .int i_farCrossing, .ref m_read, .int i_z0, .int i_crossings, .int i_inns, .ref m_posts, .ref m_shut, .ref m_here, .int i_steps, .int i_done, .int i_at, .int i_gone, .ref m_was, .ref m_came, .ref m_seenAt, .ref m_rowWorth, .ref m_farBy, .ref m_used, .int i_everywhere, .int i_again0, .int i_d0, .int i_never, .int i_firstCame, .int i_longRun, .int i_moved, .int i_crowd, .int i_l0, .int i_fitMany, .int i_fitLeast, .int i_fitMost, .ref m_fitPost, .ref m_fitEnd, .ref m_keptPosts, .int i_x0]))], [(m_all, .inl (T.2 0, 3952, .inl x))], [(m_has, .inl (T.2 2, 3, .inl (upd f_has 2 (vp_nar .boolean 1))))]]) (fun (i : Nat) (x : Nat → Int32) => [(2, .int (nI i)), (0, .ref mo), (1, .int 2)]) (fun (i : Nat) (x : Nat → Int32) => i ≤ 988 ∧ (∀ j, j < i → x (2964 + j) = f_all j) ∧ (∀ j, (j < 2964 ∨ 3952 ≤ j) → x j = f_all j)) (fun (i : Nat) (x : Nat → Int32) => 988 - i) ?_ 0 f_all (show 0 ≤ 988 ∧ (∀ j, j < 0 → f_all (2964 + j) = f_all j) ∧ (∀ j, (j < 2964 ∨ 3952 ≤ j) → f_all j = f_all j) from ⟨by omega, fun j hj => absurd hj (by omega), fun j _ => rfl⟩) G (lv_sub hl [0, 1, 2] rfl)
      intro i x hI9 ih_20 H locs ls G hl
      replace hI9 : i ≤ 988 ∧ (∀ j, j < i → x (2964 + j) = f_all j) ∧ (∀ j, (j < 2964 ∨ 3952 ≤ j) → x j = f_all j) := hI9
      refine zAn3 hI9 ?_
      intro hi hS hO
      clear hI9
      replace G : zS T A s.heap s [[(mo, .inr (11, [.ref m_all, .ref m_has, .int i_size, .int i_next, .int i_where, .int i_token, .int i_number, .int i_word, .int i_wrong, .int i_farCrossing, .ref m_read, .int i_z0, .int i_crossings, .int i_inns, .ref m_posts, .ref m_shut, .ref m_here, .int i_steps, .int i_done, .int i_at, .int i_gone, .ref m_was, .ref m_came, .ref m_seenAt, .ref m_rowWorth, .ref m_farBy, .ref m_used, .int i_everywhere, .int i_again0, .int i_d0, .int i_never, .int i_firstCame, .int i_longRun, .int i_moved, .int i_crowd, .int i_l0, .int i_fitMany, .int i_fitLeast, .int i_fitMost, .ref m_fitPost, .ref m_fitEnd, .ref m_keptPosts, .int i_x0]))], [(m_all, .inl (T.2 0, 3952, .inl x))], [(m_has, .inl (T.2 2, 3, .inl (upd f_has 2 (vp_nar .boolean 1))))]] _ _ := G
      replace hl : lv_has ls 3 [(2, .int (nI i)), (0, .ref mo), (1, .int 2)] := hl
      refine lv_iload_n hx hb dX12_image_20 rfl (lv_at hl 0 rfl) ?_
      refine lv_sipush (v := 988) hx hb dX12_image_21 (by decide) ?_
      refine lv_icmp_ge (tgt := 53) hx hb dX12_image_24 (by decide) (fun c_16 => ?_) (fun c_16 => ?_)
      · have c_16n : 988 ≤ i := (nI_leI (a := 988) (b := i) (by omega) (by omega)).mp c_16
        refine lv_iconst (v := 1) hx hb dX12_image_53 (by decide) ?_
        exact z_zret C hr hlocks G (Nat.le_of_ble_eq_true rfl) (Nat.le_of_ble_eq_true rfl) dX12_image_54 rfl ⟨x, (upd f_has 2 (vp_nar .boolean 1)), rfl, (Or.inr ⟨rfl, by decide, fun j hj => hS j (by omega), hO, rfl⟩)⟩
      · have c_16n : ¬ 988 ≤ i := fun q => c_16 ((nI_leI (a := 988) (b := i) (by omega) (by omega)).mpr q)
        refine lv_aload_n hx hb dX12_image_27 rfl (lv_at hl 1 rfl) ?_
        refine z_get C G clX12 0 rfl 0 (by decide) m_fl_RX12_7 rfl dX12_image_28 ?_
        refine lv_sipush (v := 988) hx hb dX12_image_31 (by decide) ?_
        refine lv_iload_n hx hb dX12_image_34 rfl (lv_at hl 2 rfl) ?_
        refine lv_iconst (v := 1) hx hb dX12_image_35 (by decide) ?_
        refine lv_iadd hx hb dX12_image_36 ?_
        refine lv_topi (fun y_17 ey_17 => ?_)
        obtain rfl : y_17 = 3 := ey_17.trans (by decide)
        refine lv_imul hx hb dX12_image_37 ?_
        refine lv_topi (fun y_18 ey_18 => ?_)
        obtain rfl : y_18 = 2964 := ey_18.trans (by decide)
        refine lv_iload_n hx hb dX12_image_38 rfl (lv_at hl 0 rfl) ?_
        refine lv_iadd hx hb dX12_image_39 ?_
        refine lv_topi (fun y_19 ey_19 => ?_)
        obtain rfl : y_19 = nI (2964 + i) := ey_19.trans (z_iaddn 2964 i rfl rfl)
        refine lv_aload_n hx hb dX12_image_40 rfl (lv_at hl 1 rfl) ?_
        refine z_get C G clX12 0 rfl 0 (by decide) m_fl_RX12_7 rfl dX12_image_41 ?_
        refine lv_iload_n hx hb dX12_image_44 rfl (lv_at hl 0 rfl) ?_
        refine z_ild C G 1 rfl (vp_in_nI (by omega) (by omega)) dX12_image_45 ?_
        refine lv_topi (fun v_20 ev_20 => ?_)
        rw [nI_clamp (by omega)] at ev_20
        subst ev_20
        refine z_ist C G 1 rfl (vp_in_nI (by omega) (by omega)) dX12_image_46 (fun H locs G => ?_)
        rw [nI_clamp (by omega)] at G
        have G : zS T A s.heap s [[(mo, .inr (11, [.ref m_all, .ref m_has, .int i_size, .int i_next, .int i_where, .int i_token, .int i_number, .int i_word, .int i_wrong, .int i_farCrossing, .ref m_read, .int i_z0, .int i_crossings, .int i_inns, .ref m_posts, .ref m_shut, .ref m_here, .int i_steps, .int i_done, .int i_at, .int i_gone, .ref m_was, .ref m_came, .ref m_seenAt, .ref m_rowWorth, .ref m_farBy, .ref m_used, .int i_everywhere, .int i_again0, .int i_d0, .int i_never, .int i_firstCame, .int i_longRun, .int i_moved, .int i_crowd, .int i_l0, .int i_fitMany, .int i_fitLeast, .int i_fitMost, .ref m_fitPost, .ref m_fitEnd, .ref m_keptPosts, .int i_x0]))], [(m_all, .inl (T.2 0, 3952, .inl (upd x (2964 + i) (x i))))], [(m_has, .inl (T.2 2, 3, .inl (upd f_has 2 (vp_nar .boolean 1))))]] _ _ := G
        refine lv_iinc (v := nI (i + 1)) (lv' := [(2, .int (nI (i + 1))), (0, .ref mo), (1, .int 2)]) hx hb dX12_image_47 hl (k := 0) rfl (z_inc i 1) (by decide) rfl (fun ls hl => ?_)
        refine lv_goto (tgt := 20) hx hb dX12_image_50 (by decide) ?_
        exact ih_20 (i + 1) (upd x (2964 + i) (x i)) (show (i + 1) ≤ 988 ∧ (∀ j, j < (i + 1) → (upd x (2964 + i) (x i)) (2964 + j) = f_all j) ∧ (∀ j, (j < 2964 ∨ 3952 ≤ j) → (upd x (2964 + i) (x i)) j = f_all j) from ⟨by omega, z_upS hS (hO i (by omega)), z_upO hO (by omega)⟩) (show 988 - (i + 1) < 988 - i from by omega) _ _ ls G (lv_sub hl [0, 1, 2] rfl)
  · have h_5 : (k_.toInt < (0 : Int) ∨ (2 : Int) < k_.toInt) := h_5
    refine lv_if_ne (tgt := 11) hx hb dX12_image_6 (by decide) (fun q => absurd (by decide) q) (fun _ => ?_)
    refine lv_iconst (v := 0) hx hb dX12_image_9 (by decide) ?_
    exact z_zret C hr hlocks G (Nat.le_of_ble_eq_true rfl) (Nat.le_of_ble_eq_true rfl) dX12_image_10 rfl ⟨f_all, f_has, rfl, (Or.inl ⟨rfl, by omega, rfl, rfl⟩)⟩
theorem dX12_again_0 : decode cX12_again 0 = .ok (.iload_n 1, 1) := zo_27 (by decide +kernel)
theorem dX12_again_1 : decode cX12_again 1 = .ok (.iconst 0, 1) := zo_3 (by decide +kernel)
theorem dX12_again_2 : decode cX12_again 2 = .ok (.iconst 2, 1) := zo_5 (by decide +kernel)
theorem dX12_again_3 : decode cX12_again 3 = .ok (.invokestatic 111, 3) := zo_184 (by decide +kernel)
theorem dX12_again_6 : decode cX12_again 6 = .ok (.ifCond .eq 12, 3) := zo_153 (by decide +kernel)
theorem dX12_again_9 : decode cX12_again 9 = .ok (.aload_n 0, 1) := zo_42 (by decide +kernel)
theorem dX12_again_10 : decode cX12_again 10 = .ok (.getfield 13, 3) := zo_180 (by decide +kernel)
theorem dX12_again_13 : decode cX12_again 13 = .ok (.iload_n 1, 1) := zo_27 (by decide +kernel)
theorem dX12_again_14 : decode cX12_again 14 = .ok (.baload, 1) := zo_51 (by decide +kernel)
theorem dX12_again_15 : decode cX12_again 15 = .ok (.ifCond .ne 5, 3) := zo_154 (by decide +kernel)
theorem dX12_again_18 : decode cX12_again 18 = .ok (.iconst 0, 1) := zo_3 (by decide +kernel)
theorem dX12_again_19 : decode cX12_again 19 = .ok (.ireturn, 1) := zo_172 (by decide +kernel)
theorem dX12_again_20 : decode cX12_again 20 = .ok (.iconst 0, 1) := zo_3 (by decide +kernel)
theorem dX12_again_21 : decode cX12_again 21 = .ok (.istore_n 2, 1) := zo_61 (by decide +kernel)
theorem dX12_again_22 : decode cX12_again 22 = .ok (.iload_n 2, 1) := zo_28 (by decide +kernel)
theorem dX12_again_23 : decode cX12_again 23 = .ok (.sipush 988, 3) := zo_17 (by decide +kernel)
theorem dX12_again_26 : decode cX12_again 26 = .ok (.if_icmp .ge 29, 3) := zo_162 (by decide +kernel)
theorem dX12_again_29 : decode cX12_again 29 = .ok (.aload_n 0, 1) := zo_42 (by decide +kernel)
theorem dX12_again_30 : decode cX12_again 30 = .ok (.getfield 7, 3) := zo_180 (by decide +kernel)
theorem dX12_again_33 : decode cX12_again 33 = .ok (.iload_n 2, 1) := zo_28 (by decide +kernel)
theorem dX12_again_34 : decode cX12_again 34 = .ok (.aload_n 0, 1) := zo_42 (by decide +kernel)
theorem dX12_again_35 : decode cX12_again 35 = .ok (.getfield 7, 3) := zo_180 (by decide +kernel)
theorem dX12_again_38 : decode cX12_again 38 = .ok (.sipush 988, 3) := zo_17 (by decide +kernel)
theorem dX12_again_41 : decode cX12_again 41 = .ok (.iload_n 1, 1) := zo_27 (by decide +kernel)
theorem dX12_again_42 : decode cX12_again 42 = .ok (.iconst 1, 1) := zo_4 (by decide +kernel)
theorem dX12_again_43 : decode cX12_again 43 = .ok (.iadd, 1) := zo_96 (by decide +kernel)
theorem dX12_again_44 : decode cX12_again 44 = .ok (.imul, 1) := zo_104 (by decide +kernel)
theorem dX12_again_45 : decode cX12_again 45 = .ok (.iload_n 2, 1) := zo_28 (by decide +kernel)
theorem dX12_again_46 : decode cX12_again 46 = .ok (.iadd, 1) := zo_96 (by decide +kernel)
theorem dX12_again_47 : decode cX12_again 47 = .ok (.iaload, 1) := zo_46 (by decide +kernel)
theorem dX12_again_48 : decode cX12_again 48 = .ok (.iastore, 1) := zo_79 (by decide +kernel)
theorem dX12_again_49 : decode cX12_again 49 = .ok (.iinc 2 1, 3) := zo_132 (by decide +kernel)
theorem dX12_again_52 : decode cX12_again 52 = .ok (.goto (-30), 3) := zo_167 (by decide +kernel)
theorem dX12_again_55 : decode cX12_again 55 = .ok (.iconst 1, 1) := zo_4 (by decide +kernel)
theorem dX12_again_56 : decode cX12_again 56 = .ok (.ireturn, 1) := zo_172 (by decide +kernel)
set_option maxHeartbeats 4000000 in
set_option maxRecDepth 100000 in
/-- c_m_again -/
theorem c_m_again (l : Launch) (T : zTy) (mo : Nat) (m_all : Nat) (m_has : Nat) (i_size : Int32) (i_next : Int32) (i_where : Int32) (i_token : Int32) (i_number : Int32) (i_word : Int32) (i_wrong : Int32) (i_farCrossing : Int32) (m_read : Nat) (i_z0 : Int32) (i_crossings : Int32) (i_inns : Int32) (m_posts : Nat) (m_shut : Nat) (m_here : Nat) (i_steps : Int32) (i_done : Int32) (i_at : Int32) (i_gone : Int32) (m_was : Nat) (m_came : Nat) (m_seenAt : Nat) (m_rowWorth : Nat) (m_farBy : Nat) (m_used : Nat) (i_everywhere : Int32) (i_again0 : Int32) (i_d0 : Int32) (i_never : Int32) (i_firstCame : Int32) (i_longRun : Int32) (i_moved : Int32) (i_crowd : Int32) (i_l0 : Int32) (i_fitMany : Int32) (i_fitLeast : Int32) (i_fitMost : Int32) (m_fitPost : Nat) (m_fitEnd : Nat) (m_keptPosts : Nat) (i_x0 : Int32) (f_all : Nat → Int32) (f_has : Nat → Int32) (k_ : Int32) : zMi l T yX12_again cX12_again 3 (some .boolean) 2 0 0 [.ref mo, .int k_] [[(mo, .inr (11, [.ref m_all, .ref m_has, .int i_size, .int i_next, .int i_where, .int i_token, .int i_number, .int i_word, .int i_wrong, .int i_farCrossing, .ref m_read, .int i_z0, .int i_crossings, .int i_inns, .ref m_posts, .ref m_shut, .ref m_here, .int i_steps, .int i_done, .int i_at, .int i_gone, .ref m_was, .ref m_came, .ref m_seenAt, .ref m_rowWorth, .ref m_farBy, .ref m_used, .int i_everywhere, .int i_again0, .int i_d0, .int i_never, .int i_firstCame, .int i_longRun, .int i_moved, .int i_crowd, .int i_l0, .int i_fitMany, .int i_fitLeast, .int i_fitMost, .ref m_fitPost, .ref m_fitEnd, .ref m_keptPosts, .int i_x0]))], [(m_all, .inl (T.2 0, 3952, .inl f_all))], [(m_has, .inl (T.2 2, 3, .inl f_has))]] (fun (r : Int32) bs => ∃ (g_all : Nat → Int32), bs = [[(mo, .inr (11, [.ref m_all, .ref m_has, .int i_size, .int i_next, .int i_where, .int i_token, .int i_number, .int i_word, .int i_wrong, .int i_farCrossing, .ref m_read, .int i_z0, .int i_crossings, .int i_inns, .ref m_posts, .ref m_shut, .ref m_here, .int i_steps, .int i_done, .int i_at, .int i_gone, .ref m_was, .ref m_came, .ref m_seenAt, .ref m_rowWorth, .ref m_farBy, .ref m_used, .int i_everywhere, .int i_again0, .int i_d0, .int i_never, .int i_firstCame, .int i_longRun, .int i_moved, .int i_crowd, .int i_l0, .int i_fitMany, .int i_fitLeast, .int i_fitMost, .ref m_fitPost, .ref m_fitEnd, .ref m_keptPosts, .int i_x0]))], [(m_all, .inl (T.2 0, 3952, .inl g_all))], [(m_has, .inl (T.2 2, 3, .inl f_has))]] ∧ (r = 0 ∧ (k_.toInt < 0 ∨ 3 ≤ k_.toInt ∨ f_has k_.toNatClampNeg = 0) ∧ g_all = f_all ∨ r = 1 ∧ (0 ≤ k_.toInt ∧ k_.toInt < 3) ∧ ¬ f_has k_.toNatClampNeg = 0 ∧ (∀ j, j < 988 → g_all j = f_all (988 * (k_.toNatClampNeg + 1) + j)) ∧ (∀ j, 988 ≤ j → g_all j = f_all j))) := by
  refine zMi_of (own := RX12) (by decide) rfl (Nat.le_of_ble_eq_true rfl) ?_
  intro p e s m args below meth c A ls C hr hlocks hnm hAe G hl
  have hx := C.1
  have hb := C.2.1
  have hl : lv_has ls 3 [(0, .ref mo), (1, .int k_)] := hl
  refine lv_iload_n hx hb dX12_again_0 rfl (lv_at hl 1 rfl) ?_
  refine lv_iconst (v := 0) hx hb dX12_again_1 (by decide) ?_
  refine lv_iconst (v := 2) hx hb dX12_again_2 (by decide) ?_
  refine z_Si (bc := []) (br := [[(mo, .inr (11, [.ref m_all, .ref m_has, .int i_size, .int i_next, .int i_where, .int i_token, .int i_number, .int i_word, .int i_wrong, .int i_farCrossing, .ref m_read, .int i_z0, .int i_crossings, .int i_inns, .ref m_posts, .ref m_shut, .ref m_here, .int i_steps, .int i_done, .int i_at, .int i_gone, .ref m_was, .ref m_came, .ref m_seenAt, .ref m_rowWorth, .ref m_farBy, .ref m_used, .int i_everywhere, .int i_again0, .int i_d0, .int i_never, .int i_firstCame, .int i_longRun, .int i_moved, .int i_crowd, .int i_l0, .int i_fitMany, .int i_fitLeast, .int i_fitMost, .ref m_fitPost, .ref m_fitEnd, .ref m_keptPosts, .int i_x0]))], [(m_all, .inl (T.2 0, 3952, .inl f_all))], [(m_has, .inl (T.2 2, 3, .inl f_has))]]) (As := [.int k_, .int 0, .int 2]) (rest := []) C G (c_m_isIn l T k_ 0 2) (kS_RX12_111 C.2.2.2.2 (Nat.le_of_ble_eq_true rfl) (Nat.le_of_ble_eq_true rfl)) [] [0, 1, 2] rfl rfl rfl rfl hl.1 dX12_again_3 (Nat.le_of_ble_eq_true rfl) (Nat.le_of_ble_eq_true rfl) (fun r_2 b1 H locs hw G => ?_)
  refine zAn2 hw ?_
  intro hbs9 hc_1
  clear hw
  subst hbs9
  have G : zS T A s.heap s [[(mo, .inr (11, [.ref m_all, .ref m_has, .int i_size, .int i_next, .int i_where, .int i_token, .int i_number, .int i_word, .int i_wrong, .int i_farCrossing, .ref m_read, .int i_z0, .int i_crossings, .int i_inns, .ref m_posts, .ref m_shut, .ref m_here, .int i_steps, .int i_done, .int i_at, .int i_gone, .ref m_was, .ref m_came, .ref m_seenAt, .ref m_rowWorth, .ref m_farBy, .ref m_used, .int i_everywhere, .int i_again0, .int i_d0, .int i_never, .int i_firstCame, .int i_longRun, .int i_moved, .int i_crowd, .int i_l0, .int i_fitMany, .int i_fitLeast, .int i_fitMost, .ref m_fitPost, .ref m_fitEnd, .ref m_keptPosts, .int i_x0]))], [(m_all, .inl (T.2 0, 3952, .inl f_all))], [(m_has, .inl (T.2 2, 3, .inl f_has))]] _ _ := G
  rcases hc_1 with ⟨rfl, h_3, h_4⟩ | ⟨rfl, h_5⟩
  · have h_3 : (0 : Int) ≤ k_.toInt := h_3
    have h_4 : k_.toInt ≤ (2 : Int) := h_4
    refine lv_if_eq (tgt := 18) hx hb dX12_again_6 (by decide) (fun q => absurd q (by decide)) (fun _ => ?_)
    refine lv_aload_n hx hb dX12_again_9 rfl (lv_at hl 0 rfl) ?_
    refine z_get C G clX12 0 rfl 1 (by decide) m_fl_RX12_13 rfl dX12_again_10 ?_
    refine lv_iload_n hx hb dX12_again_13 rfl (lv_at hl 1 rfl) ?_
    refine z_zld C G 2 rfl (vp_in_iff.mpr ⟨by omega, by omega⟩) dX12_again_14 ?_
    refine lv_topi (fun v_6 ev_6 => ?_)
    subst ev_6
    refine lv_if_ne (tgt := 20) hx hb dX12_again_15 (by decide) (fun c_7 => ?_) (fun c_7 => ?_)
    · have c_7n : ¬ (f_has k_.toNatClampNeg).toInt = (0 : Int) := fun q => c_7 ((fa_eq _ _).mpr q)
      rcases (show k_.toInt = 0 ∨ k_.toInt = 1 ∨ k_.toInt = 2 from by omega) with hk | hk | hk
      · obtain rfl : k_ = 0 := Int32.toInt_inj.mp hk
        refine lv_iconst (v := 0) hx hb dX12_again_20 (by decide) ?_
        refine lv_istore_n (lv' := [(2, .int 0), (0, .ref mo), (1, .int 0)]) hx hb dX12_again_21 rfl hl (by decide) rfl (fun ls hl => ?_)
        refine z_lp2 (T := T) 22 (fun (i : Nat) (x : Nat → Int32) => [[(mo, .inr (11, [.ref m_all, .ref m_has, .int i_size, .int i_next, .int i_where, .int i_token, .int i_number, .int i_word, .int i_wrong, .int i_farCrossing, .ref m_read, .int i_z0, .int i_crossings, .int i_inns, .ref m_posts, .ref m_shut, .ref m_here, .int i_steps, .int i_done, .int i_at, .int i_gone, .ref m_was, .ref m_came, .ref m_seenAt, .ref m_rowWorth, .ref m_farBy, .ref m_used, .int i_everywhere, .int i_again0, .int i_d0, .int i_never, .int i_firstCame, .int i_longRun, .int i_moved, .int i_crowd, .int i_l0, .int i_fitMany, .int i_fitLeast, .int i_fitMost, .ref m_fitPost, .ref m_fitEnd, .ref m_keptPosts, .int i_x0]))], [(m_all, .inl (T.2 0, 3952, .inl x))], [(m_has, .inl (T.2 2, 3, .inl f_has))]]) (fun (i : Nat) (x : Nat → Int32) => [(2, .int (nI i)), (0, .ref mo), (1, .int 0)]) (fun (i : Nat) (x : Nat → Int32) => i ≤ 988 ∧ (∀ j, j < i → x j = f_all (988 + j)) ∧ (∀ j, i ≤ j → x j = f_all j)) (fun (i : Nat) (x : Nat → Int32) => 988 - i) ?_ 0 f_all (show 0 ≤ 988 ∧ (∀ j, j < 0 → f_all j = f_all (988 + j)) ∧ (∀ j, 0 ≤ j → f_all j = f_all j) from ⟨by omega, fun j hj => absurd hj (by omega), fun j _ => rfl⟩) G (lv_sub hl [0, 1, 2] rfl)
        intro i x hI9 ih_22 H locs ls G hl
        replace hI9 : i ≤ 988 ∧ (∀ j, j < i → x j = f_all (988 + j)) ∧ (∀ j, i ≤ j → x j = f_all j) := hI9
        refine zAn3 hI9 ?_
        intro hi hS hO
        clear hI9
        replace G : zS T A s.heap s [[(mo, .inr (11, [.ref m_all, .ref m_has, .int i_size, .int i_next, .int i_where, .int i_token, .int i_number, .int i_word, .int i_wrong, .int i_farCrossing, .ref m_read, .int i_z0, .int i_crossings, .int i_inns, .ref m_posts, .ref m_shut, .ref m_here, .int i_steps, .int i_done, .int i_at, .int i_gone, .ref m_was, .ref m_came, .ref m_seenAt, .ref m_rowWorth, .ref m_farBy, .ref m_used, .int i_everywhere, .int i_again0, .int i_d0, .int i_never, .int i_firstCame, .int i_longRun, .int i_moved, .int i_crowd, .int i_l0, .int i_fitMany, .int i_fitLeast, .int i_fitMost, .ref m_fitPost, .ref m_fitEnd, .ref m_keptPosts, .int i_x0]))], [(m_all, .inl (T.2 0, 3952, .inl x))], [(m_has, .inl (T.2 2, 3, .inl f_has))]] _ _ := G
        replace hl : lv_has ls 3 [(2, .int (nI i)), (0, .ref mo), (1, .int 0)] := hl
        refine lv_iload_n hx hb dX12_again_22 rfl (lv_at hl 0 rfl) ?_
        refine lv_sipush (v := 988) hx hb dX12_again_23 (by decide) ?_
        refine lv_icmp_ge (tgt := 55) hx hb dX12_again_26 (by decide) (fun c_8 => ?_) (fun c_8 => ?_)
        · have c_8n : 988 ≤ i := (nI_leI (a := 988) (b := i) (by omega) (by omega)).mp c_8
          refine lv_iconst (v := 1) hx hb dX12_again_55 (by decide) ?_
          exact z_zret C hr hlocks G (Nat.le_of_ble_eq_true rfl) (Nat.le_of_ble_eq_true rfl) dX12_again_56 rfl ⟨x, rfl, (Or.inr ⟨rfl, by decide, by assumption, fun j hj => hS j (by omega), fun j hj => hO j (by omega)⟩)⟩
        · have c_8n : ¬ 988 ≤ i := fun q => c_8 ((nI_leI (a := 988) (b := i) (by omega) (by omega)).mpr q)
          refine lv_aload_n hx hb dX12_again_29 rfl (lv_at hl 1 rfl) ?_
          refine z_get C G clX12 0 rfl 0 (by decide) m_fl_RX12_7 rfl dX12_again_30 ?_
          refine lv_iload_n hx hb dX12_again_33 rfl (lv_at hl 0 rfl) ?_
          refine lv_aload_n hx hb dX12_again_34 rfl (lv_at hl 1 rfl) ?_
          refine z_get C G clX12 0 rfl 0 (by decide) m_fl_RX12_7 rfl dX12_again_35 ?_
          refine lv_sipush (v := 988) hx hb dX12_again_38 (by decide) ?_
          refine lv_iload_n hx hb dX12_again_41 rfl (lv_at hl 2 rfl) ?_
          refine lv_iconst (v := 1) hx hb dX12_again_42 (by decide) ?_
          refine lv_iadd hx hb dX12_again_43 ?_
          refine lv_topi (fun y_9 ey_9 => ?_)
          obtain rfl : y_9 = 1 := ey_9.trans (by decide)
          refine lv_imul hx hb dX12_again_44 ?_
          refine lv_topi (fun y_10 ey_10 => ?_)
          obtain rfl : y_10 = 988 := ey_10.trans (by decide)
          refine lv_iload_n hx hb dX12_again_45 rfl (lv_at hl 0 rfl) ?_
          refine lv_iadd hx hb dX12_again_46 ?_
          refine lv_topi (fun y_11 ey_11 => ?_)
          obtain rfl : y_11 = nI (988 + i) := ey_11.trans (z_iaddn 988 i rfl rfl)
          refine z_ild C G 1 rfl (vp_in_nI (by omega) (by omega)) dX12_again_47 ?_
          refine lv_topi (fun v_12 ev_12 => ?_)
          rw [nI_clamp (by omega)] at ev_12
          subst ev_12
          refine z_ist C G 1 rfl (vp_in_nI (by omega) (by omega)) dX12_again_48 (fun H locs G => ?_)
          rw [nI_clamp (by omega)] at G
          have G : zS T A s.heap s [[(mo, .inr (11, [.ref m_all, .ref m_has, .int i_size, .int i_next, .int i_where, .int i_token, .int i_number, .int i_word, .int i_wrong, .int i_farCrossing, .ref m_read, .int i_z0, .int i_crossings, .int i_inns, .ref m_posts, .ref m_shut, .ref m_here, .int i_steps, .int i_done, .int i_at, .int i_gone, .ref m_was, .ref m_came, .ref m_seenAt, .ref m_rowWorth, .ref m_farBy, .ref m_used, .int i_everywhere, .int i_again0, .int i_d0, .int i_never, .int i_firstCame, .int i_longRun, .int i_moved, .int i_crowd, .int i_l0, .int i_fitMany, .int i_fitLeast, .int i_fitMost, .ref m_fitPost, .ref m_fitEnd, .ref m_keptPosts, .int i_x0]))], [(m_all, .inl (T.2 0, 3952, .inl (upd x i (x (988 + i)))))], [(m_has, .inl (T.2 2, 3, .inl f_has))]] _ _ := G
          refine lv_iinc (v := nI (i + 1)) (lv' := [(2, .int (nI (i + 1))), (0, .ref mo), (1, .int 0)]) hx hb dX12_again_49 hl (k := 0) rfl (z_inc i 1) (by decide) rfl (fun ls hl => ?_)
          refine lv_goto (tgt := 22) hx hb dX12_again_52 (by decide) ?_
          exact ih_22 (i + 1) (upd x i (x (988 + i))) (show (i + 1) ≤ 988 ∧ (∀ j, j < (i + 1) → (upd x i (x (988 + i))) j = f_all (988 + j)) ∧ (∀ j, (i + 1) ≤ j → (upd x i (x (988 + i))) j = f_all j) from ⟨by omega, z_updE (F := fun j => f_all (988 + j)) hS (hO (988 + i) (by omega)), fun j hj => (pk_un (by omega)).trans (hO j (by omega))⟩) (show 988 - (i + 1) < 988 - i from by omega) _ _ ls G (lv_sub hl [0, 1, 2] rfl)
      · obtain rfl : k_ = 1 := Int32.toInt_inj.mp hk
        refine lv_iconst (v := 0) hx hb dX12_again_20 (by decide) ?_
        refine lv_istore_n (lv' := [(2, .int 0), (0, .ref mo), (1, .int 1)]) hx hb dX12_again_21 rfl hl (by decide) rfl (fun ls hl => ?_)
        refine z_lp2 (T := T) 22 (fun (i : Nat) (x : Nat → Int32) => [[(mo, .inr (11, [.ref m_all, .ref m_has, .int i_size, .int i_next, .int i_where, .int i_token, .int i_number, .int i_word, .int i_wrong, .int i_farCrossing, .ref m_read, .int i_z0, .int i_crossings, .int i_inns, .ref m_posts, .ref m_shut, .ref m_here, .int i_steps, .int i_done, .int i_at, .int i_gone, .ref m_was, .ref m_came, .ref m_seenAt, .ref m_rowWorth, .ref m_farBy, .ref m_used, .int i_everywhere, .int i_again0, .int i_d0, .int i_never, .int i_firstCame, .int i_longRun, .int i_moved, .int i_crowd, .int i_l0, .int i_fitMany, .int i_fitLeast, .int i_fitMost, .ref m_fitPost, .ref m_fitEnd, .ref m_keptPosts, .int i_x0]))], [(m_all, .inl (T.2 0, 3952, .inl x))], [(m_has, .inl (T.2 2, 3, .inl f_has))]]) (fun (i : Nat) (x : Nat → Int32) => [(2, .int (nI i)), (0, .ref mo), (1, .int 1)]) (fun (i : Nat) (x : Nat → Int32) => i ≤ 988 ∧ (∀ j, j < i → x j = f_all (1976 + j)) ∧ (∀ j, i ≤ j → x j = f_all j)) (fun (i : Nat) (x : Nat → Int32) => 988 - i) ?_ 0 f_all (show 0 ≤ 988 ∧ (∀ j, j < 0 → f_all j = f_all (1976 + j)) ∧ (∀ j, 0 ≤ j → f_all j = f_all j) from ⟨by omega, fun j hj => absurd hj (by omega), fun j _ => rfl⟩) G (lv_sub hl [0, 1, 2] rfl)
        intro i x hI9 ih_22 H locs ls G hl
        replace hI9 : i ≤ 988 ∧ (∀ j, j < i → x j = f_all (1976 + j)) ∧ (∀ j, i ≤ j → x j = f_all j) := hI9
        refine zAn3 hI9 ?_
        intro hi hS hO
        clear hI9
        replace G : zS T A s.heap s [[(mo, .inr (11, [.ref m_all, .ref m_has, .int i_size, .int i_next, .int i_where, .int i_token, .int i_number, .int i_word, .int i_wrong, .int i_farCrossing, .ref m_read, .int i_z0, .int i_crossings, .int i_inns, .ref m_posts, .ref m_shut, .ref m_here, .int i_steps, .int i_done, .int i_at, .int i_gone, .ref m_was, .ref m_came, .ref m_seenAt, .ref m_rowWorth, .ref m_farBy, .ref m_used, .int i_everywhere, .int i_again0, .int i_d0, .int i_never, .int i_firstCame, .int i_longRun, .int i_moved, .int i_crowd, .int i_l0, .int i_fitMany, .int i_fitLeast, .int i_fitMost, .ref m_fitPost, .ref m_fitEnd, .ref m_keptPosts, .int i_x0]))], [(m_all, .inl (T.2 0, 3952, .inl x))], [(m_has, .inl (T.2 2, 3, .inl f_has))]] _ _ := G
        replace hl : lv_has ls 3 [(2, .int (nI i)), (0, .ref mo), (1, .int 1)] := hl
        refine lv_iload_n hx hb dX12_again_22 rfl (lv_at hl 0 rfl) ?_
        refine lv_sipush (v := 988) hx hb dX12_again_23 (by decide) ?_
        refine lv_icmp_ge (tgt := 55) hx hb dX12_again_26 (by decide) (fun c_13 => ?_) (fun c_13 => ?_)
        · have c_13n : 988 ≤ i := (nI_leI (a := 988) (b := i) (by omega) (by omega)).mp c_13
          refine lv_iconst (v := 1) hx hb dX12_again_55 (by decide) ?_
          exact z_zret C hr hlocks G (Nat.le_of_ble_eq_true rfl) (Nat.le_of_ble_eq_true rfl) dX12_again_56 rfl ⟨x, rfl, (Or.inr ⟨rfl, by decide, by assumption, fun j hj => hS j (by omega), fun j hj => hO j (by omega)⟩)⟩
        · have c_13n : ¬ 988 ≤ i := fun q => c_13 ((nI_leI (a := 988) (b := i) (by omega) (by omega)).mpr q)
          refine lv_aload_n hx hb dX12_again_29 rfl (lv_at hl 1 rfl) ?_
          refine z_get C G clX12 0 rfl 0 (by decide) m_fl_RX12_7 rfl dX12_again_30 ?_
          refine lv_iload_n hx hb dX12_again_33 rfl (lv_at hl 0 rfl) ?_
          refine lv_aload_n hx hb dX12_again_34 rfl (lv_at hl 1 rfl) ?_
          refine z_get C G clX12 0 rfl 0 (by decide) m_fl_RX12_7 rfl dX12_again_35 ?_
          refine lv_sipush (v := 988) hx hb dX12_again_38 (by decide) ?_
          refine lv_iload_n hx hb dX12_again_41 rfl (lv_at hl 2 rfl) ?_
          refine lv_iconst (v := 1) hx hb dX12_again_42 (by decide) ?_
          refine lv_iadd hx hb dX12_again_43 ?_
          refine lv_topi (fun y_14 ey_14 => ?_)
          obtain rfl : y_14 = 2 := ey_14.trans (by decide)
          refine lv_imul hx hb dX12_again_44 ?_
          refine lv_topi (fun y_15 ey_15 => ?_)
          obtain rfl : y_15 = 1976 := ey_15.trans (by decide)
          refine lv_iload_n hx hb dX12_again_45 rfl (lv_at hl 0 rfl) ?_
          refine lv_iadd hx hb dX12_again_46 ?_
          refine lv_topi (fun y_16 ey_16 => ?_)
          obtain rfl : y_16 = nI (1976 + i) := ey_16.trans (z_iaddn 1976 i rfl rfl)
          refine z_ild C G 1 rfl (vp_in_nI (by omega) (by omega)) dX12_again_47 ?_
          refine lv_topi (fun v_17 ev_17 => ?_)
          rw [nI_clamp (by omega)] at ev_17
          subst ev_17
          refine z_ist C G 1 rfl (vp_in_nI (by omega) (by omega)) dX12_again_48 (fun H locs G => ?_)
          rw [nI_clamp (by omega)] at G
          have G : zS T A s.heap s [[(mo, .inr (11, [.ref m_all, .ref m_has, .int i_size, .int i_next, .int i_where, .int i_token, .int i_number, .int i_word, .int i_wrong, .int i_farCrossing, .ref m_read, .int i_z0, .int i_crossings, .int i_inns, .ref m_posts, .ref m_shut, .ref m_here, .int i_steps, .int i_done, .int i_at, .int i_gone, .ref m_was, .ref m_came, .ref m_seenAt, .ref m_rowWorth, .ref m_farBy, .ref m_used, .int i_everywhere, .int i_again0, .int i_d0, .int i_never, .int i_firstCame, .int i_longRun, .int i_moved, .int i_crowd, .int i_l0, .int i_fitMany, .int i_fitLeast, .int i_fitMost, .ref m_fitPost, .ref m_fitEnd, .ref m_keptPosts, .int i_x0]))], [(m_all, .inl (T.2 0, 3952, .inl (upd x i (x (1976 + i)))))], [(m_has, .inl (T.2 2, 3, .inl f_has))]] _ _ := G
          refine lv_iinc (v := nI (i + 1)) (lv' := [(2, .int (nI (i + 1))), (0, .ref mo), (1, .int 1)]) hx hb dX12_again_49 hl (k := 0) rfl (z_inc i 1) (by decide) rfl (fun ls hl => ?_)
          refine lv_goto (tgt := 22) hx hb dX12_again_52 (by decide) ?_
          exact ih_22 (i + 1) (upd x i (x (1976 + i))) (show (i + 1) ≤ 988 ∧ (∀ j, j < (i + 1) → (upd x i (x (1976 + i))) j = f_all (1976 + j)) ∧ (∀ j, (i + 1) ≤ j → (upd x i (x (1976 + i))) j = f_all j) from ⟨by omega, z_updE (F := fun j => f_all (1976 + j)) hS (hO (1976 + i) (by omega)), fun j hj => (pk_un (by omega)).trans (hO j (by omega))⟩) (show 988 - (i + 1) < 988 - i from by omega) _ _ ls G (lv_sub hl [0, 1, 2] rfl)
      · obtain rfl : k_ = 2 := Int32.toInt_inj.mp hk
        refine lv_iconst (v := 0) hx hb dX12_again_20 (by decide) ?_
        refine lv_istore_n (lv' := [(2, .int 0), (0, .ref mo), (1, .int 2)]) hx hb dX12_again_21 rfl hl (by decide) rfl (fun ls hl => ?_)
        refine z_lp2 (T := T) 22 (fun (i : Nat) (x : Nat → Int32) => [[(mo, .inr (11, [.ref m_all, .ref m_has, .int i_size, .int i_next, .int i_where, .int i_token, .int i_number, .int i_word, .int i_wrong, .int i_farCrossing, .ref m_read, .int i_z0, .int i_crossings, .int i_inns, .ref m_posts, .ref m_shut, .ref m_here, .int i_steps, .int i_done, .int i_at, .int i_gone, .ref m_was, .ref m_came, .ref m_seenAt, .ref m_rowWorth, .ref m_farBy, .ref m_used, .int i_everywhere, .int i_again0, .int i_d0, .int i_never, .int i_firstCame, .int i_longRun, .int i_moved, .int i_crowd, .int i_l0, .int i_fitMany, .int i_fitLeast, .int i_fitMost, .ref m_fitPost, .ref m_fitEnd, .ref m_keptPosts, .int i_x0]))], [(m_all, .inl (T.2 0, 3952, .inl x))], [(m_has, .inl (T.2 2, 3, .inl f_has))]]) (fun (i : Nat) (x : Nat → Int32) => [(2, .int (nI i)), (0, .ref mo), (1, .int 2)]) (fun (i : Nat) (x : Nat → Int32) => i ≤ 988 ∧ (∀ j, j < i → x j = f_all (2964 + j)) ∧ (∀ j, i ≤ j → x j = f_all j)) (fun (i : Nat) (x : Nat → Int32) => 988 - i) ?_ 0 f_all (show 0 ≤ 988 ∧ (∀ j, j < 0 → f_all j = f_all (2964 + j)) ∧ (∀ j, 0 ≤ j → f_all j = f_all j) from ⟨by omega, fun j hj => absurd hj (by omega), fun j _ => rfl⟩) G (lv_sub hl [0, 1, 2] rfl)
        intro i x hI9 ih_22 H locs ls G hl
        replace hI9 : i ≤ 988 ∧ (∀ j, j < i → x j = f_all (2964 + j)) ∧ (∀ j, i ≤ j → x j = f_all j) := hI9
        refine zAn3 hI9 ?_
        intro hi hS hO
        clear hI9
        replace G : zS T A s.heap s [[(mo, .inr (11, [.ref m_all, .ref m_has, .int i_size, .int i_next, .int i_where, .int i_token, .int i_number, .int i_word, .int i_wrong, .int i_farCrossing, .ref m_read, .int i_z0, .int i_crossings, .int i_inns, .ref m_posts, .ref m_shut, .ref m_here, .int i_steps, .int i_done, .int i_at, .int i_gone, .ref m_was, .ref m_came, .ref m_seenAt, .ref m_rowWorth, .ref m_farBy, .ref m_used, .int i_everywhere, .int i_again0, .int i_d0, .int i_never, .int i_firstCame, .int i_longRun, .int i_moved, .int i_crowd, .int i_l0, .int i_fitMany, .int i_fitLeast, .int i_fitMost, .ref m_fitPost, .ref m_fitEnd, .ref m_keptPosts, .int i_x0]))], [(m_all, .inl (T.2 0, 3952, .inl x))], [(m_has, .inl (T.2 2, 3, .inl f_has))]] _ _ := G
        replace hl : lv_has ls 3 [(2, .int (nI i)), (0, .ref mo), (1, .int 2)] := hl
        refine lv_iload_n hx hb dX12_again_22 rfl (lv_at hl 0 rfl) ?_
        refine lv_sipush (v := 988) hx hb dX12_again_23 (by decide) ?_
        refine lv_icmp_ge (tgt := 55) hx hb dX12_again_26 (by decide) (fun c_18 => ?_) (fun c_18 => ?_)
        · have c_18n : 988 ≤ i := (nI_leI (a := 988) (b := i) (by omega) (by omega)).mp c_18
          refine lv_iconst (v := 1) hx hb dX12_again_55 (by decide) ?_
          exact z_zret C hr hlocks G (Nat.le_of_ble_eq_true rfl) (Nat.le_of_ble_eq_true rfl) dX12_again_56 rfl ⟨x, rfl, (Or.inr ⟨rfl, by decide, by assumption, fun j hj => hS j (by omega), fun j hj => hO j (by omega)⟩)⟩
        · have c_18n : ¬ 988 ≤ i := fun q => c_18 ((nI_leI (a := 988) (b := i) (by omega) (by omega)).mpr q)
          refine lv_aload_n hx hb dX12_again_29 rfl (lv_at hl 1 rfl) ?_
          refine z_get C G clX12 0 rfl 0 (by decide) m_fl_RX12_7 rfl dX12_again_30 ?_
          refine lv_iload_n hx hb dX12_again_33 rfl (lv_at hl 0 rfl) ?_
          refine lv_aload_n hx hb dX12_again_34 rfl (lv_at hl 1 rfl) ?_
          refine z_get C G clX12 0 rfl 0 (by decide) m_fl_RX12_7 rfl dX12_again_35 ?_
          refine lv_sipush (v := 988) hx hb dX12_again_38 (by decide) ?_
          refine lv_iload_n hx hb dX12_again_41 rfl (lv_at hl 2 rfl) ?_
          refine lv_iconst (v := 1) hx hb dX12_again_42 (by decide) ?_
          refine lv_iadd hx hb dX12_again_43 ?_
          refine lv_topi (fun y_19 ey_19 => ?_)
          obtain rfl : y_19 = 3 := ey_19.trans (by decide)
          refine lv_imul hx hb dX12_again_44 ?_
          refine lv_topi (fun y_20 ey_20 => ?_)
          obtain rfl : y_20 = 2964 := ey_20.trans (by decide)
          refine lv_iload_n hx hb dX12_again_45 rfl (lv_at hl 0 rfl) ?_
          refine lv_iadd hx hb dX12_again_46 ?_
          refine lv_topi (fun y_21 ey_21 => ?_)
          obtain rfl : y_21 = nI (2964 + i) := ey_21.trans (z_iaddn 2964 i rfl rfl)
          refine z_ild C G 1 rfl (vp_in_nI (by omega) (by omega)) dX12_again_47 ?_
          refine lv_topi (fun v_22 ev_22 => ?_)
          rw [nI_clamp (by omega)] at ev_22
          subst ev_22
          refine z_ist C G 1 rfl (vp_in_nI (by omega) (by omega)) dX12_again_48 (fun H locs G => ?_)
          rw [nI_clamp (by omega)] at G
          have G : zS T A s.heap s [[(mo, .inr (11, [.ref m_all, .ref m_has, .int i_size, .int i_next, .int i_where, .int i_token, .int i_number, .int i_word, .int i_wrong, .int i_farCrossing, .ref m_read, .int i_z0, .int i_crossings, .int i_inns, .ref m_posts, .ref m_shut, .ref m_here, .int i_steps, .int i_done, .int i_at, .int i_gone, .ref m_was, .ref m_came, .ref m_seenAt, .ref m_rowWorth, .ref m_farBy, .ref m_used, .int i_everywhere, .int i_again0, .int i_d0, .int i_never, .int i_firstCame, .int i_longRun, .int i_moved, .int i_crowd, .int i_l0, .int i_fitMany, .int i_fitLeast, .int i_fitMost, .ref m_fitPost, .ref m_fitEnd, .ref m_keptPosts, .int i_x0]))], [(m_all, .inl (T.2 0, 3952, .inl (upd x i (x (2964 + i)))))], [(m_has, .inl (T.2 2, 3, .inl f_has))]] _ _ := G
          refine lv_iinc (v := nI (i + 1)) (lv' := [(2, .int (nI (i + 1))), (0, .ref mo), (1, .int 2)]) hx hb dX12_again_49 hl (k := 0) rfl (z_inc i 1) (by decide) rfl (fun ls hl => ?_)
          refine lv_goto (tgt := 22) hx hb dX12_again_52 (by decide) ?_
          exact ih_22 (i + 1) (upd x i (x (2964 + i))) (show (i + 1) ≤ 988 ∧ (∀ j, j < (i + 1) → (upd x i (x (2964 + i))) j = f_all (2964 + j)) ∧ (∀ j, (i + 1) ≤ j → (upd x i (x (2964 + i))) j = f_all j) from ⟨by omega, z_updE (F := fun j => f_all (2964 + j)) hS (hO (2964 + i) (by omega)), fun j hj => (pk_un (by omega)).trans (hO j (by omega))⟩) (show 988 - (i + 1) < 988 - i from by omega) _ _ ls G (lv_sub hl [0, 1, 2] rfl)
    · have c_7n : (f_has k_.toNatClampNeg).toInt = (0 : Int) := (fa_eq _ _).mp c_7
      refine lv_iconst (v := 0) hx hb dX12_again_18 (by decide) ?_
      exact z_zret C hr hlocks G (Nat.le_of_ble_eq_true rfl) (Nat.le_of_ble_eq_true rfl) dX12_again_19 rfl ⟨f_all, rfl, (Or.inl ⟨rfl, by first | exact Or.inr (Or.inr (by assumption)) | omega, rfl⟩)⟩
  · have h_5 : (k_.toInt < (0 : Int) ∨ (2 : Int) < k_.toInt) := h_5
    refine lv_if_eq (tgt := 18) hx hb dX12_again_6 (by decide) (fun _ => ?_) (fun q => absurd (by decide) q)
    refine lv_iconst (v := 0) hx hb dX12_again_18 (by decide) ?_
    exact z_zret C hr hlocks G (Nat.le_of_ble_eq_true rfl) (Nat.le_of_ble_eq_true rfl) dX12_again_19 rfl ⟨f_all, rfl, (Or.inl ⟨rfl, by first | exact Or.inr (Or.inr (by assumption)) | omega, rfl⟩)⟩
theorem m_fl_RX12_56 : Cond.fieldLink RX12 56 (TX12 2).1 (TX12 2).2.1 (TX12 2).2.2.1 ∈ zT := zmem1 zsub_5 237 rfl rfl
theorem dX12_isLetter_0 : decode cX12_isLetter 0 = .ok (.iload_n 0, 1) := zo_26 (by decide +kernel)
theorem dX12_isLetter_1 : decode cX12_isLetter 1 = .ok (.bipush 97, 2) := zo_16 (by decide +kernel)
theorem dX12_isLetter_3 : decode cX12_isLetter 3 = .ok (.if_icmp .lt 13, 3) := zo_161 (by decide +kernel)
theorem dX12_isLetter_6 : decode cX12_isLetter 6 = .ok (.iload_n 0, 1) := zo_26 (by decide +kernel)
theorem dX12_isLetter_7 : decode cX12_isLetter 7 = .ok (.bipush 122, 2) := zo_16 (by decide +kernel)
theorem dX12_isLetter_9 : decode cX12_isLetter 9 = .ok (.if_icmp .gt 7, 3) := zo_163 (by decide +kernel)
theorem dX12_isLetter_12 : decode cX12_isLetter 12 = .ok (.iconst 1, 1) := zo_4 (by decide +kernel)
theorem dX12_isLetter_13 : decode cX12_isLetter 13 = .ok (.goto 4, 3) := zo_167 (by decide +kernel)
theorem dX12_isLetter_16 : decode cX12_isLetter 16 = .ok (.iconst 0, 1) := zo_3 (by decide +kernel)
theorem dX12_isLetter_17 : decode cX12_isLetter 17 = .ok (.ireturn, 1) := zo_172 (by decide +kernel)
theorem dX12_isDigit_0 : decode cX12_isDigit 0 = .ok (.iload_n 0, 1) := zo_26 (by decide +kernel)
theorem dX12_isDigit_1 : decode cX12_isDigit 1 = .ok (.bipush 48, 2) := zo_16 (by decide +kernel)
theorem dX12_isDigit_3 : decode cX12_isDigit 3 = .ok (.if_icmp .lt 13, 3) := zo_161 (by decide +kernel)
theorem dX12_isDigit_6 : decode cX12_isDigit 6 = .ok (.iload_n 0, 1) := zo_26 (by decide +kernel)
theorem dX12_isDigit_7 : decode cX12_isDigit 7 = .ok (.bipush 57, 2) := zo_16 (by decide +kernel)
theorem dX12_isDigit_9 : decode cX12_isDigit 9 = .ok (.if_icmp .gt 7, 3) := zo_163 (by decide +kernel)
theorem dX12_isDigit_12 : decode cX12_isDigit 12 = .ok (.iconst 1, 1) := zo_4 (by decide +kernel)
theorem dX12_isDigit_13 : decode cX12_isDigit 13 = .ok (.goto 4, 3) := zo_167 (by decide +kernel)
theorem dX12_isDigit_16 : decode cX12_isDigit 16 = .ok (.iconst 0, 1) := zo_3 (by decide +kernel)
theorem dX12_isDigit_17 : decode cX12_isDigit 17 = .ok (.ireturn, 1) := zo_172 (by decide +kernel)
theorem dX12_byteAt_0 : decode cX12_byteAt 0 = .ok (.iload_n 1, 1) := zo_27 (by decide +kernel)
theorem dX12_byteAt_1 : decode cX12_byteAt 1 = .ok (.aload_n 0, 1) := zo_42 (by decide +kernel)
theorem dX12_byteAt_2 : decode cX12_byteAt 2 = .ok (.getfield 56, 3) := zo_180 (by decide +kernel)
theorem dX12_byteAt_5 : decode cX12_byteAt 5 = .ok (.if_icmp .ge 15, 3) := zo_162 (by decide +kernel)
theorem dX12_byteAt_8 : decode cX12_byteAt 8 = .ok (.aload_n 0, 1) := zo_42 (by decide +kernel)
theorem dX12_byteAt_9 : decode cX12_byteAt 9 = .ok (.getfield 7, 3) := zo_180 (by decide +kernel)
theorem dX12_byteAt_12 : decode cX12_byteAt 12 = .ok (.bipush 10, 2) := zo_16 (by decide +kernel)
theorem dX12_byteAt_14 : decode cX12_byteAt 14 = .ok (.iload_n 1, 1) := zo_27 (by decide +kernel)
theorem dX12_byteAt_15 : decode cX12_byteAt 15 = .ok (.iadd, 1) := zo_96 (by decide +kernel)
theorem dX12_byteAt_16 : decode cX12_byteAt 16 = .ok (.iaload, 1) := zo_46 (by decide +kernel)
theorem dX12_byteAt_17 : decode cX12_byteAt 17 = .ok (.goto 4, 3) := zo_167 (by decide +kernel)
theorem dX12_byteAt_20 : decode cX12_byteAt 20 = .ok (.iconst (-1), 1) := zo_2 (by decide +kernel)
theorem dX12_byteAt_21 : decode cX12_byteAt 21 = .ok (.ireturn, 1) := zo_172 (by decide +kernel)
set_option maxHeartbeats 4000000 in
set_option maxRecDepth 100000 in
/-- c_m_isLetter -/
theorem c_m_isLetter (l : Launch) (T : zTy) (x : Int32) : zMi l T yX12_isLetter cX12_isLetter 1 (some .boolean) 1 0 0 [.int x] [] (fun (r : Int32) bs => bs = [] ∧ ((r = 1 ∧ 97 ≤ x.toInt ∧ x.toInt ≤ 122) ∨ (r = 0 ∧ (x.toInt < 97 ∨ 122 < x.toInt)))) := by
  refine zMi_of (own := RX12) (by decide) rfl (Nat.le_of_ble_eq_true rfl) ?_
  intro p e s m args below meth c A ls C hr hlocks hnm hAe G hl
  have hx := C.1
  have hb := C.2.1
  have hl : lv_has ls 1 [(0, .int x)] := hl
  refine lv_iload_n hx hb dX12_isLetter_0 rfl (lv_at hl 0 rfl) ?_
  refine lv_bipush (v := 97) hx hb dX12_isLetter_1 (by decide) ?_
  refine lv_icmp_lt (tgt := 16) hx hb dX12_isLetter_3 (by decide) (fun c_1 => ?_) (fun c_1 => ?_)
  · have c_1n : x.toInt < (97 : Int) := (fa_lt _ _).mp c_1
    refine lv_iconst (v := 0) hx hb dX12_isLetter_16 (by decide) ?_
    exact z_zret C hr hlocks G (Nat.le_of_ble_eq_true rfl) (Nat.le_of_ble_eq_true rfl) dX12_isLetter_17 rfl ⟨rfl, (Or.inr (⟨rfl, (by first | with_reducible assumption | omega | assumption)⟩))⟩
  · have c_1n : ¬ x.toInt < (97 : Int) := fun q => c_1 ((fa_lt _ _).mpr q)
    refine lv_iload_n hx hb dX12_isLetter_6 rfl (lv_at hl 0 rfl) ?_
    refine lv_bipush (v := 122) hx hb dX12_isLetter_7 (by decide) ?_
    refine lv_icmp_gt (tgt := 16) hx hb dX12_isLetter_9 (by decide) (fun c_2 => ?_) (fun c_2 => ?_)
    · have c_2n : (122 : Int) < x.toInt := (fa_lt _ _).mp c_2
      refine lv_iconst (v := 0) hx hb dX12_isLetter_16 (by decide) ?_
      exact z_zret C hr hlocks G (Nat.le_of_ble_eq_true rfl) (Nat.le_of_ble_eq_true rfl) dX12_isLetter_17 rfl ⟨rfl, (Or.inr (⟨rfl, (by first | with_reducible assumption | omega | assumption)⟩))⟩
    · have c_2n : ¬ (122 : Int) < x.toInt := fun q => c_2 ((fa_lt _ _).mpr q)
      refine lv_iconst (v := 1) hx hb dX12_isLetter_12 (by decide) ?_
      refine lv_goto (tgt := 17) hx hb dX12_isLetter_13 (by decide) ?_
      exact z_zret C hr hlocks G (Nat.le_of_ble_eq_true rfl) (Nat.le_of_ble_eq_true rfl) dX12_isLetter_17 rfl ⟨rfl, (Or.inl (⟨rfl, (by first | with_reducible assumption | omega | assumption), (by first | with_reducible assumption | omega | assumption)⟩))⟩
set_option maxHeartbeats 4000000 in
set_option maxRecDepth 100000 in
/-- c_m_isDigit -/
theorem c_m_isDigit (l : Launch) (T : zTy) (x : Int32) : zMi l T yX12_isDigit cX12_isDigit 1 (some .boolean) 1 0 0 [.int x] [] (fun (r : Int32) bs => bs = [] ∧ ((r = 1 ∧ 48 ≤ x.toInt ∧ x.toInt ≤ 57) ∨ (r = 0 ∧ (x.toInt < 48 ∨ 57 < x.toInt)))) := by
  refine zMi_of (own := RX12) (by decide) rfl (Nat.le_of_ble_eq_true rfl) ?_
  intro p e s m args below meth c A ls C hr hlocks hnm hAe G hl
  have hx := C.1
  have hb := C.2.1
  have hl : lv_has ls 1 [(0, .int x)] := hl
  refine lv_iload_n hx hb dX12_isDigit_0 rfl (lv_at hl 0 rfl) ?_
  refine lv_bipush (v := 48) hx hb dX12_isDigit_1 (by decide) ?_
  refine lv_icmp_lt (tgt := 16) hx hb dX12_isDigit_3 (by decide) (fun c_1 => ?_) (fun c_1 => ?_)
  · have c_1n : x.toInt < (48 : Int) := (fa_lt _ _).mp c_1
    refine lv_iconst (v := 0) hx hb dX12_isDigit_16 (by decide) ?_
    exact z_zret C hr hlocks G (Nat.le_of_ble_eq_true rfl) (Nat.le_of_ble_eq_true rfl) dX12_isDigit_17 rfl ⟨rfl, (Or.inr (⟨rfl, (by first | with_reducible assumption | omega | assumption)⟩))⟩
  · have c_1n : ¬ x.toInt < (48 : Int) := fun q => c_1 ((fa_lt _ _).mpr q)
    refine lv_iload_n hx hb dX12_isDigit_6 rfl (lv_at hl 0 rfl) ?_
    refine lv_bipush (v := 57) hx hb dX12_isDigit_7 (by decide) ?_
    refine lv_icmp_gt (tgt := 16) hx hb dX12_isDigit_9 (by decide) (fun c_2 => ?_) (fun c_2 => ?_)
    · have c_2n : (57 : Int) < x.toInt := (fa_lt _ _).mp c_2
      refine lv_iconst (v := 0) hx hb dX12_isDigit_16 (by decide) ?_
      exact z_zret C hr hlocks G (Nat.le_of_ble_eq_true rfl) (Nat.le_of_ble_eq_true rfl) dX12_isDigit_17 rfl ⟨rfl, (Or.inr (⟨rfl, (by first | with_reducible assumption | omega | assumption)⟩))⟩
    · have c_2n : ¬ (57 : Int) < x.toInt := fun q => c_2 ((fa_lt _ _).mpr q)
      refine lv_iconst (v := 1) hx hb dX12_isDigit_12 (by decide) ?_
      refine lv_goto (tgt := 17) hx hb dX12_isDigit_13 (by decide) ?_
      exact z_zret C hr hlocks G (Nat.le_of_ble_eq_true rfl) (Nat.le_of_ble_eq_true rfl) dX12_isDigit_17 rfl ⟨rfl, (Or.inl (⟨rfl, (by first | with_reducible assumption | omega | assumption), (by first | with_reducible assumption | omega | assumption)⟩))⟩
theorem m_co_X12_four : Cond.code yX12_four cX12_four 4 (some .long) ∈ zT := zmem1 zsub_6 165 rfl rfl
theorem m_ml_RX12_60 : Cond.methodLink RX12 60 yX12_four ∈ zT := zmem1 zsub_6 163 rfl rfl
theorem m_st_X12_four : Cond.static yX12_four ∈ zT := zmem1 zsub_6 164 rfl rfl
theorem m_kl_RX12_64 : Cond.constantLong RX12 64 1048576 ∈ zT := zmem1 zsub_6 166 rfl rfl
theorem m_co_X12_eight : Cond.code yX12_eight cX12_eight 8 (some .long) ∈ zT := zmem1 zsub_6 162 rfl rfl
theorem m_ml_RX12_66 : Cond.methodLink RX12 66 yX12_eight ∈ zT := zmem1 zsub_6 160 rfl rfl
theorem m_st_X12_eight : Cond.static yX12_eight ∈ zT := zmem1 zsub_6 161 rfl rfl
theorem kS_RX12_60 {R : Room} {s : State} {args : Array Value} {d mc ms : Nat} (hts : ∀ w ∈ zT, w.before args s = true) (h1 : d + 1 ≤ R.frames) (h2 : 8 + (4 + 11) + 40 * d ≤ R.locals) : CallB R s args RX12 60 yX12_four cX12_four 4 (some .long) (zW yX12_four cX12_four 4 (some .long)) (zR d mc ms) mc ms 4 ∧ (Cond.static yX12_four).before args s = true := z_cwS hts m_co_X12_four m_ml_RX12_60 m_st_X12_four m_ii_RX12 (by decide +kernel) h1 h2
theorem kS_RX12_66 {R : Room} {s : State} {args : Array Value} {d mc ms : Nat} (hts : ∀ w ∈ zT, w.before args s = true) (h1 : d + 1 ≤ R.frames) (h2 : 8 + (8 + 11) + 40 * d ≤ R.locals) : CallB R s args RX12 66 yX12_eight cX12_eight 8 (some .long) (zW yX12_eight cX12_eight 8 (some .long)) (zR d mc ms) mc ms 8 ∧ (Cond.static yX12_eight).before args s = true := z_cwS hts m_co_X12_eight m_ml_RX12_66 m_st_X12_eight m_ii_RX12 (by decide +kernel) h1 h2
theorem dX12_four_0 : decode cX12_four 0 = .ok (.iload_n 0, 1) := zo_26 (by decide +kernel)
theorem dX12_four_1 : decode cX12_four 1 = .ok (.bipush 32, 2) := zo_16 (by decide +kernel)
theorem dX12_four_3 : decode cX12_four 3 = .ok (.imul, 1) := zo_104 (by decide +kernel)
theorem dX12_four_4 : decode cX12_four 4 = .ok (.iload_n 1, 1) := zo_27 (by decide +kernel)
theorem dX12_four_5 : decode cX12_four 5 = .ok (.iadd, 1) := zo_96 (by decide +kernel)
theorem dX12_four_6 : decode cX12_four 6 = .ok (.bipush 32, 2) := zo_16 (by decide +kernel)
theorem dX12_four_8 : decode cX12_four 8 = .ok (.imul, 1) := zo_104 (by decide +kernel)
theorem dX12_four_9 : decode cX12_four 9 = .ok (.iload_n 2, 1) := zo_28 (by decide +kernel)
theorem dX12_four_10 : decode cX12_four 10 = .ok (.iadd, 1) := zo_96 (by decide +kernel)
theorem dX12_four_11 : decode cX12_four 11 = .ok (.bipush 32, 2) := zo_16 (by decide +kernel)
theorem dX12_four_13 : decode cX12_four 13 = .ok (.imul, 1) := zo_104 (by decide +kernel)
theorem dX12_four_14 : decode cX12_four 14 = .ok (.iload_n 3, 1) := zo_29 (by decide +kernel)
theorem dX12_four_15 : decode cX12_four 15 = .ok (.iadd, 1) := zo_96 (by decide +kernel)
theorem dX12_four_16 : decode cX12_four 16 = .ok (.i2l, 1) := zo_133 (by decide +kernel)
theorem dX12_four_17 : decode cX12_four 17 = .ok (.lreturn, 1) := zo_173 (by decide +kernel)
theorem dX12_eight_0 : decode cX12_eight 0 = .ok (.iload_n 0, 1) := zo_26 (by decide +kernel)
theorem dX12_eight_1 : decode cX12_eight 1 = .ok (.iload_n 1, 1) := zo_27 (by decide +kernel)
theorem dX12_eight_2 : decode cX12_eight 2 = .ok (.iload_n 2, 1) := zo_28 (by decide +kernel)
theorem dX12_eight_3 : decode cX12_eight 3 = .ok (.iload_n 3, 1) := zo_29 (by decide +kernel)
theorem dX12_eight_4 : decode cX12_eight 4 = .ok (.invokestatic 60, 3) := zo_184 (by decide +kernel)
theorem dX12_eight_7 : decode cX12_eight 7 = .ok (.ldc2_w 64, 3) := zo_20 (by decide +kernel)
theorem dX12_eight_10 : decode cX12_eight 10 = .ok (.lmul, 1) := zo_105 (by decide +kernel)
theorem dX12_eight_11 : decode cX12_eight 11 = .ok (.iload 4, 2) := zo_21 (by decide +kernel)
theorem dX12_eight_13 : decode cX12_eight 13 = .ok (.iload 5, 2) := zo_21 (by decide +kernel)
theorem dX12_eight_15 : decode cX12_eight 15 = .ok (.iload 6, 2) := zo_21 (by decide +kernel)
theorem dX12_eight_17 : decode cX12_eight 17 = .ok (.iload 7, 2) := zo_21 (by decide +kernel)
theorem dX12_eight_19 : decode cX12_eight 19 = .ok (.invokestatic 60, 3) := zo_184 (by decide +kernel)
theorem dX12_eight_22 : decode cX12_eight 22 = .ok (.ladd, 1) := zo_97 (by decide +kernel)
theorem dX12_eight_23 : decode cX12_eight 23 = .ok (.lreturn, 1) := zo_173 (by decide +kernel)
theorem dX12_wordOf_0 : decode cX12_wordOf 0 = .ok (.lload_n 0, 1) := zo_30 (by decide +kernel)
theorem dX12_wordOf_1 : decode cX12_wordOf 1 = .ok (.iconst 0, 1) := zo_3 (by decide +kernel)
theorem dX12_wordOf_2 : decode cX12_wordOf 2 = .ok (.iconst 0, 1) := zo_3 (by decide +kernel)
theorem dX12_wordOf_3 : decode cX12_wordOf 3 = .ok (.iconst 0, 1) := zo_3 (by decide +kernel)
theorem dX12_wordOf_4 : decode cX12_wordOf 4 = .ok (.iconst 3, 1) := zo_6 (by decide +kernel)
theorem dX12_wordOf_5 : decode cX12_wordOf 5 = .ok (.bipush 18, 2) := zo_16 (by decide +kernel)
theorem dX12_wordOf_7 : decode cX12_wordOf 7 = .ok (.bipush 15, 2) := zo_16 (by decide +kernel)
theorem dX12_wordOf_9 : decode cX12_wordOf 9 = .ok (.bipush 19, 2) := zo_16 (by decide +kernel)
theorem dX12_wordOf_11 : decode cX12_wordOf 11 = .ok (.bipush 19, 2) := zo_16 (by decide +kernel)
theorem dX12_wordOf_13 : decode cX12_wordOf 13 = .ok (.invokestatic 66, 3) := zo_184 (by decide +kernel)
theorem dX12_wordOf_16 : decode cX12_wordOf 16 = .ok (.lcmp, 1) := zo_148 (by decide +kernel)
theorem dX12_wordOf_17 : decode cX12_wordOf 17 = .ok (.ifCond .ne 5, 3) := zo_154 (by decide +kernel)
theorem dX12_wordOf_20 : decode cX12_wordOf 20 = .ok (.iconst 1, 1) := zo_4 (by decide +kernel)
theorem dX12_wordOf_21 : decode cX12_wordOf 21 = .ok (.ireturn, 1) := zo_172 (by decide +kernel)
theorem dX12_wordOf_22 : decode cX12_wordOf 22 = .ok (.lload_n 0, 1) := zo_30 (by decide +kernel)
theorem dX12_wordOf_23 : decode cX12_wordOf 23 = .ok (.bipush 16, 2) := zo_16 (by decide +kernel)
theorem dX12_wordOf_25 : decode cX12_wordOf 25 = .ok (.bipush 15, 2) := zo_16 (by decide +kernel)
theorem dX12_wordOf_27 : decode cX12_wordOf 27 = .ok (.bipush 19, 2) := zo_16 (by decide +kernel)
theorem dX12_wordOf_29 : decode cX12_wordOf 29 = .ok (.bipush 20, 2) := zo_16 (by decide +kernel)
theorem dX12_wordOf_31 : decode cX12_wordOf 31 = .ok (.invokestatic 60, 3) := zo_184 (by decide +kernel)
theorem dX12_wordOf_34 : decode cX12_wordOf 34 = .ok (.lcmp, 1) := zo_148 (by decide +kernel)
theorem dX12_wordOf_35 : decode cX12_wordOf 35 = .ok (.ifCond .ne 5, 3) := zo_154 (by decide +kernel)
theorem dX12_wordOf_38 : decode cX12_wordOf 38 = .ok (.iconst 2, 1) := zo_5 (by decide +kernel)
theorem dX12_wordOf_39 : decode cX12_wordOf 39 = .ok (.ireturn, 1) := zo_172 (by decide +kernel)
theorem dX12_wordOf_40 : decode cX12_wordOf 40 = .ok (.lload_n 0, 1) := zo_30 (by decide +kernel)
theorem dX12_wordOf_41 : decode cX12_wordOf 41 = .ok (.iconst 0, 1) := zo_3 (by decide +kernel)
theorem dX12_wordOf_42 : decode cX12_wordOf 42 = .ok (.bipush 23, 2) := zo_16 (by decide +kernel)
theorem dX12_wordOf_44 : decode cX12_wordOf 44 = .ok (.iconst 1, 1) := zo_4 (by decide +kernel)
theorem dX12_wordOf_45 : decode cX12_wordOf 45 = .ok (.bipush 12, 2) := zo_16 (by decide +kernel)
theorem dX12_wordOf_47 : decode cX12_wordOf 47 = .ok (.bipush 11, 2) := zo_16 (by decide +kernel)
theorem dX12_wordOf_49 : decode cX12_wordOf 49 = .ok (.iconst 5, 1) := zo_8 (by decide +kernel)
theorem dX12_wordOf_50 : decode cX12_wordOf 50 = .ok (.bipush 18, 2) := zo_16 (by decide +kernel)
theorem dX12_wordOf_52 : decode cX12_wordOf 52 = .ok (.bipush 19, 2) := zo_16 (by decide +kernel)
theorem dX12_wordOf_54 : decode cX12_wordOf 54 = .ok (.invokestatic 66, 3) := zo_184 (by decide +kernel)
theorem dX12_wordOf_57 : decode cX12_wordOf 57 = .ok (.lcmp, 1) := zo_148 (by decide +kernel)
theorem dX12_wordOf_58 : decode cX12_wordOf 58 = .ok (.ifCond .ne 5, 3) := zo_154 (by decide +kernel)
theorem dX12_wordOf_61 : decode cX12_wordOf 61 = .ok (.iconst 3, 1) := zo_6 (by decide +kernel)
theorem dX12_wordOf_62 : decode cX12_wordOf 62 = .ok (.ireturn, 1) := zo_172 (by decide +kernel)
theorem dX12_wordOf_63 : decode cX12_wordOf 63 = .ok (.lload_n 0, 1) := zo_30 (by decide +kernel)
theorem dX12_wordOf_64 : decode cX12_wordOf 64 = .ok (.iconst 0, 1) := zo_3 (by decide +kernel)
theorem dX12_wordOf_65 : decode cX12_wordOf 65 = .ok (.bipush 9, 2) := zo_16 (by decide +kernel)
theorem dX12_wordOf_67 : decode cX12_wordOf 67 = .ok (.bipush 14, 2) := zo_16 (by decide +kernel)
theorem dX12_wordOf_69 : decode cX12_wordOf 69 = .ok (.bipush 14, 2) := zo_16 (by decide +kernel)
theorem dX12_wordOf_71 : decode cX12_wordOf 71 = .ok (.invokestatic 60, 3) := zo_184 (by decide +kernel)
theorem dX12_wordOf_74 : decode cX12_wordOf 74 = .ok (.lcmp, 1) := zo_148 (by decide +kernel)
theorem dX12_wordOf_75 : decode cX12_wordOf 75 = .ok (.ifCond .ne 5, 3) := zo_154 (by decide +kernel)
theorem dX12_wordOf_78 : decode cX12_wordOf 78 = .ok (.iconst 4, 1) := zo_7 (by decide +kernel)
theorem dX12_wordOf_79 : decode cX12_wordOf 79 = .ok (.ireturn, 1) := zo_172 (by decide +kernel)
theorem dX12_wordOf_80 : decode cX12_wordOf 80 = .ok (.lload_n 0, 1) := zo_30 (by decide +kernel)
theorem dX12_wordOf_81 : decode cX12_wordOf 81 = .ok (.iconst 0, 1) := zo_3 (by decide +kernel)
theorem dX12_wordOf_82 : decode cX12_wordOf 82 = .ok (.iconst 0, 1) := zo_3 (by decide +kernel)
theorem dX12_wordOf_83 : decode cX12_wordOf 83 = .ok (.bipush 7, 2) := zo_16 (by decide +kernel)
theorem dX12_wordOf_85 : decode cX12_wordOf 85 = .ok (.bipush 15, 2) := zo_16 (by decide +kernel)
theorem dX12_wordOf_87 : decode cX12_wordOf 87 = .ok (.invokestatic 60, 3) := zo_184 (by decide +kernel)
theorem dX12_wordOf_90 : decode cX12_wordOf 90 = .ok (.lcmp, 1) := zo_148 (by decide +kernel)
theorem dX12_wordOf_91 : decode cX12_wordOf 91 = .ok (.ifCond .ne 5, 3) := zo_154 (by decide +kernel)
theorem dX12_wordOf_94 : decode cX12_wordOf 94 = .ok (.iconst 5, 1) := zo_8 (by decide +kernel)
theorem dX12_wordOf_95 : decode cX12_wordOf 95 = .ok (.ireturn, 1) := zo_172 (by decide +kernel)
theorem dX12_wordOf_96 : decode cX12_wordOf 96 = .ok (.lload_n 0, 1) := zo_30 (by decide +kernel)
theorem dX12_wordOf_97 : decode cX12_wordOf 97 = .ok (.iconst 0, 1) := zo_3 (by decide +kernel)
theorem dX12_wordOf_98 : decode cX12_wordOf 98 = .ok (.bipush 18, 2) := zo_16 (by decide +kernel)
theorem dX12_wordOf_100 : decode cX12_wordOf 100 = .ok (.bipush 21, 2) := zo_16 (by decide +kernel)
theorem dX12_wordOf_102 : decode cX12_wordOf 102 = .ok (.bipush 14, 2) := zo_16 (by decide +kernel)
theorem dX12_wordOf_104 : decode cX12_wordOf 104 = .ok (.invokestatic 60, 3) := zo_184 (by decide +kernel)
theorem dX12_wordOf_107 : decode cX12_wordOf 107 = .ok (.lcmp, 1) := zo_148 (by decide +kernel)
theorem dX12_wordOf_108 : decode cX12_wordOf 108 = .ok (.ifCond .ne 6, 3) := zo_154 (by decide +kernel)
theorem dX12_wordOf_111 : decode cX12_wordOf 111 = .ok (.bipush 6, 2) := zo_16 (by decide +kernel)
theorem dX12_wordOf_113 : decode cX12_wordOf 113 = .ok (.ireturn, 1) := zo_172 (by decide +kernel)
theorem dX12_wordOf_114 : decode cX12_wordOf 114 = .ok (.lload_n 0, 1) := zo_30 (by decide +kernel)
theorem dX12_wordOf_115 : decode cX12_wordOf 115 = .ok (.bipush 20, 2) := zo_16 (by decide +kernel)
theorem dX12_wordOf_117 : decode cX12_wordOf 117 = .ok (.bipush 21, 2) := zo_16 (by decide +kernel)
theorem dX12_wordOf_119 : decode cX12_wordOf 119 = .ok (.bipush 18, 2) := zo_16 (by decide +kernel)
theorem dX12_wordOf_121 : decode cX12_wordOf 121 = .ok (.bipush 14, 2) := zo_16 (by decide +kernel)
theorem dX12_wordOf_123 : decode cX12_wordOf 123 = .ok (.invokestatic 60, 3) := zo_184 (by decide +kernel)
theorem dX12_wordOf_126 : decode cX12_wordOf 126 = .ok (.lcmp, 1) := zo_148 (by decide +kernel)
theorem dX12_wordOf_127 : decode cX12_wordOf 127 = .ok (.ifCond .ne 6, 3) := zo_154 (by decide +kernel)
theorem dX12_wordOf_130 : decode cX12_wordOf 130 = .ok (.bipush 7, 2) := zo_16 (by decide +kernel)
theorem dX12_wordOf_132 : decode cX12_wordOf 132 = .ok (.ireturn, 1) := zo_172 (by decide +kernel)
theorem dX12_wordOf_133 : decode cX12_wordOf 133 = .ok (.lload_n 0, 1) := zo_30 (by decide +kernel)
theorem dX12_wordOf_134 : decode cX12_wordOf 134 = .ok (.iconst 0, 1) := zo_3 (by decide +kernel)
theorem dX12_wordOf_135 : decode cX12_wordOf 135 = .ok (.iconst 1, 1) := zo_4 (by decide +kernel)
theorem dX12_wordOf_136 : decode cX12_wordOf 136 = .ok (.iconst 4, 1) := zo_7 (by decide +kernel)
theorem dX12_wordOf_137 : decode cX12_wordOf 137 = .ok (.iconst 4, 1) := zo_7 (by decide +kernel)
theorem dX12_wordOf_138 : decode cX12_wordOf 138 = .ok (.invokestatic 60, 3) := zo_184 (by decide +kernel)
theorem dX12_wordOf_141 : decode cX12_wordOf 141 = .ok (.lcmp, 1) := zo_148 (by decide +kernel)
theorem dX12_wordOf_142 : decode cX12_wordOf 142 = .ok (.ifCond .ne 6, 3) := zo_154 (by decide +kernel)
theorem dX12_wordOf_145 : decode cX12_wordOf 145 = .ok (.bipush 8, 2) := zo_16 (by decide +kernel)
theorem dX12_wordOf_147 : decode cX12_wordOf 147 = .ok (.ireturn, 1) := zo_172 (by decide +kernel)
theorem dX12_wordOf_148 : decode cX12_wordOf 148 = .ok (.lload_n 0, 1) := zo_30 (by decide +kernel)
theorem dX12_wordOf_149 : decode cX12_wordOf 149 = .ok (.bipush 19, 2) := zo_16 (by decide +kernel)
theorem dX12_wordOf_151 : decode cX12_wordOf 151 = .ok (.bipush 8, 2) := zo_16 (by decide +kernel)
theorem dX12_wordOf_153 : decode cX12_wordOf 153 = .ok (.bipush 21, 2) := zo_16 (by decide +kernel)
theorem dX12_wordOf_155 : decode cX12_wordOf 155 = .ok (.bipush 20, 2) := zo_16 (by decide +kernel)
theorem dX12_wordOf_157 : decode cX12_wordOf 157 = .ok (.invokestatic 60, 3) := zo_184 (by decide +kernel)
theorem dX12_wordOf_160 : decode cX12_wordOf 160 = .ok (.lcmp, 1) := zo_148 (by decide +kernel)
theorem dX12_wordOf_161 : decode cX12_wordOf 161 = .ok (.ifCond .ne 6, 3) := zo_154 (by decide +kernel)
theorem dX12_wordOf_164 : decode cX12_wordOf 164 = .ok (.bipush 9, 2) := zo_16 (by decide +kernel)
theorem dX12_wordOf_166 : decode cX12_wordOf 166 = .ok (.ireturn, 1) := zo_172 (by decide +kernel)
theorem dX12_wordOf_167 : decode cX12_wordOf 167 = .ok (.lload_n 0, 1) := zo_30 (by decide +kernel)
theorem dX12_wordOf_168 : decode cX12_wordOf 168 = .ok (.bipush 15, 2) := zo_16 (by decide +kernel)
theorem dX12_wordOf_170 : decode cX12_wordOf 170 = .ok (.bipush 16, 2) := zo_16 (by decide +kernel)
theorem dX12_wordOf_172 : decode cX12_wordOf 172 = .ok (.iconst 5, 1) := zo_8 (by decide +kernel)
theorem dX12_wordOf_173 : decode cX12_wordOf 173 = .ok (.bipush 14, 2) := zo_16 (by decide +kernel)
theorem dX12_wordOf_175 : decode cX12_wordOf 175 = .ok (.invokestatic 60, 3) := zo_184 (by decide +kernel)
theorem dX12_wordOf_178 : decode cX12_wordOf 178 = .ok (.lcmp, 1) := zo_148 (by decide +kernel)
theorem dX12_wordOf_179 : decode cX12_wordOf 179 = .ok (.ifCond .ne 6, 3) := zo_154 (by decide +kernel)
theorem dX12_wordOf_182 : decode cX12_wordOf 182 = .ok (.bipush 10, 2) := zo_16 (by decide +kernel)
theorem dX12_wordOf_184 : decode cX12_wordOf 184 = .ok (.ireturn, 1) := zo_172 (by decide +kernel)
theorem dX12_wordOf_185 : decode cX12_wordOf 185 = .ok (.lload_n 0, 1) := zo_30 (by decide +kernel)
theorem dX12_wordOf_186 : decode cX12_wordOf 186 = .ok (.iconst 3, 1) := zo_6 (by decide +kernel)
theorem dX12_wordOf_187 : decode cX12_wordOf 187 = .ok (.iconst 1, 1) := zo_4 (by decide +kernel)
theorem dX12_wordOf_188 : decode cX12_wordOf 188 = .ok (.bipush 13, 2) := zo_16 (by decide +kernel)
theorem dX12_wordOf_190 : decode cX12_wordOf 190 = .ok (.iconst 5, 1) := zo_8 (by decide +kernel)
theorem dX12_wordOf_191 : decode cX12_wordOf 191 = .ok (.invokestatic 60, 3) := zo_184 (by decide +kernel)
theorem dX12_wordOf_194 : decode cX12_wordOf 194 = .ok (.lcmp, 1) := zo_148 (by decide +kernel)
theorem dX12_wordOf_195 : decode cX12_wordOf 195 = .ok (.ifCond .ne 6, 3) := zo_154 (by decide +kernel)
theorem dX12_wordOf_198 : decode cX12_wordOf 198 = .ok (.bipush 11, 2) := zo_16 (by decide +kernel)
theorem dX12_wordOf_200 : decode cX12_wordOf 200 = .ok (.ireturn, 1) := zo_172 (by decide +kernel)
theorem dX12_wordOf_201 : decode cX12_wordOf 201 = .ok (.lload_n 0, 1) := zo_30 (by decide +kernel)
theorem dX12_wordOf_202 : decode cX12_wordOf 202 = .ok (.iconst 0, 1) := zo_3 (by decide +kernel)
theorem dX12_wordOf_203 : decode cX12_wordOf 203 = .ok (.iconst 0, 1) := zo_3 (by decide +kernel)
theorem dX12_wordOf_204 : decode cX12_wordOf 204 = .ok (.iconst 0, 1) := zo_3 (by decide +kernel)
theorem dX12_wordOf_205 : decode cX12_wordOf 205 = .ok (.bipush 14, 2) := zo_16 (by decide +kernel)
theorem dX12_wordOf_207 : decode cX12_wordOf 207 = .ok (.iconst 5, 1) := zo_8 (by decide +kernel)
theorem dX12_wordOf_208 : decode cX12_wordOf 208 = .ok (.bipush 22, 2) := zo_16 (by decide +kernel)
theorem dX12_wordOf_210 : decode cX12_wordOf 210 = .ok (.iconst 5, 1) := zo_8 (by decide +kernel)
theorem dX12_wordOf_211 : decode cX12_wordOf 211 = .ok (.bipush 18, 2) := zo_16 (by decide +kernel)
theorem dX12_wordOf_213 : decode cX12_wordOf 213 = .ok (.invokestatic 66, 3) := zo_184 (by decide +kernel)
theorem dX12_wordOf_216 : decode cX12_wordOf 216 = .ok (.lcmp, 1) := zo_148 (by decide +kernel)
theorem dX12_wordOf_217 : decode cX12_wordOf 217 = .ok (.ifCond .ne 8, 3) := zo_154 (by decide +kernel)
theorem dX12_wordOf_220 : decode cX12_wordOf 220 = .ok (.bipush 12, 2) := zo_16 (by decide +kernel)
theorem dX12_wordOf_222 : decode cX12_wordOf 222 = .ok (.goto 5, 3) := zo_167 (by decide +kernel)
theorem dX12_wordOf_225 : decode cX12_wordOf 225 = .ok (.bipush 99, 2) := zo_16 (by decide +kernel)
theorem dX12_wordOf_227 : decode cX12_wordOf 227 = .ok (.ireturn, 1) := zo_172 (by decide +kernel)
section ZLong
variable {p : Program} {l : Launch} {e : Env} {R : Room} {s : State} {m : MethodId} {args : Array Value} {below : List Frame} {meth : Method} {c : Code} {H : Heap} {locs : List Loc} {cells slots : Nat} {Q : State → Prop}
variable {cc : ByteArray} {nL pc : Nat} {ls : Array Slot} {rest st0 : List Value} {T : zTy} {A : Nat → Prop} {bs bc br : List va_W} {H0 : Heap} {own : String}
variable {y : MethodName} {bytes : ByteArray} {maxL index n d mc ms : Nat} {ret : Option FieldType} {As : List Value}
def zMl (l : Launch) (T : zTy) (y : MethodName) (b : ByteArray) (n : Nat) (ret : Option FieldType) (d mc ms : Nat) (av : List Value) (bs : List va_W) (post : Int64 → List va_W → Prop) : Prop :=
  ∀ sz : Nat, Met l y (zW y b n ret) (zR d mc ms) (zPre T av bs sz) (va_Ql post (zB T (va_A bs.flatten sz)) (va_A bs.flatten sz)) mc ms (va_A bs.flatten sz)
theorem zMl_of {y : MethodName} {b : ByteArray} {n : Nat} {ret : Option FieldType} {d : Nat} {av : List Value} {post : Int64 → List va_W → Prop} (hy : plainName y.cls = true) (ho : y.cls = own) (hlen : (lg_sl av).length ≤ n) (k : zBody l T y own b n ret d mc ms av bs (fun A => va_Ql post (zB T A) A)) : zMl l T y b n ret d mc ms av bs post := z_body (Qc := fun A => va_Ql post (zB T A) A) hy ho hlen k
theorem z_lret {post : Int64 → List va_W → Prop} {v : Int64} (C : CallFix p m c cc nL s args zT own) (hr : meth.sig.returnType = some .long) (hlocks : meth.locks = false) (G : zS T A s.heap s bs H locs) (h1 : cells ≤ mc) (h2 : slots ≤ ms) (hdg : decode cc pc = .ok (.lreturn, 1)) (hp : post v bs) : W p l e R s m args below meth c H locs cells slots (MQ below (va_Ql post (zB T A) A) args s mc ms A) (F0 m pc ls [.long v]) :=
  W.widen h1 h2 (W.lret C.1 C.2.1 hr (fun t ht hW => ⟨⟨v, bs, rfl, hp, by rw [ht]; exact G.2.1, va_K.moved hW.alike G.1, G.2.2.1⟩, G.2.2.2.1.F ht⟩) G.2.2.2.1.2.2 hdg hlocks)
theorem z_Sl (C : CallFix p m c cc nL s args zT own) (G : zS T A H0 s bs H locs) {post : Int64 → List va_W → Prop} (hM : zMl l T y bytes maxL ret d mc ms As bc post) (cw : CallB R s args own index y bytes maxL ret (zW y bytes maxL ret) (zR d mc ms) mc ms n ∧ (Cond.static y).before args s = true) (isC isR : List Nat) (hC : isC.map (fun i => bs[i]?) = bc.map some) (hR : isR.map (fun i => bs[i]?) = br.map some) (hn : As.length = n) (hst : st0 = As.reverse ++ rest) (hls : ls.size = nL) (hdg : decode cc pc = .ok (.invokestatic index, 3)) (hf1 : cells + mc ≤ R.cells) (hf2 : slots + ms ≤ R.slots)
    (kk : ∀ (r : Int64) (b1 : List va_W) (H1 : Heap) (locs1 : List Loc), post r b1 → zS T A H0 s (br ++ b1) H1 locs1 → W p l e R s m args below meth c H1 locs1 (cells + mc) (slots + ms) Q (F0 m (pc + 3) ls (.long r :: rest)))
    (hW : (rest.map fun v => v.category).sum ≤ 8 := by exact Nat.le_of_ble_eq_true rfl) (hnC : va_nd isC = true := by decide) (hnR : va_nd isR = true := by decide) (hdis : ∀ i ∈ isR, i ∉ isC := by decide) : W p l e R s m args below meth c H locs cells slots Q (F0 m pc ls st0) := by
  subst hst
  refine va_calll (va_runS (As := As) (rest := rest) ⟨C.1, C.2.1, C.2.2.1, C.2.2.2.1, C.2.2.2.2⟩ (hM H.size) cw (z_pre G isC hC hnC As) rfl hn hls rfl (lv_room hW) hdg ⟨hf1, hf2⟩) G.2.2.2.1 (fun q _ h => z_freeF G isC hC hnC q h) (z_freeF G isC hC hnC) (fun r b1 t H1 locs1 ht hvm hp hB hz hk hS => ?_)
  obtain ⟨hP1, hK1, hD1⟩ := hB
  rw [ht] at hP1
  exact kk r b1 H1 locs1 hp (z_join G isC isR hC hR hnC hnR hdis hk hP1 hD1 hS)
theorem z_lcne (hexec : p.tables.exec = Jvm.exec) (hb : c.code = cc) {x y : Int64} {off : Int} {tgt : Nat} (hd1 : decode cc pc = .ok (.lcmp, 1)) (hd2 : decode cc (pc + 1) = .ok (.ifCond .ne off, 3)) (ht : ((pc + 1 : Nat) : Int) + off = (tgt : Int))
    (kt : ¬ x = y → W p l e R s m args below meth c H locs cells slots Q (F0 m tgt ls rest)) (kf : x = y → W p l e R s m args below meth c H locs cells slots Q (F0 m (pc + 1 + 3) ls rest)) : W p l e R s m args below meth c H locs cells slots Q (F0 m pc ls (.long y :: .long x :: rest)) := by
  have step : ∀ v : Int32, (x > y ∧ v = 1) ∨ (¬ x > y ∧ x = y ∧ v = 0) ∨ (¬ x > y ∧ ¬ x = y ∧ v = -1) → W p l e R s m args below meth c H locs cells slots Q (F0 m (pc + 1) ls (.int v :: rest)) → W p l e R s m args below meth c H locs cells slots Q (F0 m pc ls (.long y :: .long x :: rest)) := by
    intro v hv k
    intro T hT X
    obtain ⟨t, a, b⟩ := k T hT X
    refine ⟨t, ?_, b⟩
    rcases hv with ⟨c1, rfl⟩ | ⟨c1, c2, rfl⟩ | ⟨c1, c2, rfl⟩
    · jvm_step X.here [X.here.top, hexec, hb, hd1, c1]
      exact a
    · subst c2
      jvm_step X.here [X.here.top, hexec, hb, hd1, c1]
      exact a
    · jvm_step X.here [X.here.top, hexec, hb, hd1, c1, c2]
      exact a
  by_cases c1 : x > y
  · exact step 1 (Or.inl ⟨c1, rfl⟩) (lv_if_ne hexec hb hd2 ht (fun _ => kt (fun q => absurd c1 (by rw [q]; exact Int64.lt_irrefl))) (fun q => absurd q (by decide)))
  · by_cases c2 : x = y
    · exact step 0 (Or.inr (Or.inl ⟨c1, c2, rfl⟩)) (lv_if_ne hexec hb hd2 ht (fun q => absurd rfl q) (fun _ => kf c2))
    · exact step (-1) (Or.inr (Or.inr ⟨c1, c2, rfl⟩)) (lv_if_ne hexec hb hd2 ht (fun _ => kt c2) (fun q => absurd q (by decide)))
end ZLong
def zFour (a b c d : Int32) : Int64 := (((a * 32 + b) * 32 + c) * 32 + d).toInt64
def zEight (a b c d e f g h : Int32) : Int64 := zFour a b c d * 1048576 + zFour e f g h
def zWord (v : Int64) : Int32 := if v = zEight 0 0 0 3 18 15 19 19 then 1 else if v = zFour 16 15 19 20 then 2 else if v = zEight 0 23 1 12 11 5 18 19 then 3 else if v = zFour 0 9 14 14 then 4 else if v = zFour 0 0 7 15 then 5 else if v = zFour 0 18 21 14 then 6 else if v = zFour 20 21 18 14 then 7 else if v = zFour 0 1 4 4 then 8 else if v = zFour 19 8 21 20 then 9 else if v = zFour 15 16 5 14 then 10 else if v = zFour 3 1 13 5 then 11 else if v = zEight 0 0 0 14 5 22 5 18 then 12 else 99
set_option maxHeartbeats 4000000 in
set_option maxRecDepth 100000 in
/-- c_m_four -/
theorem c_m_four (l : Launch) (T : zTy) (a_ : Int32) (b_ : Int32) (c_ : Int32) (d_ : Int32) : zMl l T yX12_four cX12_four 4 (some .long) 1 0 0 [.int a_, .int b_, .int c_, .int d_] [] (fun (r : Int64) bs => bs = [] ∧ r = zFour a_ b_ c_ d_) := by
  refine zMl_of (own := RX12) (by decide) rfl (Nat.le_of_ble_eq_true rfl) ?_
  intro p e s m args below meth c A ls C hr hlocks hnm hAe G hl
  have hx := C.1
  have hb := C.2.1
  have hl : lv_has ls 4 [(0, .int a_), (1, .int b_), (2, .int c_), (3, .int d_)] := hl
  refine lv_iload_n hx hb dX12_four_0 rfl (lv_at hl 0 rfl) ?_
  refine lv_bipush (v := 32) hx hb dX12_four_1 (by decide) ?_
  refine lv_imul hx hb dX12_four_3 ?_
  refine lv_iload_n hx hb dX12_four_4 rfl (lv_at hl 1 rfl) ?_
  refine lv_iadd hx hb dX12_four_5 ?_
  refine lv_bipush (v := 32) hx hb dX12_four_6 (by decide) ?_
  refine lv_imul hx hb dX12_four_8 ?_
  refine lv_iload_n hx hb dX12_four_9 rfl (lv_at hl 2 rfl) ?_
  refine lv_iadd hx hb dX12_four_10 ?_
  refine lv_bipush (v := 32) hx hb dX12_four_11 (by decide) ?_
  refine lv_imul hx hb dX12_four_13 ?_
  refine lv_iload_n hx hb dX12_four_14 rfl (lv_at hl 3 rfl) ?_
  refine lv_iadd hx hb dX12_four_15 ?_
  refine lv_i2l hx hb dX12_four_16 rfl ?_
  exact z_lret C hr hlocks G (Nat.le_of_ble_eq_true rfl) (Nat.le_of_ble_eq_true rfl) dX12_four_17 ⟨rfl, rfl⟩
set_option maxHeartbeats 4000000 in
set_option maxRecDepth 100000 in
/-- c_m_eight -/
theorem c_m_eight (l : Launch) (T : zTy) (a_ : Int32) (b_ : Int32) (c_ : Int32) (d_ : Int32) (e_ : Int32) (f_ : Int32) (g_ : Int32) (h_ : Int32) : zMl l T yX12_eight cX12_eight 8 (some .long) 2 0 0 [.int a_, .int b_, .int c_, .int d_, .int e_, .int f_, .int g_, .int h_] [] (fun (r : Int64) bs => bs = [] ∧ r = zEight a_ b_ c_ d_ e_ f_ g_ h_) := by
  refine zMl_of (own := RX12) (by decide) rfl (Nat.le_of_ble_eq_true rfl) ?_
  intro p e s m args below meth c A ls C hr hlocks hnm hAe G hl
  have hx := C.1
  have hb := C.2.1
  have hl : lv_has ls 8 [(0, .int a_), (1, .int b_), (2, .int c_), (3, .int d_), (4, .int e_), (5, .int f_), (6, .int g_), (7, .int h_)] := hl
  refine lv_iload_n hx hb dX12_eight_0 rfl (lv_at hl 0 rfl) ?_
  refine lv_iload_n hx hb dX12_eight_1 rfl (lv_at hl 1 rfl) ?_
  refine lv_iload_n hx hb dX12_eight_2 rfl (lv_at hl 2 rfl) ?_
  refine lv_iload_n hx hb dX12_eight_3 rfl (lv_at hl 3 rfl) ?_
  refine z_Sl (bc := []) (br := []) (As := [.int a_, .int b_, .int c_, .int d_]) (rest := []) C G (c_m_four l T a_ b_ c_ d_) (kS_RX12_60 C.2.2.2.2 (Nat.le_of_ble_eq_true rfl) (Nat.le_of_ble_eq_true rfl)) [] [] rfl rfl rfl rfl hl.1 dX12_eight_4 (Nat.le_of_ble_eq_true rfl) (Nat.le_of_ble_eq_true rfl) (fun r_2 b1 H locs hw G => ?_)
  refine zAn2 hw ?_
  intro hbs9 h_1
  clear hw
  subst hbs9
  have G : zS T A s.heap s [] _ _ := G
  subst h_1
  refine lv_ldc2 (v := 1048576) hx hb C.2.2.2.1 (C.2.2.2.2 _ m_kl_RX12_64) dX12_eight_7 ?_
  refine lv_lmul hx hb dX12_eight_10 ?_
  refine lv_iload hx hb dX12_eight_11 (lv_at hl 4 rfl) ?_
  refine lv_iload hx hb dX12_eight_13 (lv_at hl 5 rfl) ?_
  refine lv_iload hx hb dX12_eight_15 (lv_at hl 6 rfl) ?_
  refine lv_iload hx hb dX12_eight_17 (lv_at hl 7 rfl) ?_
  refine z_Sl (bc := []) (br := []) (As := [.int e_, .int f_, .int g_, .int h_]) (rest := [.long ((zFour a_ b_ c_ d_) * (1048576 : Int64))]) C G (c_m_four l T e_ f_ g_ h_) (kS_RX12_60 C.2.2.2.2 (Nat.le_of_ble_eq_true rfl) (Nat.le_of_ble_eq_true rfl)) [] [] rfl rfl rfl rfl hl.1 dX12_eight_19 (Nat.le_of_ble_eq_true rfl) (Nat.le_of_ble_eq_true rfl) (fun r_4 b1 H locs hw G => ?_)
  refine zAn2 hw ?_
  intro hbs9 h_3
  clear hw
  subst hbs9
  have G : zS T A s.heap s [] _ _ := G
  subst h_3
  refine lv_ladd hx hb dX12_eight_22 ?_
  exact z_lret C hr hlocks G (Nat.le_of_ble_eq_true rfl) (Nat.le_of_ble_eq_true rfl) dX12_eight_23 ⟨rfl, rfl⟩
set_option maxHeartbeats 4000000 in
set_option maxRecDepth 100000 in
/-- c_m_wordOf -/
theorem c_m_wordOf (l : Launch) (T : zTy) (v : Int64) : zMi l T yX12_wordOf cX12_wordOf 2 (some .int) 3 0 0 [.long v] [] (fun (r : Int32) bs => bs = [] ∧ r = zWord v) := by
  refine zMi_of (own := RX12) (by decide) rfl (Nat.le_of_ble_eq_true rfl) ?_
  intro p e s m args below meth c A ls C hr hlocks hnm hAe G hl
  have hx := C.1
  have hb := C.2.1
  have hl : lv_has ls 2 [(0, .long v)] := hl
  refine lv_lload_n hx hb dX12_wordOf_0 rfl (lv_at hl 0 rfl) ?_
  refine lv_iconst (v := 0) hx hb dX12_wordOf_1 (by decide) ?_
  refine lv_iconst (v := 0) hx hb dX12_wordOf_2 (by decide) ?_
  refine lv_iconst (v := 0) hx hb dX12_wordOf_3 (by decide) ?_
  refine lv_iconst (v := 3) hx hb dX12_wordOf_4 (by decide) ?_
  refine lv_bipush (v := 18) hx hb dX12_wordOf_5 (by decide) ?_
  refine lv_bipush (v := 15) hx hb dX12_wordOf_7 (by decide) ?_
  refine lv_bipush (v := 19) hx hb dX12_wordOf_9 (by decide) ?_
  refine lv_bipush (v := 19) hx hb dX12_wordOf_11 (by decide) ?_
  refine z_Sl (bc := []) (br := []) (As := [.int 0, .int 0, .int 0, .int 3, .int 18, .int 15, .int 19, .int 19]) (rest := [.long v]) C G (c_m_eight l T 0 0 0 3 18 15 19 19) (kS_RX12_66 C.2.2.2.2 (Nat.le_of_ble_eq_true rfl) (Nat.le_of_ble_eq_true rfl)) [] [] rfl rfl rfl rfl hl.1 dX12_wordOf_13 (Nat.le_of_ble_eq_true rfl) (Nat.le_of_ble_eq_true rfl) (fun r_2 b1 H locs hw G => ?_)
  refine zAn2 hw ?_
  intro hbs9 h_1
  clear hw
  subst hbs9
  have G : zS T A s.heap s [] _ _ := G
  subst h_1
  refine z_lcne (tgt := 22) hx hb dX12_wordOf_16 dX12_wordOf_17 (by decide) (fun c_3 => ?_) (fun c_3 => ?_)
  · have c_3n : ¬ (v = (zEight 0 0 0 3 18 15 19 19)) := c_3
    refine lv_lload_n hx hb dX12_wordOf_22 rfl (lv_at hl 0 rfl) ?_
    refine lv_bipush (v := 16) hx hb dX12_wordOf_23 (by decide) ?_
    refine lv_bipush (v := 15) hx hb dX12_wordOf_25 (by decide) ?_
    refine lv_bipush (v := 19) hx hb dX12_wordOf_27 (by decide) ?_
    refine lv_bipush (v := 20) hx hb dX12_wordOf_29 (by decide) ?_
    refine z_Sl (bc := []) (br := []) (As := [.int 16, .int 15, .int 19, .int 20]) (rest := [.long v]) C G (c_m_four l T 16 15 19 20) (kS_RX12_60 C.2.2.2.2 (Nat.le_of_ble_eq_true rfl) (Nat.le_of_ble_eq_true rfl)) [] [] rfl rfl rfl rfl hl.1 dX12_wordOf_31 (Nat.le_of_ble_eq_true rfl) (Nat.le_of_ble_eq_true rfl) (fun r_5 b1 H locs hw G => ?_)
    refine zAn2 hw ?_
    intro hbs9 h_4
    clear hw
    subst hbs9
    have G : zS T A s.heap s [] _ _ := G
    subst h_4
    refine z_lcne (tgt := 40) hx hb dX12_wordOf_34 dX12_wordOf_35 (by decide) (fun c_6 => ?_) (fun c_6 => ?_)
    · have c_6n : ¬ (v = (zFour 16 15 19 20)) := c_6
      refine lv_lload_n hx hb dX12_wordOf_40 rfl (lv_at hl 0 rfl) ?_
      refine lv_iconst (v := 0) hx hb dX12_wordOf_41 (by decide) ?_
      refine lv_bipush (v := 23) hx hb dX12_wordOf_42 (by decide) ?_
      refine lv_iconst (v := 1) hx hb dX12_wordOf_44 (by decide) ?_
      refine lv_bipush (v := 12) hx hb dX12_wordOf_45 (by decide) ?_
      refine lv_bipush (v := 11) hx hb dX12_wordOf_47 (by decide) ?_
      refine lv_iconst (v := 5) hx hb dX12_wordOf_49 (by decide) ?_
      refine lv_bipush (v := 18) hx hb dX12_wordOf_50 (by decide) ?_
      refine lv_bipush (v := 19) hx hb dX12_wordOf_52 (by decide) ?_
      refine z_Sl (bc := []) (br := []) (As := [.int 0, .int 23, .int 1, .int 12, .int 11, .int 5, .int 18, .int 19]) (rest := [.long v]) C G (c_m_eight l T 0 23 1 12 11 5 18 19) (kS_RX12_66 C.2.2.2.2 (Nat.le_of_ble_eq_true rfl) (Nat.le_of_ble_eq_true rfl)) [] [] rfl rfl rfl rfl hl.1 dX12_wordOf_54 (Nat.le_of_ble_eq_true rfl) (Nat.le_of_ble_eq_true rfl) (fun r_8 b1 H locs hw G => ?_)
      refine zAn2 hw ?_
      intro hbs9 h_7
      clear hw
      subst hbs9
      have G : zS T A s.heap s [] _ _ := G
      subst h_7
      refine z_lcne (tgt := 63) hx hb dX12_wordOf_57 dX12_wordOf_58 (by decide) (fun c_9 => ?_) (fun c_9 => ?_)
      · have c_9n : ¬ (v = (zEight 0 23 1 12 11 5 18 19)) := c_9
        refine lv_lload_n hx hb dX12_wordOf_63 rfl (lv_at hl 0 rfl) ?_
        refine lv_iconst (v := 0) hx hb dX12_wordOf_64 (by decide) ?_
        refine lv_bipush (v := 9) hx hb dX12_wordOf_65 (by decide) ?_
        refine lv_bipush (v := 14) hx hb dX12_wordOf_67 (by decide) ?_
        refine lv_bipush (v := 14) hx hb dX12_wordOf_69 (by decide) ?_
        refine z_Sl (bc := []) (br := []) (As := [.int 0, .int 9, .int 14, .int 14]) (rest := [.long v]) C G (c_m_four l T 0 9 14 14) (kS_RX12_60 C.2.2.2.2 (Nat.le_of_ble_eq_true rfl) (Nat.le_of_ble_eq_true rfl)) [] [] rfl rfl rfl rfl hl.1 dX12_wordOf_71 (Nat.le_of_ble_eq_true rfl) (Nat.le_of_ble_eq_true rfl) (fun r_11 b1 H locs hw G => ?_)
        refine zAn2 hw ?_
        intro hbs9 h_10
        clear hw
        subst hbs9
        have G : zS T A s.heap s [] _ _ := G
        subst h_10
        refine z_lcne (tgt := 80) hx hb dX12_wordOf_74 dX12_wordOf_75 (by decide) (fun c_12 => ?_) (fun c_12 => ?_)
        · have c_12n : ¬ (v = (zFour 0 9 14 14)) := c_12
          refine lv_lload_n hx hb dX12_wordOf_80 rfl (lv_at hl 0 rfl) ?_
          refine lv_iconst (v := 0) hx hb dX12_wordOf_81 (by decide) ?_
          refine lv_iconst (v := 0) hx hb dX12_wordOf_82 (by decide) ?_
          refine lv_bipush (v := 7) hx hb dX12_wordOf_83 (by decide) ?_
          refine lv_bipush (v := 15) hx hb dX12_wordOf_85 (by decide) ?_
          refine z_Sl (bc := []) (br := []) (As := [.int 0, .int 0, .int 7, .int 15]) (rest := [.long v]) C G (c_m_four l T 0 0 7 15) (kS_RX12_60 C.2.2.2.2 (Nat.le_of_ble_eq_true rfl) (Nat.le_of_ble_eq_true rfl)) [] [] rfl rfl rfl rfl hl.1 dX12_wordOf_87 (Nat.le_of_ble_eq_true rfl) (Nat.le_of_ble_eq_true rfl) (fun r_14 b1 H locs hw G => ?_)
          refine zAn2 hw ?_
          intro hbs9 h_13
          clear hw
          subst hbs9
          have G : zS T A s.heap s [] _ _ := G
          subst h_13
          refine z_lcne (tgt := 96) hx hb dX12_wordOf_90 dX12_wordOf_91 (by decide) (fun c_15 => ?_) (fun c_15 => ?_)
          · have c_15n : ¬ (v = (zFour 0 0 7 15)) := c_15
            refine lv_lload_n hx hb dX12_wordOf_96 rfl (lv_at hl 0 rfl) ?_
            refine lv_iconst (v := 0) hx hb dX12_wordOf_97 (by decide) ?_
            refine lv_bipush (v := 18) hx hb dX12_wordOf_98 (by decide) ?_
            refine lv_bipush (v := 21) hx hb dX12_wordOf_100 (by decide) ?_
            refine lv_bipush (v := 14) hx hb dX12_wordOf_102 (by decide) ?_
            refine z_Sl (bc := []) (br := []) (As := [.int 0, .int 18, .int 21, .int 14]) (rest := [.long v]) C G (c_m_four l T 0 18 21 14) (kS_RX12_60 C.2.2.2.2 (Nat.le_of_ble_eq_true rfl) (Nat.le_of_ble_eq_true rfl)) [] [] rfl rfl rfl rfl hl.1 dX12_wordOf_104 (Nat.le_of_ble_eq_true rfl) (Nat.le_of_ble_eq_true rfl) (fun r_17 b1 H locs hw G => ?_)
            refine zAn2 hw ?_
            intro hbs9 h_16
            clear hw
            subst hbs9
            have G : zS T A s.heap s [] _ _ := G
            subst h_16
            refine z_lcne (tgt := 114) hx hb dX12_wordOf_107 dX12_wordOf_108 (by decide) (fun c_18 => ?_) (fun c_18 => ?_)
            · have c_18n : ¬ (v = (zFour 0 18 21 14)) := c_18
              refine lv_lload_n hx hb dX12_wordOf_114 rfl (lv_at hl 0 rfl) ?_
              refine lv_bipush (v := 20) hx hb dX12_wordOf_115 (by decide) ?_
              refine lv_bipush (v := 21) hx hb dX12_wordOf_117 (by decide) ?_
              refine lv_bipush (v := 18) hx hb dX12_wordOf_119 (by decide) ?_
              refine lv_bipush (v := 14) hx hb dX12_wordOf_121 (by decide) ?_
              refine z_Sl (bc := []) (br := []) (As := [.int 20, .int 21, .int 18, .int 14]) (rest := [.long v]) C G (c_m_four l T 20 21 18 14) (kS_RX12_60 C.2.2.2.2 (Nat.le_of_ble_eq_true rfl) (Nat.le_of_ble_eq_true rfl)) [] [] rfl rfl rfl rfl hl.1 dX12_wordOf_123 (Nat.le_of_ble_eq_true rfl) (Nat.le_of_ble_eq_true rfl) (fun r_20 b1 H locs hw G => ?_)
              refine zAn2 hw ?_
              intro hbs9 h_19
              clear hw
              subst hbs9
              have G : zS T A s.heap s [] _ _ := G
              subst h_19
              refine z_lcne (tgt := 133) hx hb dX12_wordOf_126 dX12_wordOf_127 (by decide) (fun c_21 => ?_) (fun c_21 => ?_)
              · have c_21n : ¬ (v = (zFour 20 21 18 14)) := c_21
                refine lv_lload_n hx hb dX12_wordOf_133 rfl (lv_at hl 0 rfl) ?_
                refine lv_iconst (v := 0) hx hb dX12_wordOf_134 (by decide) ?_
                refine lv_iconst (v := 1) hx hb dX12_wordOf_135 (by decide) ?_
                refine lv_iconst (v := 4) hx hb dX12_wordOf_136 (by decide) ?_
                refine lv_iconst (v := 4) hx hb dX12_wordOf_137 (by decide) ?_
                refine z_Sl (bc := []) (br := []) (As := [.int 0, .int 1, .int 4, .int 4]) (rest := [.long v]) C G (c_m_four l T 0 1 4 4) (kS_RX12_60 C.2.2.2.2 (Nat.le_of_ble_eq_true rfl) (Nat.le_of_ble_eq_true rfl)) [] [] rfl rfl rfl rfl hl.1 dX12_wordOf_138 (Nat.le_of_ble_eq_true rfl) (Nat.le_of_ble_eq_true rfl) (fun r_23 b1 H locs hw G => ?_)
                refine zAn2 hw ?_
                intro hbs9 h_22
                clear hw
                subst hbs9
                have G : zS T A s.heap s [] _ _ := G
                subst h_22
                refine z_lcne (tgt := 148) hx hb dX12_wordOf_141 dX12_wordOf_142 (by decide) (fun c_24 => ?_) (fun c_24 => ?_)
                · have c_24n : ¬ (v = (zFour 0 1 4 4)) := c_24
                  refine lv_lload_n hx hb dX12_wordOf_148 rfl (lv_at hl 0 rfl) ?_
                  refine lv_bipush (v := 19) hx hb dX12_wordOf_149 (by decide) ?_
                  refine lv_bipush (v := 8) hx hb dX12_wordOf_151 (by decide) ?_
                  refine lv_bipush (v := 21) hx hb dX12_wordOf_153 (by decide) ?_
                  refine lv_bipush (v := 20) hx hb dX12_wordOf_155 (by decide) ?_
                  refine z_Sl (bc := []) (br := []) (As := [.int 19, .int 8, .int 21, .int 20]) (rest := [.long v]) C G (c_m_four l T 19 8 21 20) (kS_RX12_60 C.2.2.2.2 (Nat.le_of_ble_eq_true rfl) (Nat.le_of_ble_eq_true rfl)) [] [] rfl rfl rfl rfl hl.1 dX12_wordOf_157 (Nat.le_of_ble_eq_true rfl) (Nat.le_of_ble_eq_true rfl) (fun r_26 b1 H locs hw G => ?_)
                  refine zAn2 hw ?_
                  intro hbs9 h_25
                  clear hw
                  subst hbs9
                  have G : zS T A s.heap s [] _ _ := G
                  subst h_25
                  refine z_lcne (tgt := 167) hx hb dX12_wordOf_160 dX12_wordOf_161 (by decide) (fun c_27 => ?_) (fun c_27 => ?_)
                  · have c_27n : ¬ (v = (zFour 19 8 21 20)) := c_27
                    refine lv_lload_n hx hb dX12_wordOf_167 rfl (lv_at hl 0 rfl) ?_
                    refine lv_bipush (v := 15) hx hb dX12_wordOf_168 (by decide) ?_
                    refine lv_bipush (v := 16) hx hb dX12_wordOf_170 (by decide) ?_
                    refine lv_iconst (v := 5) hx hb dX12_wordOf_172 (by decide) ?_
                    refine lv_bipush (v := 14) hx hb dX12_wordOf_173 (by decide) ?_
                    refine z_Sl (bc := []) (br := []) (As := [.int 15, .int 16, .int 5, .int 14]) (rest := [.long v]) C G (c_m_four l T 15 16 5 14) (kS_RX12_60 C.2.2.2.2 (Nat.le_of_ble_eq_true rfl) (Nat.le_of_ble_eq_true rfl)) [] [] rfl rfl rfl rfl hl.1 dX12_wordOf_175 (Nat.le_of_ble_eq_true rfl) (Nat.le_of_ble_eq_true rfl) (fun r_29 b1 H locs hw G => ?_)
                    refine zAn2 hw ?_
                    intro hbs9 h_28
                    clear hw
                    subst hbs9
                    have G : zS T A s.heap s [] _ _ := G
                    subst h_28
                    refine z_lcne (tgt := 185) hx hb dX12_wordOf_178 dX12_wordOf_179 (by decide) (fun c_30 => ?_) (fun c_30 => ?_)
                    · have c_30n : ¬ (v = (zFour 15 16 5 14)) := c_30
                      refine lv_lload_n hx hb dX12_wordOf_185 rfl (lv_at hl 0 rfl) ?_
                      refine lv_iconst (v := 3) hx hb dX12_wordOf_186 (by decide) ?_
                      refine lv_iconst (v := 1) hx hb dX12_wordOf_187 (by decide) ?_
                      refine lv_bipush (v := 13) hx hb dX12_wordOf_188 (by decide) ?_
                      refine lv_iconst (v := 5) hx hb dX12_wordOf_190 (by decide) ?_
                      refine z_Sl (bc := []) (br := []) (As := [.int 3, .int 1, .int 13, .int 5]) (rest := [.long v]) C G (c_m_four l T 3 1 13 5) (kS_RX12_60 C.2.2.2.2 (Nat.le_of_ble_eq_true rfl) (Nat.le_of_ble_eq_true rfl)) [] [] rfl rfl rfl rfl hl.1 dX12_wordOf_191 (Nat.le_of_ble_eq_true rfl) (Nat.le_of_ble_eq_true rfl) (fun r_32 b1 H locs hw G => ?_)
                      refine zAn2 hw ?_
                      intro hbs9 h_31
                      clear hw
                      subst hbs9
                      have G : zS T A s.heap s [] _ _ := G
                      subst h_31
                      refine z_lcne (tgt := 201) hx hb dX12_wordOf_194 dX12_wordOf_195 (by decide) (fun c_33 => ?_) (fun c_33 => ?_)
                      · have c_33n : ¬ (v = (zFour 3 1 13 5)) := c_33
                        refine lv_lload_n hx hb dX12_wordOf_201 rfl (lv_at hl 0 rfl) ?_
                        refine lv_iconst (v := 0) hx hb dX12_wordOf_202 (by decide) ?_
                        refine lv_iconst (v := 0) hx hb dX12_wordOf_203 (by decide) ?_
                        refine lv_iconst (v := 0) hx hb dX12_wordOf_204 (by decide) ?_
                        refine lv_bipush (v := 14) hx hb dX12_wordOf_205 (by decide) ?_
                        refine lv_iconst (v := 5) hx hb dX12_wordOf_207 (by decide) ?_
                        refine lv_bipush (v := 22) hx hb dX12_wordOf_208 (by decide) ?_
                        refine lv_iconst (v := 5) hx hb dX12_wordOf_210 (by decide) ?_
                        refine lv_bipush (v := 18) hx hb dX12_wordOf_211 (by decide) ?_
                        refine z_Sl (bc := []) (br := []) (As := [.int 0, .int 0, .int 0, .int 14, .int 5, .int 22, .int 5, .int 18]) (rest := [.long v]) C G (c_m_eight l T 0 0 0 14 5 22 5 18) (kS_RX12_66 C.2.2.2.2 (Nat.le_of_ble_eq_true rfl) (Nat.le_of_ble_eq_true rfl)) [] [] rfl rfl rfl rfl hl.1 dX12_wordOf_213 (Nat.le_of_ble_eq_true rfl) (Nat.le_of_ble_eq_true rfl) (fun r_35 b1 H locs hw G => ?_)
                        refine zAn2 hw ?_
                        intro hbs9 h_34
                        clear hw
                        subst hbs9
                        have G : zS T A s.heap s [] _ _ := G
                        subst h_34
                        refine z_lcne (tgt := 225) hx hb dX12_wordOf_216 dX12_wordOf_217 (by decide) (fun c_36 => ?_) (fun c_36 => ?_)
                        · have c_36n : ¬ (v = (zEight 0 0 0 14 5 22 5 18)) := c_36
                          refine lv_bipush (v := 99) hx hb dX12_wordOf_225 (by decide) ?_
                          exact z_iret C hr hlocks G (Nat.le_of_ble_eq_true rfl) (Nat.le_of_ble_eq_true rfl) dX12_wordOf_227 ⟨rfl, (by unfold zWord; rw [if_neg c_3, if_neg c_6, if_neg c_9, if_neg c_12, if_neg c_15, if_neg c_18, if_neg c_21, if_neg c_24, if_neg c_27, if_neg c_30, if_neg c_33, if_neg c_36])⟩
                        · have c_36n : v = (zEight 0 0 0 14 5 22 5 18) := c_36
                          refine lv_bipush (v := 12) hx hb dX12_wordOf_220 (by decide) ?_
                          refine lv_goto (tgt := 227) hx hb dX12_wordOf_222 (by decide) ?_
                          exact z_iret C hr hlocks G (Nat.le_of_ble_eq_true rfl) (Nat.le_of_ble_eq_true rfl) dX12_wordOf_227 ⟨rfl, (by unfold zWord; rw [if_neg c_3, if_neg c_6, if_neg c_9, if_neg c_12, if_neg c_15, if_neg c_18, if_neg c_21, if_neg c_24, if_neg c_27, if_neg c_30, if_neg c_33, if_pos c_36])⟩
                      · have c_33n : v = (zFour 3 1 13 5) := c_33
                        refine lv_bipush (v := 11) hx hb dX12_wordOf_198 (by decide) ?_
                        exact z_iret C hr hlocks G (Nat.le_of_ble_eq_true rfl) (Nat.le_of_ble_eq_true rfl) dX12_wordOf_200 ⟨rfl, (by unfold zWord; rw [if_neg c_3, if_neg c_6, if_neg c_9, if_neg c_12, if_neg c_15, if_neg c_18, if_neg c_21, if_neg c_24, if_neg c_27, if_neg c_30, if_pos c_33])⟩
                    · have c_30n : v = (zFour 15 16 5 14) := c_30
                      refine lv_bipush (v := 10) hx hb dX12_wordOf_182 (by decide) ?_
                      exact z_iret C hr hlocks G (Nat.le_of_ble_eq_true rfl) (Nat.le_of_ble_eq_true rfl) dX12_wordOf_184 ⟨rfl, (by unfold zWord; rw [if_neg c_3, if_neg c_6, if_neg c_9, if_neg c_12, if_neg c_15, if_neg c_18, if_neg c_21, if_neg c_24, if_neg c_27, if_pos c_30])⟩
                  · have c_27n : v = (zFour 19 8 21 20) := c_27
                    refine lv_bipush (v := 9) hx hb dX12_wordOf_164 (by decide) ?_
                    exact z_iret C hr hlocks G (Nat.le_of_ble_eq_true rfl) (Nat.le_of_ble_eq_true rfl) dX12_wordOf_166 ⟨rfl, (by unfold zWord; rw [if_neg c_3, if_neg c_6, if_neg c_9, if_neg c_12, if_neg c_15, if_neg c_18, if_neg c_21, if_neg c_24, if_pos c_27])⟩
                · have c_24n : v = (zFour 0 1 4 4) := c_24
                  refine lv_bipush (v := 8) hx hb dX12_wordOf_145 (by decide) ?_
                  exact z_iret C hr hlocks G (Nat.le_of_ble_eq_true rfl) (Nat.le_of_ble_eq_true rfl) dX12_wordOf_147 ⟨rfl, (by unfold zWord; rw [if_neg c_3, if_neg c_6, if_neg c_9, if_neg c_12, if_neg c_15, if_neg c_18, if_neg c_21, if_pos c_24])⟩
              · have c_21n : v = (zFour 20 21 18 14) := c_21
                refine lv_bipush (v := 7) hx hb dX12_wordOf_130 (by decide) ?_
                exact z_iret C hr hlocks G (Nat.le_of_ble_eq_true rfl) (Nat.le_of_ble_eq_true rfl) dX12_wordOf_132 ⟨rfl, (by unfold zWord; rw [if_neg c_3, if_neg c_6, if_neg c_9, if_neg c_12, if_neg c_15, if_neg c_18, if_pos c_21])⟩
            · have c_18n : v = (zFour 0 18 21 14) := c_18
              refine lv_bipush (v := 6) hx hb dX12_wordOf_111 (by decide) ?_
              exact z_iret C hr hlocks G (Nat.le_of_ble_eq_true rfl) (Nat.le_of_ble_eq_true rfl) dX12_wordOf_113 ⟨rfl, (by unfold zWord; rw [if_neg c_3, if_neg c_6, if_neg c_9, if_neg c_12, if_neg c_15, if_pos c_18])⟩
          · have c_15n : v = (zFour 0 0 7 15) := c_15
            refine lv_iconst (v := 5) hx hb dX12_wordOf_94 (by decide) ?_
            exact z_iret C hr hlocks G (Nat.le_of_ble_eq_true rfl) (Nat.le_of_ble_eq_true rfl) dX12_wordOf_95 ⟨rfl, (by unfold zWord; rw [if_neg c_3, if_neg c_6, if_neg c_9, if_neg c_12, if_pos c_15])⟩
        · have c_12n : v = (zFour 0 9 14 14) := c_12
          refine lv_iconst (v := 4) hx hb dX12_wordOf_78 (by decide) ?_
          exact z_iret C hr hlocks G (Nat.le_of_ble_eq_true rfl) (Nat.le_of_ble_eq_true rfl) dX12_wordOf_79 ⟨rfl, (by unfold zWord; rw [if_neg c_3, if_neg c_6, if_neg c_9, if_pos c_12])⟩
      · have c_9n : v = (zEight 0 23 1 12 11 5 18 19) := c_9
        refine lv_iconst (v := 3) hx hb dX12_wordOf_61 (by decide) ?_
        exact z_iret C hr hlocks G (Nat.le_of_ble_eq_true rfl) (Nat.le_of_ble_eq_true rfl) dX12_wordOf_62 ⟨rfl, (by unfold zWord; rw [if_neg c_3, if_neg c_6, if_pos c_9])⟩
    · have c_6n : v = (zFour 16 15 19 20) := c_6
      refine lv_iconst (v := 2) hx hb dX12_wordOf_38 (by decide) ?_
      exact z_iret C hr hlocks G (Nat.le_of_ble_eq_true rfl) (Nat.le_of_ble_eq_true rfl) dX12_wordOf_39 ⟨rfl, (by unfold zWord; rw [if_neg c_3, if_pos c_6])⟩
  · have c_3n : v = (zEight 0 0 0 3 18 15 19 19) := c_3
    refine lv_iconst (v := 1) hx hb dX12_wordOf_20 (by decide) ?_
    exact z_iret C hr hlocks G (Nat.le_of_ble_eq_true rfl) (Nat.le_of_ble_eq_true rfl) dX12_wordOf_21 ⟨rfl, (by unfold zWord; rw [if_pos c_3])⟩
theorem m_fl_RX12_70 : Cond.fieldLink RX12 70 (TX12 3).1 (TX12 3).2.1 (TX12 3).2.2.1 ∈ zT := zmem1 zsub_5 238 rfl rfl
theorem m_co_X12_byteAt : Cond.code yX12_byteAt cX12_byteAt 2 (some .int) ∈ zT := zmem1 zsub_6 151 rfl rfl
theorem m_ml_RX12_73 : Cond.methodLink RX12 73 yX12_byteAt ∈ zT := zmem1 zsub_6 148 rfl rfl
theorem m_im_X12_byteAt : Cond.instanceMethod yX12_byteAt ∈ zT := zmem1 zsub_6 150 rfl rfl
theorem m_se_X12_byteAt : Cond.selects RX12 yX12_byteAt yX12_byteAt ∈ zT := zmem 47 rfl rfl
theorem m_fl_RX12_77 : Cond.fieldLink RX12 77 (TX12 4).1 (TX12 4).2.1 (TX12 4).2.2.1 ∈ zT := zmem1 zsub_5 239 rfl rfl
theorem m_co_X12_isLetter : Cond.code yX12_isLetter cX12_isLetter 1 (some .boolean) ∈ zT := zmem1 zsub_6 154 rfl rfl
theorem m_ml_RX12_83 : Cond.methodLink RX12 83 yX12_isLetter ∈ zT := zmem1 zsub_6 152 rfl rfl
theorem m_st_X12_isLetter : Cond.static yX12_isLetter ∈ zT := zmem1 zsub_6 153 rfl rfl
theorem m_kl_RX12_87 : Cond.constantLong RX12 87 32 ∈ zT := zmem1 zsub_6 155 rfl rfl
theorem m_kl_RX12_89 : Cond.constantLong RX12 89 96 ∈ zT := zmem1 zsub_6 156 rfl rfl
theorem m_co_X12_wordOf : Cond.code yX12_wordOf cX12_wordOf 2 (some .int) ∈ zT := zmem1 zsub_6 159 rfl rfl
theorem m_ml_RX12_91 : Cond.methodLink RX12 91 yX12_wordOf ∈ zT := zmem1 zsub_6 157 rfl rfl
theorem m_st_X12_wordOf : Cond.static yX12_wordOf ∈ zT := zmem1 zsub_6 158 rfl rfl
theorem m_fl_RX12_95 : Cond.fieldLink RX12 95 (TX12 7).1 (TX12 7).2.1 (TX12 7).2.2.1 ∈ zT := zmem1 zsub_6 2 rfl rfl
theorem m_fl_RX12_80 : Cond.fieldLink RX12 80 (TX12 5).1 (TX12 5).2.1 (TX12 5).2.2.1 ∈ zT := zmem1 zsub_6 0 rfl rfl
theorem m_co_X12_isDigit : Cond.code yX12_isDigit cX12_isDigit 1 (some .boolean) ∈ zT := zmem1 zsub_6 169 rfl rfl
theorem m_ml_RX12_98 : Cond.methodLink RX12 98 yX12_isDigit ∈ zT := zmem1 zsub_6 167 rfl rfl
theorem m_st_X12_isDigit : Cond.static yX12_isDigit ∈ zT := zmem1 zsub_6 168 rfl rfl
theorem m_fl_RX12_101 : Cond.fieldLink RX12 101 (TX12 6).1 (TX12 6).2.1 (TX12 6).2.2.1 ∈ zT := zmem1 zsub_6 1 rfl rfl
theorem kV_RX12_73 {R : Room} {s : State} {args : Array Value} {d mc ms : Nat} (hts : ∀ w ∈ zT, w.before args s = true) (h1 : d + 1 ≤ R.frames) (h2 : 8 + (2 + 11) + 40 * d ≤ R.locals) : CallW R s args RX12 RX12 73 yX12_byteAt cX12_byteAt 2 (some .int) (zW yX12_byteAt cX12_byteAt 2 (some .int)) (zR d mc ms) mc ms 1 := z_cwV hts m_co_X12_byteAt m_ml_RX12_73 m_im_X12_byteAt m_se_X12_byteAt m_ii_RX12 (by decide +kernel) h1 h2
theorem kS_RX12_83 {R : Room} {s : State} {args : Array Value} {d mc ms : Nat} (hts : ∀ w ∈ zT, w.before args s = true) (h1 : d + 1 ≤ R.frames) (h2 : 8 + (1 + 11) + 40 * d ≤ R.locals) : CallB R s args RX12 83 yX12_isLetter cX12_isLetter 1 (some .boolean) (zW yX12_isLetter cX12_isLetter 1 (some .boolean)) (zR d mc ms) mc ms 1 ∧ (Cond.static yX12_isLetter).before args s = true := z_cwS hts m_co_X12_isLetter m_ml_RX12_83 m_st_X12_isLetter m_ii_RX12 (by decide +kernel) h1 h2
theorem kS_RX12_91 {R : Room} {s : State} {args : Array Value} {d mc ms : Nat} (hts : ∀ w ∈ zT, w.before args s = true) (h1 : d + 1 ≤ R.frames) (h2 : 8 + (2 + 11) + 40 * d ≤ R.locals) : CallB R s args RX12 91 yX12_wordOf cX12_wordOf 2 (some .int) (zW yX12_wordOf cX12_wordOf 2 (some .int)) (zR d mc ms) mc ms 1 ∧ (Cond.static yX12_wordOf).before args s = true := z_cwS hts m_co_X12_wordOf m_ml_RX12_91 m_st_X12_wordOf m_ii_RX12 (by decide +kernel) h1 h2
theorem kS_RX12_98 {R : Room} {s : State} {args : Array Value} {d mc ms : Nat} (hts : ∀ w ∈ zT, w.before args s = true) (h1 : d + 1 ≤ R.frames) (h2 : 8 + (1 + 11) + 40 * d ≤ R.locals) : CallB R s args RX12 98 yX12_isDigit cX12_isDigit 1 (some .boolean) (zW yX12_isDigit cX12_isDigit 1 (some .boolean)) (zR d mc ms) mc ms 1 ∧ (Cond.static yX12_isDigit).before args s = true := z_cwS hts m_co_X12_isDigit m_ml_RX12_98 m_st_X12_isDigit m_ii_RX12 (by decide +kernel) h1 h2
theorem dX12_advance_0 : decode cX12_advance 0 = .ok (.aload_n 0, 1) := zo_42 (by decide +kernel)
theorem dX12_advance_1 : decode cX12_advance 1 = .ok (.aload_n 0, 1) := zo_42 (by decide +kernel)
theorem dX12_advance_2 : decode cX12_advance 2 = .ok (.getfield 70, 3) := zo_180 (by decide +kernel)
theorem dX12_advance_5 : decode cX12_advance 5 = .ok (.invokevirtual 73, 3) := zo_182 (by decide +kernel)
theorem dX12_advance_8 : decode cX12_advance 8 = .ok (.bipush 10, 2) := zo_16 (by decide +kernel)
theorem dX12_advance_10 : decode cX12_advance 10 = .ok (.if_icmp .eq 16, 3) := zo_159 (by decide +kernel)
theorem dX12_advance_13 : decode cX12_advance 13 = .ok (.aload_n 0, 1) := zo_42 (by decide +kernel)
theorem dX12_advance_14 : decode cX12_advance 14 = .ok (.aload_n 0, 1) := zo_42 (by decide +kernel)
theorem dX12_advance_15 : decode cX12_advance 15 = .ok (.getfield 70, 3) := zo_180 (by decide +kernel)
theorem dX12_advance_18 : decode cX12_advance 18 = .ok (.invokevirtual 73, 3) := zo_182 (by decide +kernel)
theorem dX12_advance_21 : decode cX12_advance 21 = .ok (.bipush 32, 2) := zo_16 (by decide +kernel)
theorem dX12_advance_23 : decode cX12_advance 23 = .ok (.if_icmp .ne 16, 3) := zo_160 (by decide +kernel)
theorem dX12_advance_26 : decode cX12_advance 26 = .ok (.aload_n 0, 1) := zo_42 (by decide +kernel)
theorem dX12_advance_27 : decode cX12_advance 27 = .ok (.dup, 1) := zo_89 (by decide +kernel)
theorem dX12_advance_28 : decode cX12_advance 28 = .ok (.getfield 70, 3) := zo_180 (by decide +kernel)
theorem dX12_advance_31 : decode cX12_advance 31 = .ok (.iconst 1, 1) := zo_4 (by decide +kernel)
theorem dX12_advance_32 : decode cX12_advance 32 = .ok (.iadd, 1) := zo_96 (by decide +kernel)
theorem dX12_advance_33 : decode cX12_advance 33 = .ok (.putfield 70, 3) := zo_181 (by decide +kernel)
theorem dX12_advance_36 : decode cX12_advance 36 = .ok (.goto (-36), 3) := zo_167 (by decide +kernel)
theorem dX12_advance_39 : decode cX12_advance 39 = .ok (.aload_n 0, 1) := zo_42 (by decide +kernel)
theorem dX12_advance_40 : decode cX12_advance 40 = .ok (.aload_n 0, 1) := zo_42 (by decide +kernel)
theorem dX12_advance_41 : decode cX12_advance 41 = .ok (.getfield 70, 3) := zo_180 (by decide +kernel)
theorem dX12_advance_44 : decode cX12_advance 44 = .ok (.putfield 77, 3) := zo_181 (by decide +kernel)
theorem dX12_advance_47 : decode cX12_advance 47 = .ok (.aload_n 0, 1) := zo_42 (by decide +kernel)
theorem dX12_advance_48 : decode cX12_advance 48 = .ok (.aload_n 0, 1) := zo_42 (by decide +kernel)
theorem dX12_advance_49 : decode cX12_advance 49 = .ok (.getfield 70, 3) := zo_180 (by decide +kernel)
theorem dX12_advance_52 : decode cX12_advance 52 = .ok (.invokevirtual 73, 3) := zo_182 (by decide +kernel)
theorem dX12_advance_55 : decode cX12_advance 55 = .ok (.istore_n 1, 1) := zo_60 (by decide +kernel)
theorem dX12_advance_56 : decode cX12_advance 56 = .ok (.iload_n 1, 1) := zo_27 (by decide +kernel)
theorem dX12_advance_57 : decode cX12_advance 57 = .ok (.ifCond .ge 11, 3) := zo_156 (by decide +kernel)
theorem dX12_advance_60 : decode cX12_advance 60 = .ok (.aload_n 0, 1) := zo_42 (by decide +kernel)
theorem dX12_advance_61 : decode cX12_advance 61 = .ok (.iconst 0, 1) := zo_3 (by decide +kernel)
theorem dX12_advance_62 : decode cX12_advance 62 = .ok (.putfield 80, 3) := zo_181 (by decide +kernel)
theorem dX12_advance_65 : decode cX12_advance 65 = .ok (.goto 246, 3) := zo_167 (by decide +kernel)
theorem dX12_advance_68 : decode cX12_advance 68 = .ok (.iload_n 1, 1) := zo_27 (by decide +kernel)
theorem dX12_advance_69 : decode cX12_advance 69 = .ok (.invokestatic 83, 3) := zo_184 (by decide +kernel)
theorem dX12_advance_72 : decode cX12_advance 72 = .ok (.ifCond .eq 114, 3) := zo_153 (by decide +kernel)
theorem dX12_advance_75 : decode cX12_advance 75 = .ok (.lconst 0, 1) := zo_9 (by decide +kernel)
theorem dX12_advance_76 : decode cX12_advance 76 = .ok (.lstore_n 2, 1) := zo_65 (by decide +kernel)
theorem dX12_advance_77 : decode cX12_advance 77 = .ok (.aload_n 0, 1) := zo_42 (by decide +kernel)
theorem dX12_advance_78 : decode cX12_advance 78 = .ok (.aload_n 0, 1) := zo_42 (by decide +kernel)
theorem dX12_advance_79 : decode cX12_advance 79 = .ok (.getfield 70, 3) := zo_180 (by decide +kernel)
theorem dX12_advance_82 : decode cX12_advance 82 = .ok (.invokevirtual 73, 3) := zo_182 (by decide +kernel)
theorem dX12_advance_85 : decode cX12_advance 85 = .ok (.invokestatic 83, 3) := zo_184 (by decide +kernel)
theorem dX12_advance_88 : decode cX12_advance 88 = .ok (.ifCond .eq 50, 3) := zo_153 (by decide +kernel)
theorem dX12_advance_91 : decode cX12_advance 91 = .ok (.aload_n 0, 1) := zo_42 (by decide +kernel)
theorem dX12_advance_92 : decode cX12_advance 92 = .ok (.getfield 70, 3) := zo_180 (by decide +kernel)
theorem dX12_advance_95 : decode cX12_advance 95 = .ok (.aload_n 0, 1) := zo_42 (by decide +kernel)
theorem dX12_advance_96 : decode cX12_advance 96 = .ok (.getfield 77, 3) := zo_180 (by decide +kernel)
theorem dX12_advance_99 : decode cX12_advance 99 = .ok (.isub, 1) := zo_100 (by decide +kernel)
theorem dX12_advance_100 : decode cX12_advance 100 = .ok (.bipush 8, 2) := zo_16 (by decide +kernel)
theorem dX12_advance_102 : decode cX12_advance 102 = .ok (.if_icmp .ge 23, 3) := zo_162 (by decide +kernel)
theorem dX12_advance_105 : decode cX12_advance 105 = .ok (.ldc2_w 87, 3) := zo_20 (by decide +kernel)
theorem dX12_advance_108 : decode cX12_advance 108 = .ok (.lload_n 2, 1) := zo_32 (by decide +kernel)
theorem dX12_advance_109 : decode cX12_advance 109 = .ok (.lmul, 1) := zo_105 (by decide +kernel)
theorem dX12_advance_110 : decode cX12_advance 110 = .ok (.aload_n 0, 1) := zo_42 (by decide +kernel)
theorem dX12_advance_111 : decode cX12_advance 111 = .ok (.aload_n 0, 1) := zo_42 (by decide +kernel)
theorem dX12_advance_112 : decode cX12_advance 112 = .ok (.getfield 70, 3) := zo_180 (by decide +kernel)
theorem dX12_advance_115 : decode cX12_advance 115 = .ok (.invokevirtual 73, 3) := zo_182 (by decide +kernel)
theorem dX12_advance_118 : decode cX12_advance 118 = .ok (.i2l, 1) := zo_133 (by decide +kernel)
theorem dX12_advance_119 : decode cX12_advance 119 = .ok (.ladd, 1) := zo_97 (by decide +kernel)
theorem dX12_advance_120 : decode cX12_advance 120 = .ok (.ldc2_w 89, 3) := zo_20 (by decide +kernel)
theorem dX12_advance_123 : decode cX12_advance 123 = .ok (.lsub, 1) := zo_101 (by decide +kernel)
theorem dX12_advance_124 : decode cX12_advance 124 = .ok (.lstore_n 2, 1) := zo_65 (by decide +kernel)
theorem dX12_advance_125 : decode cX12_advance 125 = .ok (.aload_n 0, 1) := zo_42 (by decide +kernel)
theorem dX12_advance_126 : decode cX12_advance 126 = .ok (.dup, 1) := zo_89 (by decide +kernel)
theorem dX12_advance_127 : decode cX12_advance 127 = .ok (.getfield 70, 3) := zo_180 (by decide +kernel)
theorem dX12_advance_130 : decode cX12_advance 130 = .ok (.iconst 1, 1) := zo_4 (by decide +kernel)
theorem dX12_advance_131 : decode cX12_advance 131 = .ok (.iadd, 1) := zo_96 (by decide +kernel)
theorem dX12_advance_132 : decode cX12_advance 132 = .ok (.putfield 70, 3) := zo_181 (by decide +kernel)
theorem dX12_advance_135 : decode cX12_advance 135 = .ok (.goto (-58), 3) := zo_167 (by decide +kernel)
theorem dX12_advance_138 : decode cX12_advance 138 = .ok (.aload_n 0, 1) := zo_42 (by decide +kernel)
theorem dX12_advance_139 : decode cX12_advance 139 = .ok (.aload_n 0, 1) := zo_42 (by decide +kernel)
theorem dX12_advance_140 : decode cX12_advance 140 = .ok (.getfield 70, 3) := zo_180 (by decide +kernel)
theorem dX12_advance_143 : decode cX12_advance 143 = .ok (.aload_n 0, 1) := zo_42 (by decide +kernel)
theorem dX12_advance_144 : decode cX12_advance 144 = .ok (.getfield 77, 3) := zo_180 (by decide +kernel)
theorem dX12_advance_147 : decode cX12_advance 147 = .ok (.isub, 1) := zo_100 (by decide +kernel)
theorem dX12_advance_148 : decode cX12_advance 148 = .ok (.bipush 8, 2) := zo_16 (by decide +kernel)
theorem dX12_advance_150 : decode cX12_advance 150 = .ok (.if_icmp .le 8, 3) := zo_164 (by decide +kernel)
theorem dX12_advance_153 : decode cX12_advance 153 = .ok (.bipush 99, 2) := zo_16 (by decide +kernel)
theorem dX12_advance_155 : decode cX12_advance 155 = .ok (.goto 7, 3) := zo_167 (by decide +kernel)
theorem dX12_advance_158 : decode cX12_advance 158 = .ok (.lload_n 2, 1) := zo_32 (by decide +kernel)
theorem dX12_advance_159 : decode cX12_advance 159 = .ok (.invokestatic 91, 3) := zo_184 (by decide +kernel)
theorem dX12_advance_162 : decode cX12_advance 162 = .ok (.putfield 95, 3) := zo_181 (by decide +kernel)
theorem dX12_advance_165 : decode cX12_advance 165 = .ok (.aload_n 0, 1) := zo_42 (by decide +kernel)
theorem dX12_advance_166 : decode cX12_advance 166 = .ok (.aload_n 0, 1) := zo_42 (by decide +kernel)
theorem dX12_advance_167 : decode cX12_advance 167 = .ok (.getfield 95, 3) := zo_180 (by decide +kernel)
theorem dX12_advance_170 : decode cX12_advance 170 = .ok (.bipush 99, 2) := zo_16 (by decide +kernel)
theorem dX12_advance_172 : decode cX12_advance 172 = .ok (.if_icmp .ne 7, 3) := zo_160 (by decide +kernel)
theorem dX12_advance_175 : decode cX12_advance 175 = .ok (.iconst 4, 1) := zo_7 (by decide +kernel)
theorem dX12_advance_176 : decode cX12_advance 176 = .ok (.goto 4, 3) := zo_167 (by decide +kernel)
theorem dX12_advance_179 : decode cX12_advance 179 = .ok (.iconst 3, 1) := zo_6 (by decide +kernel)
theorem dX12_advance_180 : decode cX12_advance 180 = .ok (.putfield 80, 3) := zo_181 (by decide +kernel)
theorem dX12_advance_183 : decode cX12_advance 183 = .ok (.goto 128, 3) := zo_167 (by decide +kernel)
theorem dX12_advance_186 : decode cX12_advance 186 = .ok (.iload_n 1, 1) := zo_27 (by decide +kernel)
theorem dX12_advance_187 : decode cX12_advance 187 = .ok (.invokestatic 98, 3) := zo_184 (by decide +kernel)
theorem dX12_advance_190 : decode cX12_advance 190 = .ok (.ifCond .eq 96, 3) := zo_153 (by decide +kernel)
theorem dX12_advance_193 : decode cX12_advance 193 = .ok (.aload_n 0, 1) := zo_42 (by decide +kernel)
theorem dX12_advance_194 : decode cX12_advance 194 = .ok (.iconst 0, 1) := zo_3 (by decide +kernel)
theorem dX12_advance_195 : decode cX12_advance 195 = .ok (.putfield 101, 3) := zo_181 (by decide +kernel)
theorem dX12_advance_198 : decode cX12_advance 198 = .ok (.aload_n 0, 1) := zo_42 (by decide +kernel)
theorem dX12_advance_199 : decode cX12_advance 199 = .ok (.aload_n 0, 1) := zo_42 (by decide +kernel)
theorem dX12_advance_200 : decode cX12_advance 200 = .ok (.getfield 70, 3) := zo_180 (by decide +kernel)
theorem dX12_advance_203 : decode cX12_advance 203 = .ok (.invokevirtual 73, 3) := zo_182 (by decide +kernel)
theorem dX12_advance_206 : decode cX12_advance 206 = .ok (.invokestatic 98, 3) := zo_184 (by decide +kernel)
theorem dX12_advance_209 : decode cX12_advance 209 = .ok (.ifCond .eq 52, 3) := zo_153 (by decide +kernel)
theorem dX12_advance_212 : decode cX12_advance 212 = .ok (.aload_n 0, 1) := zo_42 (by decide +kernel)
theorem dX12_advance_213 : decode cX12_advance 213 = .ok (.getfield 70, 3) := zo_180 (by decide +kernel)
theorem dX12_advance_216 : decode cX12_advance 216 = .ok (.aload_n 0, 1) := zo_42 (by decide +kernel)
theorem dX12_advance_217 : decode cX12_advance 217 = .ok (.getfield 77, 3) := zo_180 (by decide +kernel)
theorem dX12_advance_220 : decode cX12_advance 220 = .ok (.isub, 1) := zo_100 (by decide +kernel)
theorem dX12_advance_221 : decode cX12_advance 221 = .ok (.iconst 2, 1) := zo_5 (by decide +kernel)
theorem dX12_advance_222 : decode cX12_advance 222 = .ok (.if_icmp .ge 26, 3) := zo_162 (by decide +kernel)
theorem dX12_advance_225 : decode cX12_advance 225 = .ok (.aload_n 0, 1) := zo_42 (by decide +kernel)
theorem dX12_advance_226 : decode cX12_advance 226 = .ok (.bipush 10, 2) := zo_16 (by decide +kernel)
theorem dX12_advance_228 : decode cX12_advance 228 = .ok (.aload_n 0, 1) := zo_42 (by decide +kernel)
theorem dX12_advance_229 : decode cX12_advance 229 = .ok (.getfield 101, 3) := zo_180 (by decide +kernel)
theorem dX12_advance_232 : decode cX12_advance 232 = .ok (.imul, 1) := zo_104 (by decide +kernel)
theorem dX12_advance_233 : decode cX12_advance 233 = .ok (.aload_n 0, 1) := zo_42 (by decide +kernel)
theorem dX12_advance_234 : decode cX12_advance 234 = .ok (.aload_n 0, 1) := zo_42 (by decide +kernel)
theorem dX12_advance_235 : decode cX12_advance 235 = .ok (.getfield 70, 3) := zo_180 (by decide +kernel)
theorem dX12_advance_238 : decode cX12_advance 238 = .ok (.invokevirtual 73, 3) := zo_182 (by decide +kernel)
theorem dX12_advance_241 : decode cX12_advance 241 = .ok (.iadd, 1) := zo_96 (by decide +kernel)
theorem dX12_advance_242 : decode cX12_advance 242 = .ok (.bipush 48, 2) := zo_16 (by decide +kernel)
theorem dX12_advance_244 : decode cX12_advance 244 = .ok (.isub, 1) := zo_100 (by decide +kernel)
theorem dX12_advance_245 : decode cX12_advance 245 = .ok (.putfield 101, 3) := zo_181 (by decide +kernel)
theorem dX12_advance_248 : decode cX12_advance 248 = .ok (.aload_n 0, 1) := zo_42 (by decide +kernel)
theorem dX12_advance_249 : decode cX12_advance 249 = .ok (.dup, 1) := zo_89 (by decide +kernel)
theorem dX12_advance_250 : decode cX12_advance 250 = .ok (.getfield 70, 3) := zo_180 (by decide +kernel)
theorem dX12_advance_253 : decode cX12_advance 253 = .ok (.iconst 1, 1) := zo_4 (by decide +kernel)
theorem dX12_advance_254 : decode cX12_advance 254 = .ok (.iadd, 1) := zo_96 (by decide +kernel)
theorem dX12_advance_255 : decode cX12_advance 255 = .ok (.putfield 70, 3) := zo_181 (by decide +kernel)
theorem dX12_advance_258 : decode cX12_advance 258 = .ok (.goto (-60), 3) := zo_167 (by decide +kernel)
theorem dX12_advance_261 : decode cX12_advance 261 = .ok (.aload_n 0, 1) := zo_42 (by decide +kernel)
theorem dX12_advance_262 : decode cX12_advance 262 = .ok (.aload_n 0, 1) := zo_42 (by decide +kernel)
theorem dX12_advance_263 : decode cX12_advance 263 = .ok (.getfield 70, 3) := zo_180 (by decide +kernel)
theorem dX12_advance_266 : decode cX12_advance 266 = .ok (.aload_n 0, 1) := zo_42 (by decide +kernel)
theorem dX12_advance_267 : decode cX12_advance 267 = .ok (.getfield 77, 3) := zo_180 (by decide +kernel)
theorem dX12_advance_270 : decode cX12_advance 270 = .ok (.isub, 1) := zo_100 (by decide +kernel)
theorem dX12_advance_271 : decode cX12_advance 271 = .ok (.iconst 2, 1) := zo_5 (by decide +kernel)
theorem dX12_advance_272 : decode cX12_advance 272 = .ok (.if_icmp .le 7, 3) := zo_164 (by decide +kernel)
theorem dX12_advance_275 : decode cX12_advance 275 = .ok (.iconst 4, 1) := zo_7 (by decide +kernel)
theorem dX12_advance_276 : decode cX12_advance 276 = .ok (.goto 4, 3) := zo_167 (by decide +kernel)
theorem dX12_advance_279 : decode cX12_advance 279 = .ok (.iconst 1, 1) := zo_4 (by decide +kernel)
theorem dX12_advance_280 : decode cX12_advance 280 = .ok (.putfield 80, 3) := zo_181 (by decide +kernel)
theorem dX12_advance_283 : decode cX12_advance 283 = .ok (.goto 28, 3) := zo_167 (by decide +kernel)
theorem dX12_advance_286 : decode cX12_advance 286 = .ok (.aload_n 0, 1) := zo_42 (by decide +kernel)
theorem dX12_advance_287 : decode cX12_advance 287 = .ok (.dup, 1) := zo_89 (by decide +kernel)
theorem dX12_advance_288 : decode cX12_advance 288 = .ok (.getfield 70, 3) := zo_180 (by decide +kernel)
theorem dX12_advance_291 : decode cX12_advance 291 = .ok (.iconst 1, 1) := zo_4 (by decide +kernel)
theorem dX12_advance_292 : decode cX12_advance 292 = .ok (.iadd, 1) := zo_96 (by decide +kernel)
theorem dX12_advance_293 : decode cX12_advance 293 = .ok (.putfield 70, 3) := zo_181 (by decide +kernel)
theorem dX12_advance_296 : decode cX12_advance 296 = .ok (.aload_n 0, 1) := zo_42 (by decide +kernel)
theorem dX12_advance_297 : decode cX12_advance 297 = .ok (.iload_n 1, 1) := zo_27 (by decide +kernel)
theorem dX12_advance_298 : decode cX12_advance 298 = .ok (.bipush 59, 2) := zo_16 (by decide +kernel)
theorem dX12_advance_300 : decode cX12_advance 300 = .ok (.if_icmp .ne 7, 3) := zo_160 (by decide +kernel)
theorem dX12_advance_303 : decode cX12_advance 303 = .ok (.iconst 2, 1) := zo_5 (by decide +kernel)
theorem dX12_advance_304 : decode cX12_advance 304 = .ok (.goto 4, 3) := zo_167 (by decide +kernel)
theorem dX12_advance_307 : decode cX12_advance 307 = .ok (.iconst 4, 1) := zo_7 (by decide +kernel)
theorem dX12_advance_308 : decode cX12_advance 308 = .ok (.putfield 80, 3) := zo_181 (by decide +kernel)
theorem dX12_advance_311 : decode cX12_advance 311 = .ok (.return_, 1) := zo_177 (by decide +kernel)
theorem m_fl_RX12_104 : Cond.fieldLink RX12 104 (TX12 8).1 (TX12 8).2.1 (TX12 8).2.2.1 ∈ zT := zmem1 zsub_6 3 rfl rfl
theorem m_co_X12_ends : Cond.code yX12_ends cX12_ends 1 none ∈ zT := zmem1 zsub_6 181 rfl rfl
theorem m_ml_RX12_108 : Cond.methodLink RX12 108 yX12_ends ∈ zT := zmem1 zsub_6 178 rfl rfl
theorem m_im_X12_ends : Cond.instanceMethod yX12_ends ∈ zT := zmem1 zsub_6 180 rfl rfl
theorem m_se_X12_ends : Cond.selects RX12 yX12_ends yX12_ends ∈ zT := zmem 50 rfl rfl
theorem m_co_X12_advance : Cond.code yX12_advance cX12_advance 4 none ∈ zT := zmem1 zsub_6 147 rfl rfl
theorem m_ml_RX12_119 : Cond.methodLink RX12 119 yX12_advance ∈ zT := zmem1 zsub_6 144 rfl rfl
theorem m_im_X12_advance : Cond.instanceMethod yX12_advance ∈ zT := zmem1 zsub_6 146 rfl rfl
theorem m_se_X12_advance : Cond.selects RX12 yX12_advance yX12_advance ∈ zT := zmem 46 rfl rfl
theorem m_co_X12_also : Cond.code yX12_also cX12_also 3 none ∈ zT := zmem1 zsub_6 189 rfl rfl
theorem m_ml_RX12_115 : Cond.methodLink RX12 115 yX12_also ∈ zT := zmem1 zsub_6 186 rfl rfl
theorem m_im_X12_also : Cond.instanceMethod yX12_also ∈ zT := zmem1 zsub_6 188 rfl rfl
theorem m_se_X12_also : Cond.selects RX12 yX12_also yX12_also ∈ zT := zmem 52 rfl rfl
theorem m_co_X12_numbered : Cond.code yX12_numbered cX12_numbered 4 (some .int) ∈ zT := zmem1 zsub_6 197 rfl rfl
theorem m_ml_RX12_122 : Cond.methodLink RX12 122 yX12_numbered ∈ zT := zmem1 zsub_6 194 rfl rfl
theorem m_im_X12_numbered : Cond.instanceMethod yX12_numbered ∈ zT := zmem1 zsub_6 196 rfl rfl
theorem m_se_X12_numbered : Cond.selects RX12 yX12_numbered yX12_numbered ∈ zT := zmem 54 rfl rfl
theorem m_fl_RX12_126 : Cond.fieldLink RX12 126 (TX12 9).1 (TX12 9).2.1 (TX12 9).2.2.1 ∈ zT := zmem1 zsub_6 4 rfl rfl
theorem kV_RX12_108 {R : Room} {s : State} {args : Array Value} {d mc ms : Nat} (hts : ∀ w ∈ zT, w.before args s = true) (h1 : d + 1 ≤ R.frames) (h2 : 8 + (1 + 11) + 40 * d ≤ R.locals) : CallW R s args RX12 RX12 108 yX12_ends cX12_ends 1 none (zW yX12_ends cX12_ends 1 none) (zR d mc ms) mc ms 0 := z_cwV hts m_co_X12_ends m_ml_RX12_108 m_im_X12_ends m_se_X12_ends m_ii_RX12 (by decide +kernel) h1 h2
theorem kV_RX12_119 {R : Room} {s : State} {args : Array Value} {d mc ms : Nat} (hts : ∀ w ∈ zT, w.before args s = true) (h1 : d + 1 ≤ R.frames) (h2 : 8 + (4 + 11) + 40 * d ≤ R.locals) : CallW R s args RX12 RX12 119 yX12_advance cX12_advance 4 none (zW yX12_advance cX12_advance 4 none) (zR d mc ms) mc ms 0 := z_cwV hts m_co_X12_advance m_ml_RX12_119 m_im_X12_advance m_se_X12_advance m_ii_RX12 (by decide +kernel) h1 h2
theorem kV_RX12_115 {R : Room} {s : State} {args : Array Value} {d mc ms : Nat} (hts : ∀ w ∈ zT, w.before args s = true) (h1 : d + 1 ≤ R.frames) (h2 : 8 + (3 + 11) + 40 * d ≤ R.locals) : CallW R s args RX12 RX12 115 yX12_also cX12_also 3 none (zW yX12_also cX12_also 3 none) (zR d mc ms) mc ms 2 := z_cwV hts m_co_X12_also m_ml_RX12_115 m_im_X12_also m_se_X12_also m_ii_RX12 (by decide +kernel) h1 h2
theorem kV_RX12_122 {R : Room} {s : State} {args : Array Value} {d mc ms : Nat} (hts : ∀ w ∈ zT, w.before args s = true) (h1 : d + 1 ≤ R.frames) (h2 : 8 + (4 + 11) + 40 * d ≤ R.locals) : CallW R s args RX12 RX12 122 yX12_numbered cX12_numbered 4 (some .int) (zW yX12_numbered cX12_numbered 4 (some .int)) (zR d mc ms) mc ms 2 := z_cwV hts m_co_X12_numbered m_ml_RX12_122 m_im_X12_numbered m_se_X12_numbered m_ii_RX12 (by decide +kernel) h1 h2
theorem dX12_ends_0 : decode cX12_ends 0 = .ok (.aload_n 0, 1) := zo_42 (by decide +kernel)
theorem dX12_ends_1 : decode cX12_ends 1 = .ok (.getfield 104, 3) := zo_180 (by decide +kernel)
theorem dX12_ends_4 : decode cX12_ends 4 = .ok (.ifCond .eq 4, 3) := zo_153 (by decide +kernel)
theorem dX12_ends_7 : decode cX12_ends 7 = .ok (.return_, 1) := zo_177 (by decide +kernel)
theorem dX12_ends_8 : decode cX12_ends 8 = .ok (.aload_n 0, 1) := zo_42 (by decide +kernel)
theorem dX12_ends_9 : decode cX12_ends 9 = .ok (.iconst 1, 1) := zo_4 (by decide +kernel)
theorem dX12_ends_10 : decode cX12_ends 10 = .ok (.putfield 104, 3) := zo_181 (by decide +kernel)
theorem dX12_ends_13 : decode cX12_ends 13 = .ok (.aload_n 0, 1) := zo_42 (by decide +kernel)
theorem dX12_ends_14 : decode cX12_ends 14 = .ok (.getfield 7, 3) := zo_180 (by decide +kernel)
theorem dX12_ends_17 : decode cX12_ends 17 = .ok (.iconst 5, 1) := zo_8 (by decide +kernel)
theorem dX12_ends_18 : decode cX12_ends 18 = .ok (.iconst 1, 1) := zo_4 (by decide +kernel)
theorem dX12_ends_19 : decode cX12_ends 19 = .ok (.iastore, 1) := zo_79 (by decide +kernel)
theorem dX12_ends_20 : decode cX12_ends 20 = .ok (.aload_n 0, 1) := zo_42 (by decide +kernel)
theorem dX12_ends_21 : decode cX12_ends 21 = .ok (.getfield 7, 3) := zo_180 (by decide +kernel)
theorem dX12_ends_24 : decode cX12_ends 24 = .ok (.bipush 6, 2) := zo_16 (by decide +kernel)
theorem dX12_ends_26 : decode cX12_ends 26 = .ok (.aload_n 0, 1) := zo_42 (by decide +kernel)
theorem dX12_ends_27 : decode cX12_ends 27 = .ok (.getfield 77, 3) := zo_180 (by decide +kernel)
theorem dX12_ends_30 : decode cX12_ends 30 = .ok (.iastore, 1) := zo_79 (by decide +kernel)
theorem dX12_ends_31 : decode cX12_ends 31 = .ok (.return_, 1) := zo_177 (by decide +kernel)
theorem dX12_also_0 : decode cX12_also 0 = .ok (.aload_n 0, 1) := zo_42 (by decide +kernel)
theorem dX12_also_1 : decode cX12_also 1 = .ok (.getfield 104, 3) := zo_180 (by decide +kernel)
theorem dX12_also_4 : decode cX12_also 4 = .ok (.ifCond .ne 44, 3) := zo_154 (by decide +kernel)
theorem dX12_also_7 : decode cX12_also 7 = .ok (.aload_n 0, 1) := zo_42 (by decide +kernel)
theorem dX12_also_8 : decode cX12_also 8 = .ok (.getfield 7, 3) := zo_180 (by decide +kernel)
theorem dX12_also_11 : decode cX12_also 11 = .ok (.iconst 5, 1) := zo_8 (by decide +kernel)
theorem dX12_also_12 : decode cX12_also 12 = .ok (.iaload, 1) := zo_46 (by decide +kernel)
theorem dX12_also_13 : decode cX12_also 13 = .ok (.ifCond .eq 36, 3) := zo_153 (by decide +kernel)
theorem dX12_also_16 : decode cX12_also 16 = .ok (.aload_n 0, 1) := zo_42 (by decide +kernel)
theorem dX12_also_17 : decode cX12_also 17 = .ok (.getfield 7, 3) := zo_180 (by decide +kernel)
theorem dX12_also_20 : decode cX12_also 20 = .ok (.bipush 6, 2) := zo_16 (by decide +kernel)
theorem dX12_also_22 : decode cX12_also 22 = .ok (.iaload, 1) := zo_46 (by decide +kernel)
theorem dX12_also_23 : decode cX12_also 23 = .ok (.iload_n 2, 1) := zo_28 (by decide +kernel)
theorem dX12_also_24 : decode cX12_also 24 = .ok (.if_icmp .lt 24, 3) := zo_161 (by decide +kernel)
theorem dX12_also_27 : decode cX12_also 27 = .ok (.aload_n 0, 1) := zo_42 (by decide +kernel)
theorem dX12_also_28 : decode cX12_also 28 = .ok (.getfield 7, 3) := zo_180 (by decide +kernel)
theorem dX12_also_31 : decode cX12_also 31 = .ok (.bipush 6, 2) := zo_16 (by decide +kernel)
theorem dX12_also_33 : decode cX12_also 33 = .ok (.iaload, 1) := zo_46 (by decide +kernel)
theorem dX12_also_34 : decode cX12_also 34 = .ok (.iload_n 2, 1) := zo_28 (by decide +kernel)
theorem dX12_also_35 : decode cX12_also 35 = .ok (.if_icmp .ne 14, 3) := zo_160 (by decide +kernel)
theorem dX12_also_38 : decode cX12_also 38 = .ok (.aload_n 0, 1) := zo_42 (by decide +kernel)
theorem dX12_also_39 : decode cX12_also 39 = .ok (.getfield 7, 3) := zo_180 (by decide +kernel)
theorem dX12_also_42 : decode cX12_also 42 = .ok (.iconst 5, 1) := zo_8 (by decide +kernel)
theorem dX12_also_43 : decode cX12_also 43 = .ok (.iaload, 1) := zo_46 (by decide +kernel)
theorem dX12_also_44 : decode cX12_also 44 = .ok (.iload_n 1, 1) := zo_27 (by decide +kernel)
theorem dX12_also_45 : decode cX12_also 45 = .ok (.if_icmp .gt 4, 3) := zo_163 (by decide +kernel)
theorem dX12_also_48 : decode cX12_also 48 = .ok (.return_, 1) := zo_177 (by decide +kernel)
theorem dX12_also_49 : decode cX12_also 49 = .ok (.aload_n 0, 1) := zo_42 (by decide +kernel)
theorem dX12_also_50 : decode cX12_also 50 = .ok (.getfield 7, 3) := zo_180 (by decide +kernel)
theorem dX12_also_53 : decode cX12_also 53 = .ok (.iconst 5, 1) := zo_8 (by decide +kernel)
theorem dX12_also_54 : decode cX12_also 54 = .ok (.iload_n 1, 1) := zo_27 (by decide +kernel)
theorem dX12_also_55 : decode cX12_also 55 = .ok (.iastore, 1) := zo_79 (by decide +kernel)
theorem dX12_also_56 : decode cX12_also 56 = .ok (.aload_n 0, 1) := zo_42 (by decide +kernel)
theorem dX12_also_57 : decode cX12_also 57 = .ok (.getfield 7, 3) := zo_180 (by decide +kernel)
theorem dX12_also_60 : decode cX12_also 60 = .ok (.bipush 6, 2) := zo_16 (by decide +kernel)
theorem dX12_also_62 : decode cX12_also 62 = .ok (.iload_n 2, 1) := zo_28 (by decide +kernel)
theorem dX12_also_63 : decode cX12_also 63 = .ok (.iastore, 1) := zo_79 (by decide +kernel)
theorem dX12_also_64 : decode cX12_also 64 = .ok (.return_, 1) := zo_177 (by decide +kernel)
theorem dX12_numbered_0 : decode cX12_numbered 0 = .ok (.aload_n 0, 1) := zo_42 (by decide +kernel)
theorem dX12_numbered_1 : decode cX12_numbered 1 = .ok (.getfield 104, 3) := zo_180 (by decide +kernel)
theorem dX12_numbered_4 : decode cX12_numbered 4 = .ok (.ifCond .ne 11, 3) := zo_154 (by decide +kernel)
theorem dX12_numbered_7 : decode cX12_numbered 7 = .ok (.aload_n 0, 1) := zo_42 (by decide +kernel)
theorem dX12_numbered_8 : decode cX12_numbered 8 = .ok (.getfield 80, 3) := zo_180 (by decide +kernel)
theorem dX12_numbered_11 : decode cX12_numbered 11 = .ok (.iconst 1, 1) := zo_4 (by decide +kernel)
theorem dX12_numbered_12 : decode cX12_numbered 12 = .ok (.if_icmp .eq 9, 3) := zo_159 (by decide +kernel)
theorem dX12_numbered_15 : decode cX12_numbered 15 = .ok (.aload_n 0, 1) := zo_42 (by decide +kernel)
theorem dX12_numbered_16 : decode cX12_numbered 16 = .ok (.invokevirtual 108, 3) := zo_182 (by decide +kernel)
theorem dX12_numbered_19 : decode cX12_numbered 19 = .ok (.iload_n 1, 1) := zo_27 (by decide +kernel)
theorem dX12_numbered_20 : decode cX12_numbered 20 = .ok (.ireturn, 1) := zo_172 (by decide +kernel)
theorem dX12_numbered_21 : decode cX12_numbered 21 = .ok (.aload_n 0, 1) := zo_42 (by decide +kernel)
theorem dX12_numbered_22 : decode cX12_numbered 22 = .ok (.getfield 101, 3) := zo_180 (by decide +kernel)
theorem dX12_numbered_25 : decode cX12_numbered 25 = .ok (.istore_n 3, 1) := zo_62 (by decide +kernel)
theorem dX12_numbered_26 : decode cX12_numbered 26 = .ok (.iload_n 3, 1) := zo_29 (by decide +kernel)
theorem dX12_numbered_27 : decode cX12_numbered 27 = .ok (.iload_n 1, 1) := zo_27 (by decide +kernel)
theorem dX12_numbered_28 : decode cX12_numbered 28 = .ok (.iload_n 2, 1) := zo_28 (by decide +kernel)
theorem dX12_numbered_29 : decode cX12_numbered 29 = .ok (.invokestatic 111, 3) := zo_184 (by decide +kernel)
theorem dX12_numbered_32 : decode cX12_numbered 32 = .ok (.ifCond .ne 12, 3) := zo_154 (by decide +kernel)
theorem dX12_numbered_35 : decode cX12_numbered 35 = .ok (.aload_n 0, 1) := zo_42 (by decide +kernel)
theorem dX12_numbered_36 : decode cX12_numbered 36 = .ok (.iconst 2, 1) := zo_5 (by decide +kernel)
theorem dX12_numbered_37 : decode cX12_numbered 37 = .ok (.aload_n 0, 1) := zo_42 (by decide +kernel)
theorem dX12_numbered_38 : decode cX12_numbered 38 = .ok (.getfield 77, 3) := zo_180 (by decide +kernel)
theorem dX12_numbered_41 : decode cX12_numbered 41 = .ok (.invokevirtual 115, 3) := zo_182 (by decide +kernel)
theorem dX12_numbered_44 : decode cX12_numbered 44 = .ok (.aload_n 0, 1) := zo_42 (by decide +kernel)
theorem dX12_numbered_45 : decode cX12_numbered 45 = .ok (.invokevirtual 119, 3) := zo_182 (by decide +kernel)
theorem dX12_numbered_48 : decode cX12_numbered 48 = .ok (.iload_n 3, 1) := zo_29 (by decide +kernel)
theorem dX12_numbered_49 : decode cX12_numbered 49 = .ok (.iload_n 1, 1) := zo_27 (by decide +kernel)
theorem dX12_numbered_50 : decode cX12_numbered 50 = .ok (.iload_n 2, 1) := zo_28 (by decide +kernel)
theorem dX12_numbered_51 : decode cX12_numbered 51 = .ok (.invokestatic 111, 3) := zo_184 (by decide +kernel)
theorem dX12_numbered_54 : decode cX12_numbered 54 = .ok (.ifCond .eq 7, 3) := zo_153 (by decide +kernel)
theorem dX12_numbered_57 : decode cX12_numbered 57 = .ok (.iload_n 3, 1) := zo_29 (by decide +kernel)
theorem dX12_numbered_58 : decode cX12_numbered 58 = .ok (.goto 4, 3) := zo_167 (by decide +kernel)
theorem dX12_numbered_61 : decode cX12_numbered 61 = .ok (.iload_n 1, 1) := zo_27 (by decide +kernel)
theorem dX12_numbered_62 : decode cX12_numbered 62 = .ok (.ireturn, 1) := zo_172 (by decide +kernel)
theorem dX12_wordIn_0 : decode cX12_wordIn 0 = .ok (.aload_n 0, 1) := zo_42 (by decide +kernel)
theorem dX12_wordIn_1 : decode cX12_wordIn 1 = .ok (.getfield 104, 3) := zo_180 (by decide +kernel)
theorem dX12_wordIn_4 : decode cX12_wordIn 4 = .ok (.ifCond .ne 23, 3) := zo_154 (by decide +kernel)
theorem dX12_wordIn_7 : decode cX12_wordIn 7 = .ok (.aload_n 0, 1) := zo_42 (by decide +kernel)
theorem dX12_wordIn_8 : decode cX12_wordIn 8 = .ok (.getfield 80, 3) := zo_180 (by decide +kernel)
theorem dX12_wordIn_11 : decode cX12_wordIn 11 = .ok (.iconst 3, 1) := zo_6 (by decide +kernel)
theorem dX12_wordIn_12 : decode cX12_wordIn 12 = .ok (.if_icmp .ne 15, 3) := zo_160 (by decide +kernel)
theorem dX12_wordIn_15 : decode cX12_wordIn 15 = .ok (.aload_n 0, 1) := zo_42 (by decide +kernel)
theorem dX12_wordIn_16 : decode cX12_wordIn 16 = .ok (.getfield 95, 3) := zo_180 (by decide +kernel)
theorem dX12_wordIn_19 : decode cX12_wordIn 19 = .ok (.iload_n 1, 1) := zo_27 (by decide +kernel)
theorem dX12_wordIn_20 : decode cX12_wordIn 20 = .ok (.iload_n 2, 1) := zo_28 (by decide +kernel)
theorem dX12_wordIn_21 : decode cX12_wordIn 21 = .ok (.invokestatic 111, 3) := zo_184 (by decide +kernel)
theorem dX12_wordIn_24 : decode cX12_wordIn 24 = .ok (.ifCond .ne 9, 3) := zo_154 (by decide +kernel)
theorem dX12_wordIn_27 : decode cX12_wordIn 27 = .ok (.aload_n 0, 1) := zo_42 (by decide +kernel)
theorem dX12_wordIn_28 : decode cX12_wordIn 28 = .ok (.invokevirtual 108, 3) := zo_182 (by decide +kernel)
theorem dX12_wordIn_31 : decode cX12_wordIn 31 = .ok (.iconst 0, 1) := zo_3 (by decide +kernel)
theorem dX12_wordIn_32 : decode cX12_wordIn 32 = .ok (.ireturn, 1) := zo_172 (by decide +kernel)
theorem dX12_wordIn_33 : decode cX12_wordIn 33 = .ok (.aload_n 0, 1) := zo_42 (by decide +kernel)
theorem dX12_wordIn_34 : decode cX12_wordIn 34 = .ok (.getfield 95, 3) := zo_180 (by decide +kernel)
theorem dX12_wordIn_37 : decode cX12_wordIn 37 = .ok (.istore_n 3, 1) := zo_62 (by decide +kernel)
theorem dX12_wordIn_38 : decode cX12_wordIn 38 = .ok (.aload_n 0, 1) := zo_42 (by decide +kernel)
theorem dX12_wordIn_39 : decode cX12_wordIn 39 = .ok (.invokevirtual 119, 3) := zo_182 (by decide +kernel)
theorem dX12_wordIn_42 : decode cX12_wordIn 42 = .ok (.iload_n 3, 1) := zo_29 (by decide +kernel)
theorem dX12_wordIn_43 : decode cX12_wordIn 43 = .ok (.ireturn, 1) := zo_172 (by decide +kernel)
theorem dX12_endsLine_0 : decode cX12_endsLine 0 = .ok (.aload_n 0, 1) := zo_42 (by decide +kernel)
theorem dX12_endsLine_1 : decode cX12_endsLine 1 = .ok (.getfield 104, 3) := zo_180 (by decide +kernel)
theorem dX12_endsLine_4 : decode cX12_endsLine 4 = .ok (.ifCond .ne 18, 3) := zo_154 (by decide +kernel)
theorem dX12_endsLine_7 : decode cX12_endsLine 7 = .ok (.aload_n 0, 1) := zo_42 (by decide +kernel)
theorem dX12_endsLine_8 : decode cX12_endsLine 8 = .ok (.getfield 80, 3) := zo_180 (by decide +kernel)
theorem dX12_endsLine_11 : decode cX12_endsLine 11 = .ok (.iconst 2, 1) := zo_5 (by decide +kernel)
theorem dX12_endsLine_12 : decode cX12_endsLine 12 = .ok (.if_icmp .ne 10, 3) := zo_160 (by decide +kernel)
theorem dX12_endsLine_15 : decode cX12_endsLine 15 = .ok (.aload_n 0, 1) := zo_42 (by decide +kernel)
theorem dX12_endsLine_16 : decode cX12_endsLine 16 = .ok (.invokevirtual 119, 3) := zo_182 (by decide +kernel)
theorem dX12_endsLine_19 : decode cX12_endsLine 19 = .ok (.goto 7, 3) := zo_167 (by decide +kernel)
theorem dX12_endsLine_22 : decode cX12_endsLine 22 = .ok (.aload_n 0, 1) := zo_42 (by decide +kernel)
theorem dX12_endsLine_23 : decode cX12_endsLine 23 = .ok (.invokevirtual 108, 3) := zo_182 (by decide +kernel)
theorem dX12_endsLine_26 : decode cX12_endsLine 26 = .ok (.return_, 1) := zo_177 (by decide +kernel)
theorem dX12_crossingTold_0 : decode cX12_crossingTold 0 = .ok (.aload_n 0, 1) := zo_42 (by decide +kernel)
theorem dX12_crossingTold_1 : decode cX12_crossingTold 1 = .ok (.iconst 0, 1) := zo_3 (by decide +kernel)
theorem dX12_crossingTold_2 : decode cX12_crossingTold 2 = .ok (.bipush 6, 2) := zo_16 (by decide +kernel)
theorem dX12_crossingTold_4 : decode cX12_crossingTold 4 = .ok (.invokevirtual 122, 3) := zo_182 (by decide +kernel)
theorem dX12_crossingTold_7 : decode cX12_crossingTold 7 = .ok (.istore_n 1, 1) := zo_60 (by decide +kernel)
theorem dX12_crossingTold_8 : decode cX12_crossingTold 8 = .ok (.aload_n 0, 1) := zo_42 (by decide +kernel)
theorem dX12_crossingTold_9 : decode cX12_crossingTold 9 = .ok (.iload_n 1, 1) := zo_27 (by decide +kernel)
theorem dX12_crossingTold_10 : decode cX12_crossingTold 10 = .ok (.aload_n 0, 1) := zo_42 (by decide +kernel)
theorem dX12_crossingTold_11 : decode cX12_crossingTold 11 = .ok (.getfield 126, 3) := zo_180 (by decide +kernel)
theorem dX12_crossingTold_14 : decode cX12_crossingTold 14 = .ok (.if_icmp .le 7, 3) := zo_164 (by decide +kernel)
theorem dX12_crossingTold_17 : decode cX12_crossingTold 17 = .ok (.iload_n 1, 1) := zo_27 (by decide +kernel)
theorem dX12_crossingTold_18 : decode cX12_crossingTold 18 = .ok (.goto 7, 3) := zo_167 (by decide +kernel)
theorem dX12_crossingTold_21 : decode cX12_crossingTold 21 = .ok (.aload_n 0, 1) := zo_42 (by decide +kernel)
theorem dX12_crossingTold_22 : decode cX12_crossingTold 22 = .ok (.getfield 126, 3) := zo_180 (by decide +kernel)
theorem dX12_crossingTold_25 : decode cX12_crossingTold 25 = .ok (.putfield 126, 3) := zo_181 (by decide +kernel)
theorem dX12_crossingTold_28 : decode cX12_crossingTold 28 = .ok (.iload_n 1, 1) := zo_27 (by decide +kernel)
theorem dX12_crossingTold_29 : decode cX12_crossingTold 29 = .ok (.ireturn, 1) := zo_172 (by decide +kernel)
def zPal (f g : Nat → Int32) : Prop := ∀ j, j ≠ 5 → j ≠ 6 → g j = f j
theorem zPal_rf (f : Nat → Int32) : zPal f f := fun _ _ _ => rfl
theorem zPal.tr {f g h : Nat → Int32} (a : zPal f g) (b : zPal g h) : zPal f h := fun j h1 h2 => (b j h1 h2).trans (a j h1 h2)
theorem zPal_u5 {f g : Nat → Int32} {v : Int32} (a : zPal f g) : zPal f (upd g 5 v) := fun j h1 h2 => (show upd g 5 v j = g j by unfold upd; rw [if_neg h1]).trans (a j h1 h2)
theorem zPal_u6 {f g : Nat → Int32} {v : Int32} (a : zPal f g) : zPal f (upd g 6 v) := fun j h1 h2 => (show upd g 6 v j = g j by unfold upd; rw [if_neg h2]).trans (a j h1 h2)
def zLF (f : Nat → Int32) : Prop := (0 ≤ (f 0).toInt ∧ (f 0).toInt ≤ 7) ∧ (∀ c, c < 7 → (0 ≤ (f (2 + c)).toInt ∧ (f (2 + c)).toInt ≤ 4) ∧ (0 ≤ (f (9 + c)).toInt ∧ (f (9 + c)).toInt ≤ 3) ∧ 0 ≤ (f (16 + c)).toInt ∧ (f (16 + c)).toInt ≤ 9) ∧ ∀ j, j < 28 → 0 ≤ (f (23 + j)).toInt ∧ (f (23 + j)).toInt ≤ 6
def zCF (m : Int) (f : Nat → Int32) : Prop := 0 ≤ (f 0).toInt ∧ (f 0).toInt ≤ m
theorem zLF_upd {f : Nat → Int32} {k : Nat} {v : Int32} (h : zLF f) (c0 : k = 0 → 0 ≤ v.toInt ∧ v.toInt ≤ 7) (c1 : 2 ≤ k ∧ k < 9 → 0 ≤ v.toInt ∧ v.toInt ≤ 4) (c2 : 9 ≤ k ∧ k < 16 → 0 ≤ v.toInt ∧ v.toInt ≤ 3) (c3 : 16 ≤ k ∧ k < 23 → 0 ≤ v.toInt ∧ v.toInt ≤ 9) (c4 : 23 ≤ k ∧ k < 51 → 0 ≤ v.toInt ∧ v.toInt ≤ 6) : zLF (upd f k v) := by
  have g : ∀ (i : Nat) (lo hi : Int), (i = k → lo ≤ v.toInt ∧ v.toInt ≤ hi) → lo ≤ (f i).toInt ∧ (f i).toInt ≤ hi → lo ≤ (upd f k v i).toInt ∧ (upd f k v i).toInt ≤ hi := by
    intro i lo hi a b
    unfold upd
    split
    · exact a (by assumption)
    · exact b
  exact ⟨g 0 0 7 (fun e => c0 e.symm) h.1, fun c hc => ⟨g _ 0 4 (fun e => c1 (by omega)) (h.2.1 c hc).1, g _ 0 3 (fun e => c2 (by omega)) (h.2.1 c hc).2.1, g _ 0 9 (fun e => c3 (by omega)) (h.2.1 c hc).2.2⟩, fun j hj => g _ 0 6 (fun e => c4 (by omega)) (h.2.2 j hj)⟩
theorem zCF_upd {m : Int} {f : Nat → Int32} {k : Nat} {v : Int32} (h : zCF m f) (c0 : k = 0 → 0 ≤ v.toInt ∧ v.toInt ≤ m) : zCF m (upd f k v) := by
  unfold zCF upd
  split
  · exact c0 (by omega)
  · exact h
def zMu (w t n sz : Int32) : Nat := if w.toInt = 0 then (if t.toInt = 0 then 1 else (sz.toInt - n.toInt).toNat + 2) else 0
theorem zMu_lt {w t n w' t' n' sz : Int32} (h1 : w.toInt = 0) (h2 : ¬ t.toInt = 0) (h3 : n'.toInt ≤ sz.toInt) (h4 : ¬ w'.toInt = 0 ∨ n.toInt < n'.toInt ∨ t'.toInt = 0) : zMu w' t' n' sz < zMu w t n sz := by
  have a : zMu w t n sz = (sz.toInt - n.toInt).toNat + 2 := by unfold zMu; rw [if_pos h1, if_neg h2]
  rw [a]
  unfold zMu
  split
  · split
    · omega
    · omega
  · omega
theorem m_co_X12_crossingTold : Cond.code yX12_crossingTold cX12_crossingTold 2 (some .int) ∈ zT := zmem1 zsub_6 193 rfl rfl
theorem m_ml_RX12_129 : Cond.methodLink RX12 129 yX12_crossingTold ∈ zT := zmem1 zsub_6 190 rfl rfl
theorem m_im_X12_crossingTold : Cond.instanceMethod yX12_crossingTold ∈ zT := zmem1 zsub_6 192 rfl rfl
theorem m_se_X12_crossingTold : Cond.selects RX12 yX12_crossingTold yX12_crossingTold ∈ zT := zmem 53 rfl rfl
theorem m_co_X12_wordIn : Cond.code yX12_wordIn cX12_wordIn 4 (some .int) ∈ zT := zmem1 zsub_6 177 rfl rfl
theorem m_ml_RX12_133 : Cond.methodLink RX12 133 yX12_wordIn ∈ zT := zmem1 zsub_6 174 rfl rfl
theorem m_im_X12_wordIn : Cond.instanceMethod yX12_wordIn ∈ zT := zmem1 zsub_6 176 rfl rfl
theorem m_se_X12_wordIn : Cond.selects RX12 yX12_wordIn yX12_wordIn ∈ zT := zmem 49 rfl rfl
theorem m_co_X12_endsLine : Cond.code yX12_endsLine cX12_endsLine 1 none ∈ zT := zmem1 zsub_6 201 rfl rfl
theorem m_ml_RX12_140 : Cond.methodLink RX12 140 yX12_endsLine ∈ zT := zmem1 zsub_6 198 rfl rfl
theorem m_im_X12_endsLine : Cond.instanceMethod yX12_endsLine ∈ zT := zmem1 zsub_6 200 rfl rfl
theorem m_se_X12_endsLine : Cond.selects RX12 yX12_endsLine yX12_endsLine ∈ zT := zmem 55 rfl rfl
theorem m_co_X12_crossTold : Cond.code yX12_crossTold cX12_crossTold 4 none ∈ zT := zmem1 zsub_6 185 rfl rfl
theorem m_ml_RX12_136 : Cond.methodLink RX12 136 yX12_crossTold ∈ zT := zmem1 zsub_6 182 rfl rfl
theorem m_im_X12_crossTold : Cond.instanceMethod yX12_crossTold ∈ zT := zmem1 zsub_6 184 rfl rfl
theorem m_se_X12_crossTold : Cond.selects RX12 yX12_crossTold yX12_crossTold ∈ zT := zmem 51 rfl rfl
theorem kV_RX12_129 {R : Room} {s : State} {args : Array Value} {d mc ms : Nat} (hts : ∀ w ∈ zT, w.before args s = true) (h1 : d + 1 ≤ R.frames) (h2 : 8 + (2 + 11) + 40 * d ≤ R.locals) : CallW R s args RX12 RX12 129 yX12_crossingTold cX12_crossingTold 2 (some .int) (zW yX12_crossingTold cX12_crossingTold 2 (some .int)) (zR d mc ms) mc ms 0 := z_cwV hts m_co_X12_crossingTold m_ml_RX12_129 m_im_X12_crossingTold m_se_X12_crossingTold m_ii_RX12 (by decide +kernel) h1 h2
theorem kV_RX12_133 {R : Room} {s : State} {args : Array Value} {d mc ms : Nat} (hts : ∀ w ∈ zT, w.before args s = true) (h1 : d + 1 ≤ R.frames) (h2 : 8 + (4 + 11) + 40 * d ≤ R.locals) : CallW R s args RX12 RX12 133 yX12_wordIn cX12_wordIn 4 (some .int) (zW yX12_wordIn cX12_wordIn 4 (some .int)) (zR d mc ms) mc ms 2 := z_cwV hts m_co_X12_wordIn m_ml_RX12_133 m_im_X12_wordIn m_se_X12_wordIn m_ii_RX12 (by decide +kernel) h1 h2
theorem kV_RX12_140 {R : Room} {s : State} {args : Array Value} {d mc ms : Nat} (hts : ∀ w ∈ zT, w.before args s = true) (h1 : d + 1 ≤ R.frames) (h2 : 8 + (1 + 11) + 40 * d ≤ R.locals) : CallW R s args RX12 RX12 140 yX12_endsLine cX12_endsLine 1 none (zW yX12_endsLine cX12_endsLine 1 none) (zR d mc ms) mc ms 0 := z_cwV hts m_co_X12_endsLine m_ml_RX12_140 m_im_X12_endsLine m_se_X12_endsLine m_ii_RX12 (by decide +kernel) h1 h2
theorem kV_RX12_136 {R : Room} {s : State} {args : Array Value} {d mc ms : Nat} (hts : ∀ w ∈ zT, w.before args s = true) (h1 : d + 1 ≤ R.frames) (h2 : 8 + (4 + 11) + 40 * d ≤ R.locals) : CallW R s args RX12 RX12 136 yX12_crossTold cX12_crossTold 4 none (zW yX12_crossTold cX12_crossTold 4 none) (zR d mc ms) mc ms 1 := z_cwV hts m_co_X12_crossTold m_ml_RX12_136 m_im_X12_crossTold m_se_X12_crossTold m_ii_RX12 (by decide +kernel) h1 h2
theorem dX12_crossTold_0 : decode cX12_crossTold 0 = .ok (.aload_n 0, 1) := zo_42 (by decide +kernel)
theorem dX12_crossTold_1 : decode cX12_crossTold 1 = .ok (.getfield 17, 3) := zo_180 (by decide +kernel)
theorem dX12_crossTold_4 : decode cX12_crossTold 4 = .ok (.iconst 0, 1) := zo_3 (by decide +kernel)
theorem dX12_crossTold_5 : decode cX12_crossTold 5 = .ok (.iaload, 1) := zo_46 (by decide +kernel)
theorem dX12_crossTold_6 : decode cX12_crossTold 6 = .ok (.bipush 7, 2) := zo_16 (by decide +kernel)
theorem dX12_crossTold_8 : decode cX12_crossTold 8 = .ok (.if_icmp .lt 9, 3) := zo_161 (by decide +kernel)
theorem dX12_crossTold_11 : decode cX12_crossTold 11 = .ok (.aload_n 0, 1) := zo_42 (by decide +kernel)
theorem dX12_crossTold_12 : decode cX12_crossTold 12 = .ok (.iconst 3, 1) := zo_6 (by decide +kernel)
theorem dX12_crossTold_13 : decode cX12_crossTold 13 = .ok (.iload_n 1, 1) := zo_27 (by decide +kernel)
theorem dX12_crossTold_14 : decode cX12_crossTold 14 = .ok (.invokevirtual 115, 3) := zo_182 (by decide +kernel)
theorem dX12_crossTold_17 : decode cX12_crossTold 17 = .ok (.iconst 0, 1) := zo_3 (by decide +kernel)
theorem dX12_crossTold_18 : decode cX12_crossTold 18 = .ok (.istore_n 2, 1) := zo_61 (by decide +kernel)
theorem dX12_crossTold_19 : decode cX12_crossTold 19 = .ok (.aload_n 0, 1) := zo_42 (by decide +kernel)
theorem dX12_crossTold_20 : decode cX12_crossTold 20 = .ok (.getfield 104, 3) := zo_180 (by decide +kernel)
theorem dX12_crossTold_23 : decode cX12_crossTold 23 = .ok (.ifCond .ne 81, 3) := zo_154 (by decide +kernel)
theorem dX12_crossTold_26 : decode cX12_crossTold 26 = .ok (.aload_n 0, 1) := zo_42 (by decide +kernel)
theorem dX12_crossTold_27 : decode cX12_crossTold 27 = .ok (.getfield 80, 3) := zo_180 (by decide +kernel)
theorem dX12_crossTold_30 : decode cX12_crossTold 30 = .ok (.iconst 1, 1) := zo_4 (by decide +kernel)
theorem dX12_crossTold_31 : decode cX12_crossTold 31 = .ok (.if_icmp .ne 73, 3) := zo_160 (by decide +kernel)
theorem dX12_crossTold_34 : decode cX12_crossTold 34 = .ok (.iload_n 2, 1) := zo_28 (by decide +kernel)
theorem dX12_crossTold_35 : decode cX12_crossTold 35 = .ok (.iconst 4, 1) := zo_7 (by decide +kernel)
theorem dX12_crossTold_36 : decode cX12_crossTold 36 = .ok (.if_icmp .ne 12, 3) := zo_160 (by decide +kernel)
theorem dX12_crossTold_39 : decode cX12_crossTold 39 = .ok (.aload_n 0, 1) := zo_42 (by decide +kernel)
theorem dX12_crossTold_40 : decode cX12_crossTold 40 = .ok (.iconst 3, 1) := zo_6 (by decide +kernel)
theorem dX12_crossTold_41 : decode cX12_crossTold 41 = .ok (.aload_n 0, 1) := zo_42 (by decide +kernel)
theorem dX12_crossTold_42 : decode cX12_crossTold 42 = .ok (.getfield 77, 3) := zo_180 (by decide +kernel)
theorem dX12_crossTold_45 : decode cX12_crossTold 45 = .ok (.invokevirtual 115, 3) := zo_182 (by decide +kernel)
theorem dX12_crossTold_48 : decode cX12_crossTold 48 = .ok (.aload_n 0, 1) := zo_42 (by decide +kernel)
theorem dX12_crossTold_49 : decode cX12_crossTold 49 = .ok (.invokevirtual 129, 3) := zo_182 (by decide +kernel)
theorem dX12_crossTold_52 : decode cX12_crossTold 52 = .ok (.istore_n 3, 1) := zo_62 (by decide +kernel)
theorem dX12_crossTold_53 : decode cX12_crossTold 53 = .ok (.aload_n 0, 1) := zo_42 (by decide +kernel)
theorem dX12_crossTold_54 : decode cX12_crossTold 54 = .ok (.getfield 17, 3) := zo_180 (by decide +kernel)
theorem dX12_crossTold_57 : decode cX12_crossTold 57 = .ok (.iconst 0, 1) := zo_3 (by decide +kernel)
theorem dX12_crossTold_58 : decode cX12_crossTold 58 = .ok (.iaload, 1) := zo_46 (by decide +kernel)
theorem dX12_crossTold_59 : decode cX12_crossTold 59 = .ok (.bipush 7, 2) := zo_16 (by decide +kernel)
theorem dX12_crossTold_61 : decode cX12_crossTold 61 = .ok (.if_icmp .ge 27, 3) := zo_162 (by decide +kernel)
theorem dX12_crossTold_64 : decode cX12_crossTold 64 = .ok (.iload_n 2, 1) := zo_28 (by decide +kernel)
theorem dX12_crossTold_65 : decode cX12_crossTold 65 = .ok (.iconst 4, 1) := zo_7 (by decide +kernel)
theorem dX12_crossTold_66 : decode cX12_crossTold 66 = .ok (.if_icmp .ge 22, 3) := zo_162 (by decide +kernel)
theorem dX12_crossTold_69 : decode cX12_crossTold 69 = .ok (.aload_n 0, 1) := zo_42 (by decide +kernel)
theorem dX12_crossTold_70 : decode cX12_crossTold 70 = .ok (.getfield 17, 3) := zo_180 (by decide +kernel)
theorem dX12_crossTold_73 : decode cX12_crossTold 73 = .ok (.bipush 23, 2) := zo_16 (by decide +kernel)
theorem dX12_crossTold_75 : decode cX12_crossTold 75 = .ok (.iconst 4, 1) := zo_7 (by decide +kernel)
theorem dX12_crossTold_76 : decode cX12_crossTold 76 = .ok (.aload_n 0, 1) := zo_42 (by decide +kernel)
theorem dX12_crossTold_77 : decode cX12_crossTold 77 = .ok (.getfield 17, 3) := zo_180 (by decide +kernel)
theorem dX12_crossTold_80 : decode cX12_crossTold 80 = .ok (.iconst 0, 1) := zo_3 (by decide +kernel)
theorem dX12_crossTold_81 : decode cX12_crossTold 81 = .ok (.iaload, 1) := zo_46 (by decide +kernel)
theorem dX12_crossTold_82 : decode cX12_crossTold 82 = .ok (.imul, 1) := zo_104 (by decide +kernel)
theorem dX12_crossTold_83 : decode cX12_crossTold 83 = .ok (.iadd, 1) := zo_96 (by decide +kernel)
theorem dX12_crossTold_84 : decode cX12_crossTold 84 = .ok (.iload_n 2, 1) := zo_28 (by decide +kernel)
theorem dX12_crossTold_85 : decode cX12_crossTold 85 = .ok (.iadd, 1) := zo_96 (by decide +kernel)
theorem dX12_crossTold_86 : decode cX12_crossTold 86 = .ok (.iload_n 3, 1) := zo_29 (by decide +kernel)
theorem dX12_crossTold_87 : decode cX12_crossTold 87 = .ok (.iastore, 1) := zo_79 (by decide +kernel)
theorem dX12_crossTold_88 : decode cX12_crossTold 88 = .ok (.iload_n 2, 1) := zo_28 (by decide +kernel)
theorem dX12_crossTold_89 : decode cX12_crossTold 89 = .ok (.iconst 4, 1) := zo_7 (by decide +kernel)
theorem dX12_crossTold_90 : decode cX12_crossTold 90 = .ok (.if_icmp .ge 9, 3) := zo_162 (by decide +kernel)
theorem dX12_crossTold_93 : decode cX12_crossTold 93 = .ok (.iload_n 2, 1) := zo_28 (by decide +kernel)
theorem dX12_crossTold_94 : decode cX12_crossTold 94 = .ok (.iconst 1, 1) := zo_4 (by decide +kernel)
theorem dX12_crossTold_95 : decode cX12_crossTold 95 = .ok (.iadd, 1) := zo_96 (by decide +kernel)
theorem dX12_crossTold_96 : decode cX12_crossTold 96 = .ok (.goto 4, 3) := zo_167 (by decide +kernel)
theorem dX12_crossTold_99 : decode cX12_crossTold 99 = .ok (.iconst 4, 1) := zo_7 (by decide +kernel)
theorem dX12_crossTold_100 : decode cX12_crossTold 100 = .ok (.istore_n 2, 1) := zo_61 (by decide +kernel)
theorem dX12_crossTold_101 : decode cX12_crossTold 101 = .ok (.goto (-82), 3) := zo_167 (by decide +kernel)
theorem dX12_crossTold_104 : decode cX12_crossTold 104 = .ok (.aload_n 0, 1) := zo_42 (by decide +kernel)
theorem dX12_crossTold_105 : decode cX12_crossTold 105 = .ok (.getfield 17, 3) := zo_180 (by decide +kernel)
theorem dX12_crossTold_108 : decode cX12_crossTold 108 = .ok (.iconst 0, 1) := zo_3 (by decide +kernel)
theorem dX12_crossTold_109 : decode cX12_crossTold 109 = .ok (.iaload, 1) := zo_46 (by decide +kernel)
theorem dX12_crossTold_110 : decode cX12_crossTold 110 = .ok (.bipush 7, 2) := zo_16 (by decide +kernel)
theorem dX12_crossTold_112 : decode cX12_crossTold 112 = .ok (.if_icmp .lt 4, 3) := zo_161 (by decide +kernel)
theorem dX12_crossTold_115 : decode cX12_crossTold 115 = .ok (.return_, 1) := zo_177 (by decide +kernel)
theorem dX12_crossTold_116 : decode cX12_crossTold 116 = .ok (.aload_n 0, 1) := zo_42 (by decide +kernel)
theorem dX12_crossTold_117 : decode cX12_crossTold 117 = .ok (.getfield 17, 3) := zo_180 (by decide +kernel)
theorem dX12_crossTold_120 : decode cX12_crossTold 120 = .ok (.iconst 2, 1) := zo_5 (by decide +kernel)
theorem dX12_crossTold_121 : decode cX12_crossTold 121 = .ok (.aload_n 0, 1) := zo_42 (by decide +kernel)
theorem dX12_crossTold_122 : decode cX12_crossTold 122 = .ok (.getfield 17, 3) := zo_180 (by decide +kernel)
theorem dX12_crossTold_125 : decode cX12_crossTold 125 = .ok (.iconst 0, 1) := zo_3 (by decide +kernel)
theorem dX12_crossTold_126 : decode cX12_crossTold 126 = .ok (.iaload, 1) := zo_46 (by decide +kernel)
theorem dX12_crossTold_127 : decode cX12_crossTold 127 = .ok (.iadd, 1) := zo_96 (by decide +kernel)
theorem dX12_crossTold_128 : decode cX12_crossTold 128 = .ok (.iload_n 2, 1) := zo_28 (by decide +kernel)
theorem dX12_crossTold_129 : decode cX12_crossTold 129 = .ok (.iastore, 1) := zo_79 (by decide +kernel)
theorem dX12_crossTold_130 : decode cX12_crossTold 130 = .ok (.aload_n 0, 1) := zo_42 (by decide +kernel)
theorem dX12_crossTold_131 : decode cX12_crossTold 131 = .ok (.getfield 17, 3) := zo_180 (by decide +kernel)
theorem dX12_crossTold_134 : decode cX12_crossTold 134 = .ok (.iconst 0, 1) := zo_3 (by decide +kernel)
theorem dX12_crossTold_135 : decode cX12_crossTold 135 = .ok (.dup2, 1) := zo_92 (by decide +kernel)
theorem dX12_crossTold_136 : decode cX12_crossTold 136 = .ok (.iaload, 1) := zo_46 (by decide +kernel)
theorem dX12_crossTold_137 : decode cX12_crossTold 137 = .ok (.iconst 1, 1) := zo_4 (by decide +kernel)
theorem dX12_crossTold_138 : decode cX12_crossTold 138 = .ok (.iadd, 1) := zo_96 (by decide +kernel)
theorem dX12_crossTold_139 : decode cX12_crossTold 139 = .ok (.iastore, 1) := zo_79 (by decide +kernel)
theorem dX12_crossTold_140 : decode cX12_crossTold 140 = .ok (.return_, 1) := zo_177 (by decide +kernel)
theorem dX12_landLine_0 : decode cX12_landLine 0 = .ok (.aload_n 0, 1) := zo_42 (by decide +kernel)
theorem dX12_landLine_1 : decode cX12_landLine 1 = .ok (.getfield 77, 3) := zo_180 (by decide +kernel)
theorem dX12_landLine_4 : decode cX12_landLine 4 = .ok (.istore_n 1, 1) := zo_60 (by decide +kernel)
theorem dX12_landLine_5 : decode cX12_landLine 5 = .ok (.aload_n 0, 1) := zo_42 (by decide +kernel)
theorem dX12_landLine_6 : decode cX12_landLine 6 = .ok (.iconst 1, 1) := zo_4 (by decide +kernel)
theorem dX12_landLine_7 : decode cX12_landLine 7 = .ok (.iconst 4, 1) := zo_7 (by decide +kernel)
theorem dX12_landLine_8 : decode cX12_landLine 8 = .ok (.invokevirtual 133, 3) := zo_182 (by decide +kernel)
theorem dX12_landLine_11 : decode cX12_landLine 11 = .ok (.istore_n 2, 1) := zo_61 (by decide +kernel)
theorem dX12_landLine_12 : decode cX12_landLine 12 = .ok (.aload_n 0, 1) := zo_42 (by decide +kernel)
theorem dX12_landLine_13 : decode cX12_landLine 13 = .ok (.getfield 104, 3) := zo_180 (by decide +kernel)
theorem dX12_landLine_16 : decode cX12_landLine 16 = .ok (.ifCond .eq 7, 3) := zo_153 (by decide +kernel)
theorem dX12_landLine_19 : decode cX12_landLine 19 = .ok (.iconst 0, 1) := zo_3 (by decide +kernel)
theorem dX12_landLine_20 : decode cX12_landLine 20 = .ok (.goto 4, 3) := zo_167 (by decide +kernel)
theorem dX12_landLine_23 : decode cX12_landLine 23 = .ok (.iload_n 2, 1) := zo_28 (by decide +kernel)
theorem dX12_landLine_24 : decode cX12_landLine 24 = .ok (.tableswitch 105 1 4 #[32, 40, 63, 87], 32) := by decide +kernel
theorem dX12_landLine_56 : decode cX12_landLine 56 = .ok (.aload_n 0, 1) := zo_42 (by decide +kernel)
theorem dX12_landLine_57 : decode cX12_landLine 57 = .ok (.iload_n 1, 1) := zo_27 (by decide +kernel)
theorem dX12_landLine_58 : decode cX12_landLine 58 = .ok (.invokevirtual 136, 3) := zo_182 (by decide +kernel)
theorem dX12_landLine_61 : decode cX12_landLine 61 = .ok (.goto 68, 3) := zo_167 (by decide +kernel)
theorem dX12_landLine_64 : decode cX12_landLine 64 = .ok (.aload_n 0, 1) := zo_42 (by decide +kernel)
theorem dX12_landLine_65 : decode cX12_landLine 65 = .ok (.invokevirtual 129, 3) := zo_182 (by decide +kernel)
theorem dX12_landLine_68 : decode cX12_landLine 68 = .ok (.istore_n 3, 1) := zo_62 (by decide +kernel)
theorem dX12_landLine_69 : decode cX12_landLine 69 = .ok (.aload_n 0, 1) := zo_42 (by decide +kernel)
theorem dX12_landLine_70 : decode cX12_landLine 70 = .ok (.getfield 17, 3) := zo_180 (by decide +kernel)
theorem dX12_landLine_73 : decode cX12_landLine 73 = .ok (.bipush 9, 2) := zo_16 (by decide +kernel)
theorem dX12_landLine_75 : decode cX12_landLine 75 = .ok (.iload_n 3, 1) := zo_29 (by decide +kernel)
theorem dX12_landLine_76 : decode cX12_landLine 76 = .ok (.iadd, 1) := zo_96 (by decide +kernel)
theorem dX12_landLine_77 : decode cX12_landLine 77 = .ok (.aload_n 0, 1) := zo_42 (by decide +kernel)
theorem dX12_landLine_78 : decode cX12_landLine 78 = .ok (.iconst 0, 1) := zo_3 (by decide +kernel)
theorem dX12_landLine_79 : decode cX12_landLine 79 = .ok (.iconst 3, 1) := zo_6 (by decide +kernel)
theorem dX12_landLine_80 : decode cX12_landLine 80 = .ok (.invokevirtual 122, 3) := zo_182 (by decide +kernel)
theorem dX12_landLine_83 : decode cX12_landLine 83 = .ok (.iastore, 1) := zo_79 (by decide +kernel)
theorem dX12_landLine_84 : decode cX12_landLine 84 = .ok (.goto 45, 3) := zo_167 (by decide +kernel)
theorem dX12_landLine_87 : decode cX12_landLine 87 = .ok (.aload_n 0, 1) := zo_42 (by decide +kernel)
theorem dX12_landLine_88 : decode cX12_landLine 88 = .ok (.invokevirtual 129, 3) := zo_182 (by decide +kernel)
theorem dX12_landLine_91 : decode cX12_landLine 91 = .ok (.istore_n 3, 1) := zo_62 (by decide +kernel)
theorem dX12_landLine_92 : decode cX12_landLine 92 = .ok (.aload_n 0, 1) := zo_42 (by decide +kernel)
theorem dX12_landLine_93 : decode cX12_landLine 93 = .ok (.getfield 17, 3) := zo_180 (by decide +kernel)
theorem dX12_landLine_96 : decode cX12_landLine 96 = .ok (.bipush 16, 2) := zo_16 (by decide +kernel)
theorem dX12_landLine_98 : decode cX12_landLine 98 = .ok (.iload_n 3, 1) := zo_29 (by decide +kernel)
theorem dX12_landLine_99 : decode cX12_landLine 99 = .ok (.iadd, 1) := zo_96 (by decide +kernel)
theorem dX12_landLine_100 : decode cX12_landLine 100 = .ok (.aload_n 0, 1) := zo_42 (by decide +kernel)
theorem dX12_landLine_101 : decode cX12_landLine 101 = .ok (.iconst 0, 1) := zo_3 (by decide +kernel)
theorem dX12_landLine_102 : decode cX12_landLine 102 = .ok (.bipush 9, 2) := zo_16 (by decide +kernel)
theorem dX12_landLine_104 : decode cX12_landLine 104 = .ok (.invokevirtual 122, 3) := zo_182 (by decide +kernel)
theorem dX12_landLine_107 : decode cX12_landLine 107 = .ok (.iastore, 1) := zo_79 (by decide +kernel)
theorem dX12_landLine_108 : decode cX12_landLine 108 = .ok (.goto 21, 3) := zo_167 (by decide +kernel)
theorem dX12_landLine_111 : decode cX12_landLine 111 = .ok (.aload_n 0, 1) := zo_42 (by decide +kernel)
theorem dX12_landLine_112 : decode cX12_landLine 112 = .ok (.getfield 17, 3) := zo_180 (by decide +kernel)
theorem dX12_landLine_115 : decode cX12_landLine 115 = .ok (.iconst 1, 1) := zo_4 (by decide +kernel)
theorem dX12_landLine_116 : decode cX12_landLine 116 = .ok (.dup2, 1) := zo_92 (by decide +kernel)
theorem dX12_landLine_117 : decode cX12_landLine 117 = .ok (.iaload, 1) := zo_46 (by decide +kernel)
theorem dX12_landLine_118 : decode cX12_landLine 118 = .ok (.iconst 1, 1) := zo_4 (by decide +kernel)
theorem dX12_landLine_119 : decode cX12_landLine 119 = .ok (.aload_n 0, 1) := zo_42 (by decide +kernel)
theorem dX12_landLine_120 : decode cX12_landLine 120 = .ok (.invokevirtual 129, 3) := zo_182 (by decide +kernel)
theorem dX12_landLine_123 : decode cX12_landLine 123 = .ok (.ishl, 1) := zo_120 (by decide +kernel)
theorem dX12_landLine_124 : decode cX12_landLine 124 = .ok (.ior, 1) := zo_128 (by decide +kernel)
theorem dX12_landLine_125 : decode cX12_landLine 125 = .ok (.iastore, 1) := zo_79 (by decide +kernel)
theorem dX12_landLine_126 : decode cX12_landLine 126 = .ok (.goto 3, 3) := zo_167 (by decide +kernel)
theorem dX12_landLine_129 : decode cX12_landLine 129 = .ok (.aload_n 0, 1) := zo_42 (by decide +kernel)
theorem dX12_landLine_130 : decode cX12_landLine 130 = .ok (.invokevirtual 140, 3) := zo_182 (by decide +kernel)
theorem dX12_landLine_133 : decode cX12_landLine 133 = .ok (.return_, 1) := zo_177 (by decide +kernel)
theorem dX12_dayLine_0 : decode cX12_dayLine 0 = .ok (.aload_n 0, 1) := zo_42 (by decide +kernel)
theorem dX12_dayLine_1 : decode cX12_dayLine 1 = .ok (.getfield 77, 3) := zo_180 (by decide +kernel)
theorem dX12_dayLine_4 : decode cX12_dayLine 4 = .ok (.istore_n 1, 1) := zo_60 (by decide +kernel)
theorem dX12_dayLine_5 : decode cX12_dayLine 5 = .ok (.aload_n 0, 1) := zo_42 (by decide +kernel)
theorem dX12_dayLine_6 : decode cX12_dayLine 6 = .ok (.iconst 5, 1) := zo_8 (by decide +kernel)
theorem dX12_dayLine_7 : decode cX12_dayLine 7 = .ok (.bipush 10, 2) := zo_16 (by decide +kernel)
theorem dX12_dayLine_9 : decode cX12_dayLine 9 = .ok (.invokevirtual 133, 3) := zo_182 (by decide +kernel)
theorem dX12_dayLine_12 : decode cX12_dayLine 12 = .ok (.iconst 5, 1) := zo_8 (by decide +kernel)
theorem dX12_dayLine_13 : decode cX12_dayLine 13 = .ok (.isub, 1) := zo_100 (by decide +kernel)
theorem dX12_dayLine_14 : decode cX12_dayLine 14 = .ok (.istore_n 2, 1) := zo_61 (by decide +kernel)
theorem dX12_dayLine_15 : decode cX12_dayLine 15 = .ok (.aload_n 0, 1) := zo_42 (by decide +kernel)
theorem dX12_dayLine_16 : decode cX12_dayLine 16 = .ok (.getfield 104, 3) := zo_180 (by decide +kernel)
theorem dX12_dayLine_19 : decode cX12_dayLine 19 = .ok (.ifCond .ne 20, 3) := zo_154 (by decide +kernel)
theorem dX12_dayLine_22 : decode cX12_dayLine 22 = .ok (.aload_n 0, 1) := zo_42 (by decide +kernel)
theorem dX12_dayLine_23 : decode cX12_dayLine 23 = .ok (.getfield 17, 3) := zo_180 (by decide +kernel)
theorem dX12_dayLine_26 : decode cX12_dayLine 26 = .ok (.iconst 0, 1) := zo_3 (by decide +kernel)
theorem dX12_dayLine_27 : decode cX12_dayLine 27 = .ok (.iaload, 1) := zo_46 (by decide +kernel)
theorem dX12_dayLine_28 : decode cX12_dayLine 28 = .ok (.bipush 40, 2) := zo_16 (by decide +kernel)
theorem dX12_dayLine_30 : decode cX12_dayLine 30 = .ok (.if_icmp .lt 9, 3) := zo_161 (by decide +kernel)
theorem dX12_dayLine_33 : decode cX12_dayLine 33 = .ok (.aload_n 0, 1) := zo_42 (by decide +kernel)
theorem dX12_dayLine_34 : decode cX12_dayLine 34 = .ok (.iconst 3, 1) := zo_6 (by decide +kernel)
theorem dX12_dayLine_35 : decode cX12_dayLine 35 = .ok (.iload_n 1, 1) := zo_27 (by decide +kernel)
theorem dX12_dayLine_36 : decode cX12_dayLine 36 = .ok (.invokevirtual 115, 3) := zo_182 (by decide +kernel)
theorem dX12_dayLine_39 : decode cX12_dayLine 39 = .ok (.aload_n 0, 1) := zo_42 (by decide +kernel)
theorem dX12_dayLine_40 : decode cX12_dayLine 40 = .ok (.iconst 0, 1) := zo_3 (by decide +kernel)
theorem dX12_dayLine_41 : decode cX12_dayLine 41 = .ok (.bipush 6, 2) := zo_16 (by decide +kernel)
theorem dX12_dayLine_43 : decode cX12_dayLine 43 = .ok (.invokevirtual 122, 3) := zo_182 (by decide +kernel)
theorem dX12_dayLine_46 : decode cX12_dayLine 46 = .ok (.istore_n 3, 1) := zo_62 (by decide +kernel)
theorem dX12_dayLine_47 : decode cX12_dayLine 47 = .ok (.iload_n 2, 1) := zo_28 (by decide +kernel)
theorem dX12_dayLine_48 : decode cX12_dayLine 48 = .ok (.iconst 3, 1) := zo_6 (by decide +kernel)
theorem dX12_dayLine_49 : decode cX12_dayLine 49 = .ok (.if_icmp .le 12, 3) := zo_164 (by decide +kernel)
theorem dX12_dayLine_52 : decode cX12_dayLine 52 = .ok (.aload_n 0, 1) := zo_42 (by decide +kernel)
theorem dX12_dayLine_53 : decode cX12_dayLine 53 = .ok (.iconst 0, 1) := zo_3 (by decide +kernel)
theorem dX12_dayLine_54 : decode cX12_dayLine 54 = .ok (.iconst 3, 1) := zo_6 (by decide +kernel)
theorem dX12_dayLine_55 : decode cX12_dayLine 55 = .ok (.invokevirtual 122, 3) := zo_182 (by decide +kernel)
theorem dX12_dayLine_58 : decode cX12_dayLine 58 = .ok (.goto 4, 3) := zo_167 (by decide +kernel)
theorem dX12_dayLine_61 : decode cX12_dayLine 61 = .ok (.iconst (-1), 1) := zo_2 (by decide +kernel)
theorem dX12_dayLine_62 : decode cX12_dayLine 62 = .ok (.istore 4, 2) := zo_54 (by decide +kernel)
theorem dX12_dayLine_64 : decode cX12_dayLine 64 = .ok (.aload_n 0, 1) := zo_42 (by decide +kernel)
theorem dX12_dayLine_65 : decode cX12_dayLine 65 = .ok (.getfield 17, 3) := zo_180 (by decide +kernel)
theorem dX12_dayLine_68 : decode cX12_dayLine 68 = .ok (.iconst 0, 1) := zo_3 (by decide +kernel)
theorem dX12_dayLine_69 : decode cX12_dayLine 69 = .ok (.iaload, 1) := zo_46 (by decide +kernel)
theorem dX12_dayLine_70 : decode cX12_dayLine 70 = .ok (.bipush 40, 2) := zo_16 (by decide +kernel)
theorem dX12_dayLine_72 : decode cX12_dayLine 72 = .ok (.if_icmp .ge 54, 3) := zo_162 (by decide +kernel)
theorem dX12_dayLine_75 : decode cX12_dayLine 75 = .ok (.iconst 1, 1) := zo_4 (by decide +kernel)
theorem dX12_dayLine_76 : decode cX12_dayLine 76 = .ok (.iconst 3, 1) := zo_6 (by decide +kernel)
theorem dX12_dayLine_77 : decode cX12_dayLine 77 = .ok (.aload_n 0, 1) := zo_42 (by decide +kernel)
theorem dX12_dayLine_78 : decode cX12_dayLine 78 = .ok (.getfield 17, 3) := zo_180 (by decide +kernel)
theorem dX12_dayLine_81 : decode cX12_dayLine 81 = .ok (.iconst 0, 1) := zo_3 (by decide +kernel)
theorem dX12_dayLine_82 : decode cX12_dayLine 82 = .ok (.iaload, 1) := zo_46 (by decide +kernel)
theorem dX12_dayLine_83 : decode cX12_dayLine 83 = .ok (.imul, 1) := zo_104 (by decide +kernel)
theorem dX12_dayLine_84 : decode cX12_dayLine 84 = .ok (.iadd, 1) := zo_96 (by decide +kernel)
theorem dX12_dayLine_85 : decode cX12_dayLine 85 = .ok (.istore 5, 2) := zo_54 (by decide +kernel)
theorem dX12_dayLine_87 : decode cX12_dayLine 87 = .ok (.aload_n 0, 1) := zo_42 (by decide +kernel)
theorem dX12_dayLine_88 : decode cX12_dayLine 88 = .ok (.getfield 17, 3) := zo_180 (by decide +kernel)
theorem dX12_dayLine_91 : decode cX12_dayLine 91 = .ok (.iload 5, 2) := zo_21 (by decide +kernel)
theorem dX12_dayLine_93 : decode cX12_dayLine 93 = .ok (.iload_n 2, 1) := zo_28 (by decide +kernel)
theorem dX12_dayLine_94 : decode cX12_dayLine 94 = .ok (.iastore, 1) := zo_79 (by decide +kernel)
theorem dX12_dayLine_95 : decode cX12_dayLine 95 = .ok (.aload_n 0, 1) := zo_42 (by decide +kernel)
theorem dX12_dayLine_96 : decode cX12_dayLine 96 = .ok (.getfield 17, 3) := zo_180 (by decide +kernel)
theorem dX12_dayLine_99 : decode cX12_dayLine 99 = .ok (.iload 5, 2) := zo_21 (by decide +kernel)
theorem dX12_dayLine_101 : decode cX12_dayLine 101 = .ok (.iconst 1, 1) := zo_4 (by decide +kernel)
theorem dX12_dayLine_102 : decode cX12_dayLine 102 = .ok (.iadd, 1) := zo_96 (by decide +kernel)
theorem dX12_dayLine_103 : decode cX12_dayLine 103 = .ok (.iload_n 3, 1) := zo_29 (by decide +kernel)
theorem dX12_dayLine_104 : decode cX12_dayLine 104 = .ok (.iastore, 1) := zo_79 (by decide +kernel)
theorem dX12_dayLine_105 : decode cX12_dayLine 105 = .ok (.aload_n 0, 1) := zo_42 (by decide +kernel)
theorem dX12_dayLine_106 : decode cX12_dayLine 106 = .ok (.getfield 17, 3) := zo_180 (by decide +kernel)
theorem dX12_dayLine_109 : decode cX12_dayLine 109 = .ok (.iload 5, 2) := zo_21 (by decide +kernel)
theorem dX12_dayLine_111 : decode cX12_dayLine 111 = .ok (.iconst 2, 1) := zo_5 (by decide +kernel)
theorem dX12_dayLine_112 : decode cX12_dayLine 112 = .ok (.iadd, 1) := zo_96 (by decide +kernel)
theorem dX12_dayLine_113 : decode cX12_dayLine 113 = .ok (.iload 4, 2) := zo_21 (by decide +kernel)
theorem dX12_dayLine_115 : decode cX12_dayLine 115 = .ok (.iastore, 1) := zo_79 (by decide +kernel)
theorem dX12_dayLine_116 : decode cX12_dayLine 116 = .ok (.aload_n 0, 1) := zo_42 (by decide +kernel)
theorem dX12_dayLine_117 : decode cX12_dayLine 117 = .ok (.getfield 17, 3) := zo_180 (by decide +kernel)
theorem dX12_dayLine_120 : decode cX12_dayLine 120 = .ok (.iconst 0, 1) := zo_3 (by decide +kernel)
theorem dX12_dayLine_121 : decode cX12_dayLine 121 = .ok (.dup2, 1) := zo_92 (by decide +kernel)
theorem dX12_dayLine_122 : decode cX12_dayLine 122 = .ok (.iaload, 1) := zo_46 (by decide +kernel)
theorem dX12_dayLine_123 : decode cX12_dayLine 123 = .ok (.iconst 1, 1) := zo_4 (by decide +kernel)
theorem dX12_dayLine_124 : decode cX12_dayLine 124 = .ok (.iadd, 1) := zo_96 (by decide +kernel)
theorem dX12_dayLine_125 : decode cX12_dayLine 125 = .ok (.iastore, 1) := zo_79 (by decide +kernel)
theorem dX12_dayLine_126 : decode cX12_dayLine 126 = .ok (.aload_n 0, 1) := zo_42 (by decide +kernel)
theorem dX12_dayLine_127 : decode cX12_dayLine 127 = .ok (.invokevirtual 140, 3) := zo_182 (by decide +kernel)
theorem dX12_dayLine_130 : decode cX12_dayLine 130 = .ok (.return_, 1) := zo_177 (by decide +kernel)
theorem dX12_logLine_0 : decode cX12_logLine 0 = .ok (.aload_n 0, 1) := zo_42 (by decide +kernel)
theorem dX12_logLine_1 : decode cX12_logLine 1 = .ok (.getfield 77, 3) := zo_180 (by decide +kernel)
theorem dX12_logLine_4 : decode cX12_logLine 4 = .ok (.istore_n 1, 1) := zo_60 (by decide +kernel)
theorem dX12_logLine_5 : decode cX12_logLine 5 = .ok (.aload_n 0, 1) := zo_42 (by decide +kernel)
theorem dX12_logLine_6 : decode cX12_logLine 6 = .ok (.bipush 11, 2) := zo_16 (by decide +kernel)
theorem dX12_logLine_8 : decode cX12_logLine 8 = .ok (.bipush 12, 2) := zo_16 (by decide +kernel)
theorem dX12_logLine_10 : decode cX12_logLine 10 = .ok (.invokevirtual 133, 3) := zo_182 (by decide +kernel)
theorem dX12_logLine_13 : decode cX12_logLine 13 = .ok (.bipush 11, 2) := zo_16 (by decide +kernel)
theorem dX12_logLine_15 : decode cX12_logLine 15 = .ok (.if_icmp .ne 7, 3) := zo_160 (by decide +kernel)
theorem dX12_logLine_18 : decode cX12_logLine 18 = .ok (.iconst 1, 1) := zo_4 (by decide +kernel)
theorem dX12_logLine_19 : decode cX12_logLine 19 = .ok (.goto 4, 3) := zo_167 (by decide +kernel)
theorem dX12_logLine_22 : decode cX12_logLine 22 = .ok (.iconst 0, 1) := zo_3 (by decide +kernel)
theorem dX12_logLine_23 : decode cX12_logLine 23 = .ok (.istore_n 2, 1) := zo_61 (by decide +kernel)
theorem dX12_logLine_24 : decode cX12_logLine 24 = .ok (.aload_n 0, 1) := zo_42 (by decide +kernel)
theorem dX12_logLine_25 : decode cX12_logLine 25 = .ok (.getfield 104, 3) := zo_180 (by decide +kernel)
theorem dX12_logLine_28 : decode cX12_logLine 28 = .ok (.ifCond .ne 20, 3) := zo_154 (by decide +kernel)
theorem dX12_logLine_31 : decode cX12_logLine 31 = .ok (.aload_n 0, 1) := zo_42 (by decide +kernel)
theorem dX12_logLine_32 : decode cX12_logLine 32 = .ok (.getfield 17, 3) := zo_180 (by decide +kernel)
theorem dX12_logLine_35 : decode cX12_logLine 35 = .ok (.iconst 0, 1) := zo_3 (by decide +kernel)
theorem dX12_logLine_36 : decode cX12_logLine 36 = .ok (.iaload, 1) := zo_46 (by decide +kernel)
theorem dX12_logLine_37 : decode cX12_logLine 37 = .ok (.bipush 8, 2) := zo_16 (by decide +kernel)
theorem dX12_logLine_39 : decode cX12_logLine 39 = .ok (.if_icmp .lt 9, 3) := zo_161 (by decide +kernel)
theorem dX12_logLine_42 : decode cX12_logLine 42 = .ok (.aload_n 0, 1) := zo_42 (by decide +kernel)
theorem dX12_logLine_43 : decode cX12_logLine 43 = .ok (.iconst 3, 1) := zo_6 (by decide +kernel)
theorem dX12_logLine_44 : decode cX12_logLine 44 = .ok (.iload_n 1, 1) := zo_27 (by decide +kernel)
theorem dX12_logLine_45 : decode cX12_logLine 45 = .ok (.invokevirtual 115, 3) := zo_182 (by decide +kernel)
theorem dX12_logLine_48 : decode cX12_logLine 48 = .ok (.aload_n 0, 1) := zo_42 (by decide +kernel)
theorem dX12_logLine_49 : decode cX12_logLine 49 = .ok (.iconst 0, 1) := zo_3 (by decide +kernel)
theorem dX12_logLine_50 : decode cX12_logLine 50 = .ok (.bipush 6, 2) := zo_16 (by decide +kernel)
theorem dX12_logLine_52 : decode cX12_logLine 52 = .ok (.invokevirtual 122, 3) := zo_182 (by decide +kernel)
theorem dX12_logLine_55 : decode cX12_logLine 55 = .ok (.istore_n 3, 1) := zo_62 (by decide +kernel)
theorem dX12_logLine_56 : decode cX12_logLine 56 = .ok (.iload_n 2, 1) := zo_28 (by decide +kernel)
theorem dX12_logLine_57 : decode cX12_logLine 57 = .ok (.ifCond .eq 13, 3) := zo_153 (by decide +kernel)
theorem dX12_logLine_60 : decode cX12_logLine 60 = .ok (.aload_n 0, 1) := zo_42 (by decide +kernel)
theorem dX12_logLine_61 : decode cX12_logLine 61 = .ok (.iconst 0, 1) := zo_3 (by decide +kernel)
theorem dX12_logLine_62 : decode cX12_logLine 62 = .ok (.bipush 6, 2) := zo_16 (by decide +kernel)
theorem dX12_logLine_64 : decode cX12_logLine 64 = .ok (.invokevirtual 122, 3) := zo_182 (by decide +kernel)
theorem dX12_logLine_67 : decode cX12_logLine 67 = .ok (.goto 4, 3) := zo_167 (by decide +kernel)
theorem dX12_logLine_70 : decode cX12_logLine 70 = .ok (.iconst (-1), 1) := zo_2 (by decide +kernel)
theorem dX12_logLine_71 : decode cX12_logLine 71 = .ok (.istore 4, 2) := zo_54 (by decide +kernel)
theorem dX12_logLine_73 : decode cX12_logLine 73 = .ok (.aload_n 0, 1) := zo_42 (by decide +kernel)
theorem dX12_logLine_74 : decode cX12_logLine 74 = .ok (.getfield 17, 3) := zo_180 (by decide +kernel)
theorem dX12_logLine_77 : decode cX12_logLine 77 = .ok (.iconst 0, 1) := zo_3 (by decide +kernel)
theorem dX12_logLine_78 : decode cX12_logLine 78 = .ok (.iaload, 1) := zo_46 (by decide +kernel)
theorem dX12_logLine_79 : decode cX12_logLine 79 = .ok (.bipush 8, 2) := zo_16 (by decide +kernel)
theorem dX12_logLine_81 : decode cX12_logLine 81 = .ok (.if_icmp .ge 46, 3) := zo_162 (by decide +kernel)
theorem dX12_logLine_84 : decode cX12_logLine 84 = .ok (.aload_n 0, 1) := zo_42 (by decide +kernel)
theorem dX12_logLine_85 : decode cX12_logLine 85 = .ok (.getfield 17, 3) := zo_180 (by decide +kernel)
theorem dX12_logLine_88 : decode cX12_logLine 88 = .ok (.iconst 1, 1) := zo_4 (by decide +kernel)
theorem dX12_logLine_89 : decode cX12_logLine 89 = .ok (.iconst 2, 1) := zo_5 (by decide +kernel)
theorem dX12_logLine_90 : decode cX12_logLine 90 = .ok (.aload_n 0, 1) := zo_42 (by decide +kernel)
theorem dX12_logLine_91 : decode cX12_logLine 91 = .ok (.getfield 17, 3) := zo_180 (by decide +kernel)
theorem dX12_logLine_94 : decode cX12_logLine 94 = .ok (.iconst 0, 1) := zo_3 (by decide +kernel)
theorem dX12_logLine_95 : decode cX12_logLine 95 = .ok (.iaload, 1) := zo_46 (by decide +kernel)
theorem dX12_logLine_96 : decode cX12_logLine 96 = .ok (.imul, 1) := zo_104 (by decide +kernel)
theorem dX12_logLine_97 : decode cX12_logLine 97 = .ok (.iadd, 1) := zo_96 (by decide +kernel)
theorem dX12_logLine_98 : decode cX12_logLine 98 = .ok (.iload_n 3, 1) := zo_29 (by decide +kernel)
theorem dX12_logLine_99 : decode cX12_logLine 99 = .ok (.iastore, 1) := zo_79 (by decide +kernel)
theorem dX12_logLine_100 : decode cX12_logLine 100 = .ok (.aload_n 0, 1) := zo_42 (by decide +kernel)
theorem dX12_logLine_101 : decode cX12_logLine 101 = .ok (.getfield 17, 3) := zo_180 (by decide +kernel)
theorem dX12_logLine_104 : decode cX12_logLine 104 = .ok (.iconst 2, 1) := zo_5 (by decide +kernel)
theorem dX12_logLine_105 : decode cX12_logLine 105 = .ok (.iconst 2, 1) := zo_5 (by decide +kernel)
theorem dX12_logLine_106 : decode cX12_logLine 106 = .ok (.aload_n 0, 1) := zo_42 (by decide +kernel)
theorem dX12_logLine_107 : decode cX12_logLine 107 = .ok (.getfield 17, 3) := zo_180 (by decide +kernel)
theorem dX12_logLine_110 : decode cX12_logLine 110 = .ok (.iconst 0, 1) := zo_3 (by decide +kernel)
theorem dX12_logLine_111 : decode cX12_logLine 111 = .ok (.iaload, 1) := zo_46 (by decide +kernel)
theorem dX12_logLine_112 : decode cX12_logLine 112 = .ok (.imul, 1) := zo_104 (by decide +kernel)
theorem dX12_logLine_113 : decode cX12_logLine 113 = .ok (.iadd, 1) := zo_96 (by decide +kernel)
theorem dX12_logLine_114 : decode cX12_logLine 114 = .ok (.iload 4, 2) := zo_21 (by decide +kernel)
theorem dX12_logLine_116 : decode cX12_logLine 116 = .ok (.iastore, 1) := zo_79 (by decide +kernel)
theorem dX12_logLine_117 : decode cX12_logLine 117 = .ok (.aload_n 0, 1) := zo_42 (by decide +kernel)
theorem dX12_logLine_118 : decode cX12_logLine 118 = .ok (.getfield 17, 3) := zo_180 (by decide +kernel)
theorem dX12_logLine_121 : decode cX12_logLine 121 = .ok (.iconst 0, 1) := zo_3 (by decide +kernel)
theorem dX12_logLine_122 : decode cX12_logLine 122 = .ok (.dup2, 1) := zo_92 (by decide +kernel)
theorem dX12_logLine_123 : decode cX12_logLine 123 = .ok (.iaload, 1) := zo_46 (by decide +kernel)
theorem dX12_logLine_124 : decode cX12_logLine 124 = .ok (.iconst 1, 1) := zo_4 (by decide +kernel)
theorem dX12_logLine_125 : decode cX12_logLine 125 = .ok (.iadd, 1) := zo_96 (by decide +kernel)
theorem dX12_logLine_126 : decode cX12_logLine 126 = .ok (.iastore, 1) := zo_79 (by decide +kernel)
theorem dX12_logLine_127 : decode cX12_logLine 127 = .ok (.aload_n 0, 1) := zo_42 (by decide +kernel)
theorem dX12_logLine_128 : decode cX12_logLine 128 = .ok (.invokevirtual 140, 3) := zo_182 (by decide +kernel)
theorem dX12_logLine_131 : decode cX12_logLine 131 = .ok (.return_, 1) := zo_177 (by decide +kernel)
theorem dX12_placeOf_0 : decode cX12_placeOf 0 = .ok (.iload_n 0, 1) := zo_26 (by decide +kernel)
theorem dX12_placeOf_1 : decode cX12_placeOf 1 = .ok (.ifCond .ne 14, 3) := zo_154 (by decide +kernel)
theorem dX12_placeOf_4 : decode cX12_placeOf 4 = .ok (.sipush 610, 3) := zo_17 (by decide +kernel)
theorem dX12_placeOf_7 : decode cX12_placeOf 7 = .ok (.bipush 51, 2) := zo_16 (by decide +kernel)
theorem dX12_placeOf_9 : decode cX12_placeOf 9 = .ok (.iload_n 1, 1) := zo_27 (by decide +kernel)
theorem dX12_placeOf_10 : decode cX12_placeOf 10 = .ok (.imul, 1) := zo_104 (by decide +kernel)
theorem dX12_placeOf_11 : decode cX12_placeOf 11 = .ok (.iadd, 1) := zo_96 (by decide +kernel)
theorem dX12_placeOf_12 : decode cX12_placeOf 12 = .ok (.goto 27, 3) := zo_167 (by decide +kernel)
theorem dX12_placeOf_15 : decode cX12_placeOf 15 = .ok (.iload_n 0, 1) := zo_26 (by decide +kernel)
theorem dX12_placeOf_16 : decode cX12_placeOf 16 = .ok (.iconst 1, 1) := zo_4 (by decide +kernel)
theorem dX12_placeOf_17 : decode cX12_placeOf 17 = .ok (.if_icmp .ne 14, 3) := zo_160 (by decide +kernel)
theorem dX12_placeOf_20 : decode cX12_placeOf 20 = .ok (.sipush 712, 3) := zo_17 (by decide +kernel)
theorem dX12_placeOf_23 : decode cX12_placeOf 23 = .ok (.bipush 121, 2) := zo_16 (by decide +kernel)
theorem dX12_placeOf_25 : decode cX12_placeOf 25 = .ok (.iload_n 1, 1) := zo_27 (by decide +kernel)
theorem dX12_placeOf_26 : decode cX12_placeOf 26 = .ok (.imul, 1) := zo_104 (by decide +kernel)
theorem dX12_placeOf_27 : decode cX12_placeOf 27 = .ok (.iadd, 1) := zo_96 (by decide +kernel)
theorem dX12_placeOf_28 : decode cX12_placeOf 28 = .ok (.goto 11, 3) := zo_167 (by decide +kernel)
theorem dX12_placeOf_31 : decode cX12_placeOf 31 = .ok (.sipush 954, 3) := zo_17 (by decide +kernel)
theorem dX12_placeOf_34 : decode cX12_placeOf 34 = .ok (.bipush 17, 2) := zo_16 (by decide +kernel)
theorem dX12_placeOf_36 : decode cX12_placeOf 36 = .ok (.iload_n 1, 1) := zo_27 (by decide +kernel)
theorem dX12_placeOf_37 : decode cX12_placeOf 37 = .ok (.imul, 1) := zo_104 (by decide +kernel)
theorem dX12_placeOf_38 : decode cX12_placeOf 38 = .ok (.iadd, 1) := zo_96 (by decide +kernel)
theorem dX12_placeOf_39 : decode cX12_placeOf 39 = .ok (.ireturn, 1) := zo_172 (by decide +kernel)
theorem dX12_sizeOf_0 : decode cX12_sizeOf 0 = .ok (.iload_n 0, 1) := zo_26 (by decide +kernel)
theorem dX12_sizeOf_1 : decode cX12_sizeOf 1 = .ok (.ifCond .ne 8, 3) := zo_154 (by decide +kernel)
theorem dX12_sizeOf_4 : decode cX12_sizeOf 4 = .ok (.bipush 51, 2) := zo_16 (by decide +kernel)
theorem dX12_sizeOf_6 : decode cX12_sizeOf 6 = .ok (.goto 15, 3) := zo_167 (by decide +kernel)
theorem dX12_sizeOf_9 : decode cX12_sizeOf 9 = .ok (.iload_n 0, 1) := zo_26 (by decide +kernel)
theorem dX12_sizeOf_10 : decode cX12_sizeOf 10 = .ok (.iconst 1, 1) := zo_4 (by decide +kernel)
theorem dX12_sizeOf_11 : decode cX12_sizeOf 11 = .ok (.if_icmp .ne 8, 3) := zo_160 (by decide +kernel)
theorem dX12_sizeOf_14 : decode cX12_sizeOf 14 = .ok (.bipush 121, 2) := zo_16 (by decide +kernel)
theorem dX12_sizeOf_16 : decode cX12_sizeOf 16 = .ok (.goto 5, 3) := zo_167 (by decide +kernel)
theorem dX12_sizeOf_19 : decode cX12_sizeOf 19 = .ok (.bipush 17, 2) := zo_16 (by decide +kernel)
theorem dX12_sizeOf_21 : decode cX12_sizeOf 21 = .ok (.ireturn, 1) := zo_172 (by decide +kernel)
theorem dX12_isOf_0 : decode cX12_isOf 0 = .ok (.iload_n 2, 1) := zo_28 (by decide +kernel)
theorem dX12_isOf_1 : decode cX12_isOf 1 = .ok (.iconst 0, 1) := zo_3 (by decide +kernel)
theorem dX12_isOf_2 : decode cX12_isOf 2 = .ok (.aload_n 0, 1) := zo_42 (by decide +kernel)
theorem dX12_isOf_3 : decode cX12_isOf 3 = .ok (.getfield 7, 3) := zo_180 (by decide +kernel)
theorem dX12_isOf_6 : decode cX12_isOf 6 = .ok (.iload_n 1, 1) := zo_27 (by decide +kernel)
theorem dX12_isOf_7 : decode cX12_isOf 7 = .ok (.iaload, 1) := zo_46 (by decide +kernel)
theorem dX12_isOf_8 : decode cX12_isOf 8 = .ok (.iconst 1, 1) := zo_4 (by decide +kernel)
theorem dX12_isOf_9 : decode cX12_isOf 9 = .ok (.isub, 1) := zo_100 (by decide +kernel)
theorem dX12_isOf_10 : decode cX12_isOf 10 = .ok (.invokestatic 111, 3) := zo_184 (by decide +kernel)
theorem dX12_isOf_13 : decode cX12_isOf 13 = .ok (.ireturn, 1) := zo_172 (by decide +kernel)
theorem dX12_postsAreThere_0 : decode cX12_postsAreThere 0 = .ok (.iconst 1, 1) := zo_4 (by decide +kernel)
theorem dX12_postsAreThere_1 : decode cX12_postsAreThere 1 = .ok (.istore_n 1, 1) := zo_60 (by decide +kernel)
theorem dX12_postsAreThere_2 : decode cX12_postsAreThere 2 = .ok (.iconst 0, 1) := zo_3 (by decide +kernel)
theorem dX12_postsAreThere_3 : decode cX12_postsAreThere 3 = .ok (.istore_n 2, 1) := zo_61 (by decide +kernel)
theorem dX12_postsAreThere_4 : decode cX12_postsAreThere 4 = .ok (.iload_n 2, 1) := zo_28 (by decide +kernel)
theorem dX12_postsAreThere_5 : decode cX12_postsAreThere 5 = .ok (.bipush 7, 2) := zo_16 (by decide +kernel)
theorem dX12_postsAreThere_7 : decode cX12_postsAreThere 7 = .ok (.if_icmp .ge 51, 3) := zo_162 (by decide +kernel)
theorem dX12_postsAreThere_10 : decode cX12_postsAreThere 10 = .ok (.iload_n 1, 1) := zo_27 (by decide +kernel)
theorem dX12_postsAreThere_11 : decode cX12_postsAreThere 11 = .ok (.ifCond .eq 39, 3) := zo_153 (by decide +kernel)
theorem dX12_postsAreThere_14 : decode cX12_postsAreThere 14 = .ok (.aload_n 0, 1) := zo_42 (by decide +kernel)
theorem dX12_postsAreThere_15 : decode cX12_postsAreThere 15 = .ok (.getfield 17, 3) := zo_180 (by decide +kernel)
theorem dX12_postsAreThere_18 : decode cX12_postsAreThere 18 = .ok (.bipush 9, 2) := zo_16 (by decide +kernel)
theorem dX12_postsAreThere_20 : decode cX12_postsAreThere 20 = .ok (.iload_n 2, 1) := zo_28 (by decide +kernel)
theorem dX12_postsAreThere_21 : decode cX12_postsAreThere 21 = .ok (.iadd, 1) := zo_96 (by decide +kernel)
theorem dX12_postsAreThere_22 : decode cX12_postsAreThere 22 = .ok (.iaload, 1) := zo_46 (by decide +kernel)
theorem dX12_postsAreThere_23 : decode cX12_postsAreThere 23 = .ok (.ifCond .eq 23, 3) := zo_153 (by decide +kernel)
theorem dX12_postsAreThere_26 : decode cX12_postsAreThere 26 = .ok (.aload_n 0, 1) := zo_42 (by decide +kernel)
theorem dX12_postsAreThere_27 : decode cX12_postsAreThere 27 = .ok (.getfield 17, 3) := zo_180 (by decide +kernel)
theorem dX12_postsAreThere_30 : decode cX12_postsAreThere 30 = .ok (.bipush 9, 2) := zo_16 (by decide +kernel)
theorem dX12_postsAreThere_32 : decode cX12_postsAreThere 32 = .ok (.iload_n 2, 1) := zo_28 (by decide +kernel)
theorem dX12_postsAreThere_33 : decode cX12_postsAreThere 33 = .ok (.iadd, 1) := zo_96 (by decide +kernel)
theorem dX12_postsAreThere_34 : decode cX12_postsAreThere 34 = .ok (.iaload, 1) := zo_46 (by decide +kernel)
theorem dX12_postsAreThere_35 : decode cX12_postsAreThere 35 = .ok (.aload_n 0, 1) := zo_42 (by decide +kernel)
theorem dX12_postsAreThere_36 : decode cX12_postsAreThere 36 = .ok (.getfield 17, 3) := zo_180 (by decide +kernel)
theorem dX12_postsAreThere_39 : decode cX12_postsAreThere 39 = .ok (.iconst 2, 1) := zo_5 (by decide +kernel)
theorem dX12_postsAreThere_40 : decode cX12_postsAreThere 40 = .ok (.iload_n 2, 1) := zo_28 (by decide +kernel)
theorem dX12_postsAreThere_41 : decode cX12_postsAreThere 41 = .ok (.iadd, 1) := zo_96 (by decide +kernel)
theorem dX12_postsAreThere_42 : decode cX12_postsAreThere 42 = .ok (.iaload, 1) := zo_46 (by decide +kernel)
theorem dX12_postsAreThere_43 : decode cX12_postsAreThere 43 = .ok (.if_icmp .ge 7, 3) := zo_162 (by decide +kernel)
theorem dX12_postsAreThere_46 : decode cX12_postsAreThere 46 = .ok (.iconst 1, 1) := zo_4 (by decide +kernel)
theorem dX12_postsAreThere_47 : decode cX12_postsAreThere 47 = .ok (.goto 4, 3) := zo_167 (by decide +kernel)
theorem dX12_postsAreThere_50 : decode cX12_postsAreThere 50 = .ok (.iconst 0, 1) := zo_3 (by decide +kernel)
theorem dX12_postsAreThere_51 : decode cX12_postsAreThere 51 = .ok (.istore_n 1, 1) := zo_60 (by decide +kernel)
theorem dX12_postsAreThere_52 : decode cX12_postsAreThere 52 = .ok (.iinc 2 1, 3) := zo_132 (by decide +kernel)
theorem dX12_postsAreThere_55 : decode cX12_postsAreThere 55 = .ok (.goto (-51), 3) := zo_167 (by decide +kernel)
theorem dX12_postsAreThere_58 : decode cX12_postsAreThere 58 = .ok (.iload_n 1, 1) := zo_27 (by decide +kernel)
theorem dX12_postsAreThere_59 : decode cX12_postsAreThere 59 = .ok (.ireturn, 1) := zo_172 (by decide +kernel)

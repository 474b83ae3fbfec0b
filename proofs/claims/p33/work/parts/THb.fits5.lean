set_option maxHeartbeats 4000000 in
set_option maxRecDepth 100000 in
/-- c_k_fits -/
theorem c_k_fits (l : Launch) (T : zTy) (xo : Nat) (t : Nat) (im : Nat) (mk : Nat) (rd : Nat) (po : Nat) (co : Nat) (tr : Nat) (wa : Nat) (wb_ : Nat) (fi : Nat) (cd : Nat) (l0 : Nat) (l1 : Nat) (d0 : Nat) (d1 : Nat) (g0 : Nat) (g1 : Nat) (ln : Int32) (fl : Int32) (pl : Int32) (ft : Nat → Int32) (fk : Nat → Int32) (wt : va_W) (cr0_ : Int32) (inn0_ : Int32) (k10_ : Nat → Int32) (k20_ : Nat → Int32) (k30_ : Nat → Int32) (k40_ : Nat → Int32) (z0_ : va_W) (cr1_ : Int32) (inn1_ : Int32) (k11_ : Nat → Int32) (k21_ : Nat → Int32) (k31_ : Nat → Int32) (k41_ : Nat → Int32) (z1_ : va_W) (gg0_ : Int32) (q10_ : Nat → Int32) (q20_ : Nat → Int32) (wg0_ : va_W) (gg1_ : Int32) (q11_ : Nat → Int32) (q21_ : Nat → Int32) (wg1_ : va_W) (laA : Nat) (mdA : Int32) (wyA : Int32) (pc_A : Int32) (f1A : Nat → Int32) (f2A : Nat → Int32) (f3A : Nat → Int32) (f4A : Nat → Int32) (f5A : Nat → Int32) (f6A : Nat → Int32) (n4A : Nat) (wwA : va_W) (laB : Nat) (mdB : Int32) (wyB : Int32) (pc_B : Int32) (f1B : Nat → Int32) (f2B : Nat → Int32) (f3B : Nat → Int32) (f4B : Nat → Int32) (f5B : Nat → Int32) (f6B : Nat → Int32) (n4B : Nat) (wwB : va_W) (e0f : Int32) (e1f : Int32) (e2f : Int32) (e3f : Int32) (e4f : Int32) (e5f : Int32) (r1f : Nat → Int32) (m1f : Nat) (r2f : Nat → Int32) (wff : va_W) (i1 : Int32) (i2 : Int32) (w_ : Int32) (ht : bTold T t l0 l1 d0 d1 g0 g1 ln fl pl ft fk wt) (hK : zKT fk) (hz0_ : bLand T l0 cr0_ inn0_ k10_ k20_ k30_ k40_ z0_) (hI0_ : zLI cr0_ k10_ k30_) (hz1_ : bLand T l1 cr1_ inn1_ k11_ k21_ k31_ k41_ z1_) (hI1_ : zLI cr1_ k11_ k31_) (hg0_ : bLog T g0 gg0_ q10_ q20_ wg0_) (hg1_ : bLog T g1 gg1_ q11_ q21_ wg1_) (hwwA : bWays T wa laA mdA wyA pc_A f1A f2A f3A f4A f5A f6A n4A wwA) (hpwA : zPw n4A) (hmdA : mdA = 0 ∨ laA = l0) (hwmA : 0 ≤ wyA.toInt ∧ wyA.toInt ≤ 16384) (hTbA : mdA = 0 ∨ zTab cr0_ inn0_ k10_ k20_ wyA pc_A f1A f2A f5A n4A) (hLq0 : zLq cr0_ k10_ k20_) (hwwB : bWays T wb_ laB mdB wyB pc_B f1B f2B f3B f4B f5B f6B n4B wwB) (hpwB : zPw n4B) (hmdB : mdB = 0 ∨ laB = l1) (hwmB : 0 ≤ wyB.toInt ∧ wyB.toInt ≤ 16384) (hTbB : mdB = 0 ∨ zTab cr1_ inn1_ k11_ k21_ wyB pc_B f1B f2B f5B n4B) (hLq1 : zLq cr1_ k11_ k21_) (hwff : bFit T fi e0f e1f e2f e3f e4f e5f r1f m1f r2f wff) (hfw : zFw m1f) (hf3 : 0 ≤ e3f.toInt) (hFI : (¬ e0f = 0 → e1f.toInt = 0 ∧ ¬ mdA = 0 ∨ e1f.toInt = 1 ∧ ¬ mdB = 0)) (hFt00 : (¬ e0f = 0 → e1f.toInt = 0 → e2f.toInt = 0 → gFt (fun w => gF (aW cr0_ inn0_ k10_) k20_ cr0_ inn0_ q10_ q20_ w gg0_.toInt.toNat) (aPr (aW cr0_ inn0_ k10_) 7) e3f e4f e5f r1f m1f)) (hFt01 : (¬ e0f = 0 → e1f.toInt = 0 → e2f.toInt = 1 → gFt (fun w => gF (aW cr0_ inn0_ k10_) k20_ cr0_ inn0_ q11_ q21_ w gg1_.toInt.toNat) (aPr (aW cr0_ inn0_ k10_) 7) e3f e4f e5f r1f m1f)) (hFt10 : (¬ e0f = 0 → e1f.toInt = 1 → e2f.toInt = 0 → gFt (fun w => gF (aW cr1_ inn1_ k11_) k21_ cr1_ inn1_ q10_ q20_ w gg0_.toInt.toNat) (aPr (aW cr1_ inn1_ k11_) 7) e3f e4f e5f r1f m1f)) (hFt11 : (¬ e0f = 0 → e1f.toInt = 1 → e2f.toInt = 1 → gFt (fun w => gF (aW cr1_ inn1_ k11_) k21_ cr1_ inn1_ q11_ q21_ w gg1_.toInt.toNat) (aPr (aW cr1_ inn1_ k11_) 7) e3f e4f e5f r1f m1f)) (hGg0 : 0 ≤ gg0_.toInt ∧ gg0_.toInt ≤ 8) (hGg1 : 0 ≤ gg1_.toInt ∧ gg1_.toInt ≤ 8) : zMi l T yX11_fits cX11_fits 7 (some .int) 8 7 (6 * (zNA (i1.toInt = 0 ∧ 0 < (fk 0).toInt ∧ (0 ≤ i2.toInt ∧ i2.toInt < (fk 2).toInt ∧ i2.toInt < 2) ∧ (e0f.toInt = 0 ∨ ¬ e1f.toInt = i1.toInt ∨ ¬ e2f.toInt = i2.toInt)) mdA n4A (zPl cr0_ inn0_ k10_) - n4A) + 6 * (zNA (i1.toInt = 1 ∧ 1 < (fk 0).toInt ∧ (0 ≤ i2.toInt ∧ i2.toInt < (fk 2).toInt ∧ i2.toInt < 2) ∧ (e0f.toInt = 0 ∨ ¬ e1f.toInt = i1.toInt ∨ ¬ e2f.toInt = i2.toInt)) mdB n4B (zPl cr1_ inn1_ k11_) - n4B) + 2 * (zNF (i1.toInt = 1 ∧ 1 < (fk 0).toInt ∧ (0 ≤ i2.toInt ∧ i2.toInt < (fk 2).toInt ∧ i2.toInt < 2) ∧ (e0f.toInt = 0 ∨ ¬ e1f.toInt = i1.toInt ∨ ¬ e2f.toInt = i2.toInt)) (zNF (i1.toInt = 0 ∧ 0 < (fk 0).toInt ∧ (0 ≤ i2.toInt ∧ i2.toInt < (fk 2).toInt ∧ i2.toInt < 2) ∧ (e0f.toInt = 0 ∨ ¬ e1f.toInt = i1.toInt ∨ ¬ e2f.toInt = i2.toInt)) m1f (zMw mdA wyA cr0_ inn0_ k10_)) (zMw mdB wyB cr1_ inn1_ k11_) - m1f)) [.ref xo, .int i1, .int i2, .int w_] [[zO10 xo t im mk rd po co tr wa wb_ fi cd], wt, z0_, z1_, wg0_, wg1_, wwA, wwB, wff] (fun (r : Int32) bs => ∃ (laA_2 : Nat) (mdA_2 : Int32) (wyA_2 : Int32) (pc_A_2 : Int32) (f1A_2 : Nat → Int32) (f2A_2 : Nat → Int32) (f3A_2 : Nat → Int32) (f4A_2 : Nat → Int32) (f5A_2 : Nat → Int32) (f6A_2 : Nat → Int32) (n4A_2 : Nat) (wwA_2 : va_W) (laB_2 : Nat) (mdB_2 : Int32) (wyB_2 : Int32) (pc_B_2 : Int32) (f1B_2 : Nat → Int32) (f2B_2 : Nat → Int32) (f3B_2 : Nat → Int32) (f4B_2 : Nat → Int32) (f5B_2 : Nat → Int32) (f6B_2 : Nat → Int32) (n4B_2 : Nat) (wwB_2 : va_W) (e0f_2 : Int32) (e1f_2 : Int32) (e2f_2 : Int32) (e3f_2 : Int32) (e4f_2 : Int32) (e5f_2 : Int32) (r1f_2 : Nat → Int32) (m1f_2 : Nat) (r2f_2 : Nat → Int32) (wff_2 : va_W), bs = [[zO10 xo t im mk rd po co tr wa wb_ fi cd], wt, z0_, z1_, wg0_, wg1_, wwA_2, wwB_2, wff_2] ∧ bWays T wa laA_2 mdA_2 wyA_2 pc_A_2 f1A_2 f2A_2 f3A_2 f4A_2 f5A_2 f6A_2 n4A_2 wwA_2 ∧ (mdA_2 = 0 ∨ laA_2 = l0) ∧ (0 ≤ wyA_2.toInt ∧ wyA_2.toInt ≤ 16384) ∧ n4A_2 = zNA (i1.toInt = 0 ∧ 0 < (fk 0).toInt ∧ (0 ≤ i2.toInt ∧ i2.toInt < (fk 2).toInt ∧ i2.toInt < 2) ∧ (e0f.toInt = 0 ∨ ¬ e1f.toInt = i1.toInt ∨ ¬ e2f.toInt = i2.toInt)) mdA n4A (zPl cr0_ inn0_ k10_) ∧ zPw n4A_2 ∧ (¬ mdA = 0 → ¬ mdA_2 = 0) ∧ (mdA_2 = 0 ∨ zTab cr0_ inn0_ k10_ k20_ wyA_2 pc_A_2 f1A_2 f2A_2 f5A_2 n4A_2) ∧ bWays T wb_ laB_2 mdB_2 wyB_2 pc_B_2 f1B_2 f2B_2 f3B_2 f4B_2 f5B_2 f6B_2 n4B_2 wwB_2 ∧ (mdB_2 = 0 ∨ laB_2 = l1) ∧ (0 ≤ wyB_2.toInt ∧ wyB_2.toInt ≤ 16384) ∧ n4B_2 = zNA (i1.toInt = 1 ∧ 1 < (fk 0).toInt ∧ (0 ≤ i2.toInt ∧ i2.toInt < (fk 2).toInt ∧ i2.toInt < 2) ∧ (e0f.toInt = 0 ∨ ¬ e1f.toInt = i1.toInt ∨ ¬ e2f.toInt = i2.toInt)) mdB n4B (zPl cr1_ inn1_ k11_) ∧ zPw n4B_2 ∧ (¬ mdB = 0 → ¬ mdB_2 = 0) ∧ (mdB_2 = 0 ∨ zTab cr1_ inn1_ k11_ k21_ wyB_2 pc_B_2 f1B_2 f2B_2 f5B_2 n4B_2) ∧ bFit T fi e0f_2 e1f_2 e2f_2 e3f_2 e4f_2 e5f_2 r1f_2 m1f_2 r2f_2 wff_2 ∧ m1f_2 = zNF (i1.toInt = 1 ∧ 1 < (fk 0).toInt ∧ (0 ≤ i2.toInt ∧ i2.toInt < (fk 2).toInt ∧ i2.toInt < 2) ∧ (e0f.toInt = 0 ∨ ¬ e1f.toInt = i1.toInt ∨ ¬ e2f.toInt = i2.toInt)) (zNF (i1.toInt = 0 ∧ 0 < (fk 0).toInt ∧ (0 ≤ i2.toInt ∧ i2.toInt < (fk 2).toInt ∧ i2.toInt < 2) ∧ (e0f.toInt = 0 ∨ ¬ e1f.toInt = i1.toInt ∨ ¬ e2f.toInt = i2.toInt)) m1f (zMw mdA wyA cr0_ inn0_ k10_)) (zMw mdB wyB cr1_ inn1_ k11_) ∧ zFw m1f_2 ∧ 0 ≤ e3f_2.toInt ∧ (¬ e0f_2 = 0 → e1f_2.toInt = 0 ∧ ¬ mdA_2 = 0 ∨ e1f_2.toInt = 1 ∧ ¬ mdB_2 = 0) ∧ (¬ e0f_2 = 0 → e1f_2.toInt = 0 → e2f_2.toInt = 0 → gFt (fun w => gF (aW cr0_ inn0_ k10_) k20_ cr0_ inn0_ q10_ q20_ w gg0_.toInt.toNat) (aPr (aW cr0_ inn0_ k10_) 7) e3f_2 e4f_2 e5f_2 r1f_2 m1f_2) ∧ (¬ e0f_2 = 0 → e1f_2.toInt = 0 → e2f_2.toInt = 1 → gFt (fun w => gF (aW cr0_ inn0_ k10_) k20_ cr0_ inn0_ q11_ q21_ w gg1_.toInt.toNat) (aPr (aW cr0_ inn0_ k10_) 7) e3f_2 e4f_2 e5f_2 r1f_2 m1f_2) ∧ (¬ e0f_2 = 0 → e1f_2.toInt = 1 → e2f_2.toInt = 0 → gFt (fun w => gF (aW cr1_ inn1_ k11_) k21_ cr1_ inn1_ q10_ q20_ w gg0_.toInt.toNat) (aPr (aW cr1_ inn1_ k11_) 7) e3f_2 e4f_2 e5f_2 r1f_2 m1f_2) ∧ (¬ e0f_2 = 0 → e1f_2.toInt = 1 → e2f_2.toInt = 1 → gFt (fun w => gF (aW cr1_ inn1_ k11_) k21_ cr1_ inn1_ q11_ q21_ w gg1_.toInt.toNat) (aPr (aW cr1_ inn1_ k11_) 7) e3f_2 e4f_2 e5f_2 r1f_2 m1f_2)) := by
  refine zMi_of (own := RX11) (by decide) rfl (Nat.le_of_ble_eq_true rfl) ?_
  intro p e s m args below meth c A ls C hr hlocks hnm hAe G hl
  refine zHide (fun Qz_ hQz_ => ?_)
  have hx := C.1
  have hb := C.2.1
  replace hmdA : zHd (mdA = 0 ∨ laA = l0) := hmdA
  replace hTbA : zHd (mdA = 0 ∨ zTab cr0_ inn0_ k10_ k20_ wyA pc_A f1A f2A f5A n4A) := hTbA
  replace hmdB : zHd (mdB = 0 ∨ laB = l1) := hmdB
  replace hTbB : zHd (mdB = 0 ∨ zTab cr1_ inn1_ k11_ k21_ wyB pc_B f1B f2B f5B n4B) := hTbB
  replace hFI : zHd ((¬ e0f = 0 → e1f.toInt = 0 ∧ ¬ mdA = 0 ∨ e1f.toInt = 1 ∧ ¬ mdB = 0)) := hFI
  have hl : lv_has ls 7 [(0, .ref xo), (1, .int i1), (2, .int i2), (3, .int w_)] := hl
  refine lv_aload_n hx hb dX11_fits_0 rfl (lv_at hl 0 rfl) ?_
  refine z_get C G clX11 0 rfl 0 (by decide) m_fl_RX11_10 rfl dX11_fits_1 ?_
  refine lv_iload_n hx hb dX11_fits_4 rfl (lv_at hl 1 rfl) ?_
  refine z_Vq (bc := [wt]) (br := [[zO10 xo t im mk rd po co tr wa wb_ fi cd], z0_, z1_, wg0_, wg1_, wwA, wwB, wff]) (As := [.int i1]) (rest := []) C G (c_landAt l T t l0 l1 d0 d1 g0 g1 ln fl pl ft fk wt i1 ht) (kV_RX11_121 C.2.2.2.2 (Nat.le_of_ble_eq_true rfl) (Nat.le_of_ble_eq_true rfl)) [1] [1] rfl rfl (ci := 8) (qc := (RX9, TX9, 8)) rfl rfl (List.mem_flatten.mpr ⟨_, List.mem_of_getElem? (i := 0) rfl, (bTold_mem ht).choose_spec⟩) rfl rfl hl.1 dX11_fits_5 (Nat.le_of_ble_eq_true rfl) (by show _ + 0 ≤ 6 * (zNA (i1.toInt = 0 ∧ 0 < (fk 0).toInt ∧ (0 ≤ i2.toInt ∧ i2.toInt < (fk 2).toInt ∧ i2.toInt < 2) ∧ (e0f.toInt = 0 ∨ ¬ e1f.toInt = i1.toInt ∨ ¬ e2f.toInt = i2.toInt)) mdA n4A (zPl cr0_ inn0_ k10_) - n4A) + 6 * (zNA (i1.toInt = 1 ∧ 1 < (fk 0).toInt ∧ (0 ≤ i2.toInt ∧ i2.toInt < (fk 2).toInt ∧ i2.toInt < 2) ∧ (e0f.toInt = 0 ∨ ¬ e1f.toInt = i1.toInt ∨ ¬ e2f.toInt = i2.toInt)) mdB n4B (zPl cr1_ inn1_ k11_) - n4B) + 2 * (zNF (i1.toInt = 1 ∧ 1 < (fk 0).toInt ∧ (0 ≤ i2.toInt ∧ i2.toInt < (fk 2).toInt ∧ i2.toInt < 2) ∧ (e0f.toInt = 0 ∨ ¬ e1f.toInt = i1.toInt ∨ ¬ e2f.toInt = i2.toInt)) (zNF (i1.toInt = 0 ∧ 0 < (fk 0).toInt ∧ (0 ≤ i2.toInt ∧ i2.toInt < (fk 2).toInt ∧ i2.toInt < 2) ∧ (e0f.toInt = 0 ∨ ¬ e1f.toInt = i1.toInt ∨ ¬ e2f.toInt = i2.toInt)) m1f (zMw mdA wyA cr0_ inn0_ k10_)) (zMw mdB wyB cr1_ inn1_ k11_) - m1f); omega) (fun r_2 b1 H locs hw G => ?_)
  refine zAn2 hw ?_
  intro hbs9 hc_1
  clear hw
  subst hbs9
  have G : zS T A s.heap s [[zO10 xo t im mk rd po co tr wa wb_ fi cd], z0_, z1_, wg0_, wg1_, wwA, wwB, wff, wt] _ _ := G
  rcases hc_1 with ⟨rfl, h_3⟩ | ⟨rfl, h_4, h_5⟩ | ⟨rfl, h_6, h_7⟩
  · have h_3 : (i1.toInt < 0 ∨ (fk 0).toInt ≤ i1.toInt ∨ 2 ≤ i1.toInt) := h_3
    refine lv_astoreN (lv' := [(4, .null), (0, .ref xo), (1, .int i1), (2, .int i2), (3, .int w_)]) hx hb dX11_fits_8 hl (by decide) (zLvf_h rfl) (fun ls hl => ?_)
    refine lv_aload_n hx hb dX11_fits_10 rfl (lv_at hl 1 rfl) ?_
    refine lv_iload_n hx hb dX11_fits_11 rfl (lv_at hl 2 rfl) ?_
    refine lv_iload_n hx hb dX11_fits_12 rfl (lv_at hl 3 rfl) ?_
    refine z_Vi (bc := [[zO10 xo t im mk rd po co tr wa wb_ fi cd], wt, z0_, z1_, wg0_, wg1_, wwA, wwB, wff]) (br := []) (As := [.int i1, .int i2]) (rest := []) C G (c_e_fit l T xo t im mk rd po co tr wa wb_ fi cd l0 l1 d0 d1 g0 g1 ln fl pl ft fk wt cr0_ inn0_ k10_ k20_ k30_ k40_ z0_ cr1_ inn1_ k11_ k21_ k31_ k41_ z1_ gg0_ q10_ q20_ wg0_ gg1_ q11_ q21_ wg1_ laA mdA wyA pc_A f1A f2A f3A f4A f5A f6A n4A wwA laB mdB wyB pc_B f1B f2B f3B f4B f5B f6B n4B wwB e0f e1f e2f e3f e4f e5f r1f m1f r2f wff i1 i2 ht (by first | with_reducible assumption | with_reducible rfl | omega | assumption | rfl) hz0_ (by first | with_reducible assumption | with_reducible rfl | omega | assumption | rfl) hz1_ (by first | with_reducible assumption | with_reducible rfl | omega | assumption | rfl) hg0_ hg1_ hwwA (by first | with_reducible assumption | with_reducible rfl | omega | assumption | rfl) (by first | with_reducible assumption | with_reducible rfl | omega | assumption | rfl) (by first | with_reducible assumption | with_reducible rfl | omega | assumption | rfl) (by first | with_reducible assumption | with_reducible rfl | omega | assumption | rfl) (by first | with_reducible assumption | with_reducible rfl | omega | assumption | rfl) hwwB (by first | with_reducible assumption | with_reducible rfl | omega | assumption | rfl) (by first | with_reducible assumption | with_reducible rfl | omega | assumption | rfl) (by first | with_reducible assumption | with_reducible rfl | omega | assumption | rfl) (by first | with_reducible assumption | with_reducible rfl | omega | assumption | rfl) (by first | with_reducible assumption | with_reducible rfl | omega | assumption | rfl) hwff hfw hf3 hFI hFt00 hFt01 hFt10 hFt11 hGg0 hGg1) (kV_RX11_302 C.2.2.2.2 (Nat.le_of_ble_eq_true rfl) (Nat.le_of_ble_eq_true rfl)) [0, 8, 1, 2, 3, 4, 5, 6, 7] [0, 0, 0, 0, 0, 0, 0, 0, 0] rfl rfl (ci := 10) (qc := (RX11, TX11, 11)) rfl rfl (List.mem_flatten.mpr ⟨_, List.mem_of_getElem? (i := 0) rfl, List.mem_cons_self⟩) rfl rfl hl.1 dX11_fits_13 (Nat.le_of_ble_eq_true rfl) (by show _ + (6 * (zNA (i1.toInt = 0 ∧ 0 < (fk 0).toInt ∧ (0 ≤ i2.toInt ∧ i2.toInt < (fk 2).toInt ∧ i2.toInt < 2) ∧ (e0f.toInt = 0 ∨ ¬ e1f.toInt = i1.toInt ∨ ¬ e2f.toInt = i2.toInt)) mdA n4A (zPl cr0_ inn0_ k10_) - n4A) + 6 * (zNA (i1.toInt = 1 ∧ 1 < (fk 0).toInt ∧ (0 ≤ i2.toInt ∧ i2.toInt < (fk 2).toInt ∧ i2.toInt < 2) ∧ (e0f.toInt = 0 ∨ ¬ e1f.toInt = i1.toInt ∨ ¬ e2f.toInt = i2.toInt)) mdB n4B (zPl cr1_ inn1_ k11_) - n4B) + 2 * (zNF (i1.toInt = 1 ∧ 1 < (fk 0).toInt ∧ (0 ≤ i2.toInt ∧ i2.toInt < (fk 2).toInt ∧ i2.toInt < 2) ∧ (e0f.toInt = 0 ∨ ¬ e1f.toInt = i1.toInt ∨ ¬ e2f.toInt = i2.toInt)) (zNF (i1.toInt = 0 ∧ 0 < (fk 0).toInt ∧ (0 ≤ i2.toInt ∧ i2.toInt < (fk 2).toInt ∧ i2.toInt < 2) ∧ (e0f.toInt = 0 ∨ ¬ e1f.toInt = i1.toInt ∨ ¬ e2f.toInt = i2.toInt)) m1f (zMw mdA wyA cr0_ inn0_ k10_)) (zMw mdB wyB cr1_ inn1_ k11_) - m1f)) ≤ 6 * (zNA (i1.toInt = 0 ∧ 0 < (fk 0).toInt ∧ (0 ≤ i2.toInt ∧ i2.toInt < (fk 2).toInt ∧ i2.toInt < 2) ∧ (e0f.toInt = 0 ∨ ¬ e1f.toInt = i1.toInt ∨ ¬ e2f.toInt = i2.toInt)) mdA n4A (zPl cr0_ inn0_ k10_) - n4A) + 6 * (zNA (i1.toInt = 1 ∧ 1 < (fk 0).toInt ∧ (0 ≤ i2.toInt ∧ i2.toInt < (fk 2).toInt ∧ i2.toInt < 2) ∧ (e0f.toInt = 0 ∨ ¬ e1f.toInt = i1.toInt ∨ ¬ e2f.toInt = i2.toInt)) mdB n4B (zPl cr1_ inn1_ k11_) - n4B) + 2 * (zNF (i1.toInt = 1 ∧ 1 < (fk 0).toInt ∧ (0 ≤ i2.toInt ∧ i2.toInt < (fk 2).toInt ∧ i2.toInt < 2) ∧ (e0f.toInt = 0 ∨ ¬ e1f.toInt = i1.toInt ∨ ¬ e2f.toInt = i2.toInt)) (zNF (i1.toInt = 0 ∧ 0 < (fk 0).toInt ∧ (0 ≤ i2.toInt ∧ i2.toInt < (fk 2).toInt ∧ i2.toInt < 2) ∧ (e0f.toInt = 0 ∨ ¬ e1f.toInt = i1.toInt ∨ ¬ e2f.toInt = i2.toInt)) m1f (zMw mdA wyA cr0_ inn0_ k10_)) (zMw mdB wyB cr1_ inn1_ k11_) - m1f); omega) (fun r_67 b1 H locs hw G => ?_)
    refine zEx34 hw ?_
    intro laA_8 mdA_9 wyA_10 pc_A_11 f1A_12 f2A_13 f3A_14 f4A_15 f5A_16 f6A_17 n4A_18 wwA_19 laB_20 mdB_21 wyB_22 pc_B_23 f1B_24 f2B_25 f3B_26 f4B_27 f5B_28 f6B_29 n4B_30 wwB_31 e0f_32 e1f_33 e2f_34 e3f_35 e4f_36 e5f_37 r1f_38 m1f_39 r2f_40 wff_41
    refine zCu26 ?_
    intro hbs9 h_42 h_43 h_44 h_45 h_46 h_47 h_48 h_49 h_50 h_51 h_52 h_53 h_54 h_55 h_56 h_57 h_58 h_59 h_60 h_61 h_62 h_63 h_64 h_65 h_66
    clear hw
    subst hbs9
    have G : zS T A s.heap s [[zO10 xo t im mk rd po co tr wa wb_ fi cd], wt, z0_, z1_, wg0_, wg1_, wwA_19, wwB_31, wff_41] _ _ := G
    replace h_43 : zHd ((mdA_9 = 0 ∨ laA_8 = l0)) := h_43
    replace h_47 : zHd ((¬ mdA = 0 → ¬ mdA_9 = 0)) := h_47
    replace h_48 : zHd ((mdA_9 = 0 ∨ zTab cr0_ inn0_ k10_ k20_ wyA_10 pc_A_11 f1A_12 f2A_13 f5A_16 n4A_18)) := h_48
    replace h_50 : zHd ((mdB_21 = 0 ∨ laB_20 = l1)) := h_50
    replace h_54 : zHd ((¬ mdB = 0 → ¬ mdB_21 = 0)) := h_54
    replace h_55 : zHd ((mdB_21 = 0 ∨ zTab cr1_ inn1_ k11_ k21_ wyB_22 pc_B_23 f1B_24 f2B_25 f5B_28 n4B_30)) := h_55
    replace h_61 : zHd ((¬ e0f_32 = 0 → e1f_33.toInt = 0 ∧ ¬ mdA_9 = 0 ∨ e1f_33.toInt = 1 ∧ ¬ mdB_21 = 0)) := h_61
    have hfm9 : m1f_39 ≤ 16384 := zFw_le h_58
    refine lv_if_eq (tgt := 28) hx hb dX11_fits_16 (by decide) (fun c_68 => ?_) (fun c_68 => ?_)
    · have c_68n : r_67.toInt = (0 : Int) := (fa_eq _ _).mp c_68
      refine lv_bipush (v := (-2)) hx hb dX11_fits_28 (by decide) ?_
      exact z_back hQz_ (z_iret C hr hlocks G (Nat.le_of_ble_eq_true rfl) (by omega) dX11_fits_30 ⟨laA_8, mdA_9, wyA_10, pc_A_11, f1A_12, f2A_13, f3A_14, f4A_15, f5A_16, f6A_17, n4A_18, wwA_19, laB_20, mdB_21, wyB_22, pc_B_23, f1B_24, f2B_25, f3B_26, f4B_27, f5B_28, f6B_29, n4B_30, wwB_31, e0f_32, e1f_33, e2f_34, e3f_35, e4f_36, e5f_37, r1f_38, m1f_39, r2f_40, wff_41, rfl, h_42, h_43, h_44, h_45, h_46, h_47, h_48, h_49, h_50, h_51, h_52, h_53, h_54, h_55, h_56, h_57, h_58, h_59, h_61, h_62, h_63, h_64, h_65⟩)
    · have c_68n : ¬ r_67.toInt = (0 : Int) := fun q => c_68 ((fa_eq _ _).mpr q)
      refine lv_aloadN hx hb dX11_fits_19 (lv_at hl 0 rfl) ?_
      refine lv_ifnullN (tgt := 28) hx hb dX11_fits_21 (by decide) ?_
      refine lv_bipush (v := (-2)) hx hb dX11_fits_28 (by decide) ?_
      exact z_back hQz_ (z_iret C hr hlocks G (Nat.le_of_ble_eq_true rfl) (by omega) dX11_fits_30 ⟨laA_8, mdA_9, wyA_10, pc_A_11, f1A_12, f2A_13, f3A_14, f4A_15, f5A_16, f6A_17, n4A_18, wwA_19, laB_20, mdB_21, wyB_22, pc_B_23, f1B_24, f2B_25, f3B_26, f4B_27, f5B_28, f6B_29, n4B_30, wwB_31, e0f_32, e1f_33, e2f_34, e3f_35, e4f_36, e5f_37, r1f_38, m1f_39, r2f_40, wff_41, rfl, h_42, h_43, h_44, h_45, h_46, h_47, h_48, h_49, h_50, h_51, h_52, h_53, h_54, h_55, h_56, h_57, h_58, h_59, h_61, h_62, h_63, h_64, h_65⟩)
  · have h_4 : i1.toInt = 0 := h_4
    have h_5 : 0 < (fk 0).toInt := h_5
    refine lv_astore (lv' := [(4, .ref l0), (0, .ref xo), (1, .int i1), (2, .int i2), (3, .int w_)]) hx hb dX11_fits_8 hl (by decide) (zLvf_h rfl) (fun ls hl => ?_)
    refine lv_aload_n hx hb dX11_fits_10 rfl (lv_at hl 1 rfl) ?_
    refine lv_iload_n hx hb dX11_fits_11 rfl (lv_at hl 2 rfl) ?_
    refine lv_iload_n hx hb dX11_fits_12 rfl (lv_at hl 3 rfl) ?_
    refine z_Vi (bc := [[zO10 xo t im mk rd po co tr wa wb_ fi cd], wt, z0_, z1_, wg0_, wg1_, wwA, wwB, wff]) (br := []) (As := [.int i1, .int i2]) (rest := []) C G (c_e_fit l T xo t im mk rd po co tr wa wb_ fi cd l0 l1 d0 d1 g0 g1 ln fl pl ft fk wt cr0_ inn0_ k10_ k20_ k30_ k40_ z0_ cr1_ inn1_ k11_ k21_ k31_ k41_ z1_ gg0_ q10_ q20_ wg0_ gg1_ q11_ q21_ wg1_ laA mdA wyA pc_A f1A f2A f3A f4A f5A f6A n4A wwA laB mdB wyB pc_B f1B f2B f3B f4B f5B f6B n4B wwB e0f e1f e2f e3f e4f e5f r1f m1f r2f wff i1 i2 ht (by first | with_reducible assumption | with_reducible rfl | omega | assumption | rfl) hz0_ (by first | with_reducible assumption | with_reducible rfl | omega | assumption | rfl) hz1_ (by first | with_reducible assumption | with_reducible rfl | omega | assumption | rfl) hg0_ hg1_ hwwA (by first | with_reducible assumption | with_reducible rfl | omega | assumption | rfl) (by first | with_reducible assumption | with_reducible rfl | omega | assumption | rfl) (by first | with_reducible assumption | with_reducible rfl | omega | assumption | rfl) (by first | with_reducible assumption | with_reducible rfl | omega | assumption | rfl) (by first | with_reducible assumption | with_reducible rfl | omega | assumption | rfl) hwwB (by first | with_reducible assumption | with_reducible rfl | omega | assumption | rfl) (by first | with_reducible assumption | with_reducible rfl | omega | assumption | rfl) (by first | with_reducible assumption | with_reducible rfl | omega | assumption | rfl) (by first | with_reducible assumption | with_reducible rfl | omega | assumption | rfl) (by first | with_reducible assumption | with_reducible rfl | omega | assumption | rfl) hwff hfw hf3 hFI hFt00 hFt01 hFt10 hFt11 hGg0 hGg1) (kV_RX11_302 C.2.2.2.2 (Nat.le_of_ble_eq_true rfl) (Nat.le_of_ble_eq_true rfl)) [0, 8, 1, 2, 3, 4, 5, 6, 7] [0, 0, 0, 0, 0, 0, 0, 0, 0] rfl rfl (ci := 10) (qc := (RX11, TX11, 11)) rfl rfl (List.mem_flatten.mpr ⟨_, List.mem_of_getElem? (i := 0) rfl, List.mem_cons_self⟩) rfl rfl hl.1 dX11_fits_13 (Nat.le_of_ble_eq_true rfl) (by show _ + (6 * (zNA (i1.toInt = 0 ∧ 0 < (fk 0).toInt ∧ (0 ≤ i2.toInt ∧ i2.toInt < (fk 2).toInt ∧ i2.toInt < 2) ∧ (e0f.toInt = 0 ∨ ¬ e1f.toInt = i1.toInt ∨ ¬ e2f.toInt = i2.toInt)) mdA n4A (zPl cr0_ inn0_ k10_) - n4A) + 6 * (zNA (i1.toInt = 1 ∧ 1 < (fk 0).toInt ∧ (0 ≤ i2.toInt ∧ i2.toInt < (fk 2).toInt ∧ i2.toInt < 2) ∧ (e0f.toInt = 0 ∨ ¬ e1f.toInt = i1.toInt ∨ ¬ e2f.toInt = i2.toInt)) mdB n4B (zPl cr1_ inn1_ k11_) - n4B) + 2 * (zNF (i1.toInt = 1 ∧ 1 < (fk 0).toInt ∧ (0 ≤ i2.toInt ∧ i2.toInt < (fk 2).toInt ∧ i2.toInt < 2) ∧ (e0f.toInt = 0 ∨ ¬ e1f.toInt = i1.toInt ∨ ¬ e2f.toInt = i2.toInt)) (zNF (i1.toInt = 0 ∧ 0 < (fk 0).toInt ∧ (0 ≤ i2.toInt ∧ i2.toInt < (fk 2).toInt ∧ i2.toInt < 2) ∧ (e0f.toInt = 0 ∨ ¬ e1f.toInt = i1.toInt ∨ ¬ e2f.toInt = i2.toInt)) m1f (zMw mdA wyA cr0_ inn0_ k10_)) (zMw mdB wyB cr1_ inn1_ k11_) - m1f)) ≤ 6 * (zNA (i1.toInt = 0 ∧ 0 < (fk 0).toInt ∧ (0 ≤ i2.toInt ∧ i2.toInt < (fk 2).toInt ∧ i2.toInt < 2) ∧ (e0f.toInt = 0 ∨ ¬ e1f.toInt = i1.toInt ∨ ¬ e2f.toInt = i2.toInt)) mdA n4A (zPl cr0_ inn0_ k10_) - n4A) + 6 * (zNA (i1.toInt = 1 ∧ 1 < (fk 0).toInt ∧ (0 ≤ i2.toInt ∧ i2.toInt < (fk 2).toInt ∧ i2.toInt < 2) ∧ (e0f.toInt = 0 ∨ ¬ e1f.toInt = i1.toInt ∨ ¬ e2f.toInt = i2.toInt)) mdB n4B (zPl cr1_ inn1_ k11_) - n4B) + 2 * (zNF (i1.toInt = 1 ∧ 1 < (fk 0).toInt ∧ (0 ≤ i2.toInt ∧ i2.toInt < (fk 2).toInt ∧ i2.toInt < 2) ∧ (e0f.toInt = 0 ∨ ¬ e1f.toInt = i1.toInt ∨ ¬ e2f.toInt = i2.toInt)) (zNF (i1.toInt = 0 ∧ 0 < (fk 0).toInt ∧ (0 ≤ i2.toInt ∧ i2.toInt < (fk 2).toInt ∧ i2.toInt < 2) ∧ (e0f.toInt = 0 ∨ ¬ e1f.toInt = i1.toInt ∨ ¬ e2f.toInt = i2.toInt)) m1f (zMw mdA wyA cr0_ inn0_ k10_)) (zMw mdB wyB cr1_ inn1_ k11_) - m1f); omega) (fun r_128 b1 H locs hw G => ?_)
    refine zEx34 hw ?_
    intro laA_69 mdA_70 wyA_71 pc_A_72 f1A_73 f2A_74 f3A_75 f4A_76 f5A_77 f6A_78 n4A_79 wwA_80 laB_81 mdB_82 wyB_83 pc_B_84 f1B_85 f2B_86 f3B_87 f4B_88 f5B_89 f6B_90 n4B_91 wwB_92 e0f_93 e1f_94 e2f_95 e3f_96 e4f_97 e5f_98 r1f_99 m1f_100 r2f_101 wff_102
    refine zCu26 ?_
    intro hbs9 h_103 h_104 h_105 h_106 h_107 h_108 h_109 h_110 h_111 h_112 h_113 h_114 h_115 h_116 h_117 h_118 h_119 h_120 h_121 h_122 h_123 h_124 h_125 h_126 h_127
    clear hw
    subst hbs9
    have G : zS T A s.heap s [[zO10 xo t im mk rd po co tr wa wb_ fi cd], wt, z0_, z1_, wg0_, wg1_, wwA_80, wwB_92, wff_102] _ _ := G
    replace h_104 : zHd ((mdA_70 = 0 ∨ laA_69 = l0)) := h_104
    replace h_108 : zHd ((¬ mdA = 0 → ¬ mdA_70 = 0)) := h_108
    replace h_109 : zHd ((mdA_70 = 0 ∨ zTab cr0_ inn0_ k10_ k20_ wyA_71 pc_A_72 f1A_73 f2A_74 f5A_77 n4A_79)) := h_109
    replace h_111 : zHd ((mdB_82 = 0 ∨ laB_81 = l1)) := h_111
    replace h_115 : zHd ((¬ mdB = 0 → ¬ mdB_82 = 0)) := h_115
    replace h_116 : zHd ((mdB_82 = 0 ∨ zTab cr1_ inn1_ k11_ k21_ wyB_83 pc_B_84 f1B_85 f2B_86 f5B_89 n4B_91)) := h_116
    replace h_122 : zHd ((¬ e0f_93 = 0 → e1f_94.toInt = 0 ∧ ¬ mdA_70 = 0 ∨ e1f_94.toInt = 1 ∧ ¬ mdB_82 = 0)) := h_122
    have hfm9 : m1f_100 ≤ 16384 := zFw_le h_119
    refine lv_if_eq (tgt := 28) hx hb dX11_fits_16 (by decide) (fun c_129 => ?_) (fun c_129 => ?_)
    · have c_129n : r_128.toInt = (0 : Int) := (fa_eq _ _).mp c_129
      refine lv_bipush (v := (-2)) hx hb dX11_fits_28 (by decide) ?_
      exact z_back hQz_ (z_iret C hr hlocks G (Nat.le_of_ble_eq_true rfl) (by omega) dX11_fits_30 ⟨laA_69, mdA_70, wyA_71, pc_A_72, f1A_73, f2A_74, f3A_75, f4A_76, f5A_77, f6A_78, n4A_79, wwA_80, laB_81, mdB_82, wyB_83, pc_B_84, f1B_85, f2B_86, f3B_87, f4B_88, f5B_89, f6B_90, n4B_91, wwB_92, e0f_93, e1f_94, e2f_95, e3f_96, e4f_97, e5f_98, r1f_99, m1f_100, r2f_101, wff_102, rfl, h_103, h_104, h_105, h_106, h_107, h_108, h_109, h_110, h_111, h_112, h_113, h_114, h_115, h_116, h_117, h_118, h_119, h_120, h_122, h_123, h_124, h_125, h_126⟩)
    · have c_129n : ¬ r_128.toInt = (0 : Int) := fun q => c_129 ((fa_eq _ _).mpr q)
      refine lv_aload hx hb dX11_fits_19 (lv_at hl 0 rfl) ?_
      refine lv_ifnull hx hb dX11_fits_21 ?_
      refine lv_iload_n hx hb dX11_fits_24 rfl (lv_at hl 4 rfl) ?_
      refine lv_if_ge (tgt := 31) hx hb dX11_fits_25 (by decide) (fun c_130 => ?_) (fun c_130 => ?_)
      · have c_130n : (0 : Int) ≤ w_.toInt := (fa_le _ _).mp c_130
        refine lv_aload_n hx hb dX11_fits_31 rfl (lv_at hl 1 rfl) ?_
        refine lv_iload_n hx hb dX11_fits_32 rfl (lv_at hl 2 rfl) ?_
        refine lv_aload hx hb dX11_fits_33 (lv_at hl 0 rfl) ?_
        have hX := h_121.resolve_left (fun q => absurd (congrArg Int32.toInt q.1) (by show ¬ _ = (0 : Int); omega))
        have hmk : ¬ mdA_70 = 0 := (h_122 hX.2.2.1).elim (fun q => q.2) (fun q => absurd q.1 (by have := hX.2.2.2; omega))
        have hzk : zMk mdA_70 n4A_79 (zPl cr0_ inn0_ k10_) = n4A_79 := by unfold zMk; rw [if_neg hmk]
        have hn9 : zMk mdA_70 n4A_79 (zPl cr0_ inn0_ k10_) ≤ 131072 := by rw [hzk]; exact zPw_le h_107
        refine z_Vq (bc := [[zO10 xo t im mk rd po co tr wa wb_ fi cd], wwA_80, z0_]) (br := [wt, z1_, wg0_, wg1_, wwB_92, wff_102]) (As := [.int i1, .ref l0]) (rest := []) C G (c_f_waysInA l T xo t im mk rd po co tr wa wb_ fi cd i1 laA_69 mdA_70 wyA_71 pc_A_72 f1A_73 f2A_74 f3A_75 f4A_76 f5A_77 f6A_78 n4A_79 wwA_80 l0 cr0_ inn0_ k10_ k20_ k30_ k40_ z0_ h_103 hz0_ hI0_ h_107 h_104 (kaOk hI0_ hLq0).1 h_109 (by omega)) (kV_RX11_235 C.2.2.2.2 (Nat.le_of_ble_eq_true rfl) (Nat.le_of_ble_eq_true rfl)) [0, 6, 2] [0, 1, 3] rfl rfl (ci := 10) (qc := (RX11, TX11, 11)) rfl rfl (List.mem_flatten.mpr ⟨_, List.mem_of_getElem? (i := 0) rfl, List.mem_cons_self⟩) rfl rfl hl.1 dX11_fits_35 (Nat.le_of_ble_eq_true rfl) (by show _ + (6 * (zMk mdA_70 n4A_79 (zPl cr0_ inn0_ k10_) - n4A_79)) ≤ 6 * (zNA (i1.toInt = 0 ∧ 0 < (fk 0).toInt ∧ (0 ≤ i2.toInt ∧ i2.toInt < (fk 2).toInt ∧ i2.toInt < 2) ∧ (e0f.toInt = 0 ∨ ¬ e1f.toInt = i1.toInt ∨ ¬ e2f.toInt = i2.toInt)) mdA n4A (zPl cr0_ inn0_ k10_) - n4A) + 6 * (zNA (i1.toInt = 1 ∧ 1 < (fk 0).toInt ∧ (0 ≤ i2.toInt ∧ i2.toInt < (fk 2).toInt ∧ i2.toInt < 2) ∧ (e0f.toInt = 0 ∨ ¬ e1f.toInt = i1.toInt ∨ ¬ e2f.toInt = i2.toInt)) mdB n4B (zPl cr1_ inn1_ k11_) - n4B) + 2 * (zNF (i1.toInt = 1 ∧ 1 < (fk 0).toInt ∧ (0 ≤ i2.toInt ∧ i2.toInt < (fk 2).toInt ∧ i2.toInt < 2) ∧ (e0f.toInt = 0 ∨ ¬ e1f.toInt = i1.toInt ∨ ¬ e2f.toInt = i2.toInt)) (zNF (i1.toInt = 0 ∧ 0 < (fk 0).toInt ∧ (0 ≤ i2.toInt ∧ i2.toInt < (fk 2).toInt ∧ i2.toInt < 2) ∧ (e0f.toInt = 0 ∨ ¬ e1f.toInt = i1.toInt ∨ ¬ e2f.toInt = i2.toInt)) m1f (zMw mdA wyA cr0_ inn0_ k10_)) (zMw mdB wyB cr1_ inn1_ k11_) - m1f); omega) (fun r_145 b1 H locs hw G => ?_)
        refine zEx9 hw ?_
        intro w2_131 m2_132 wy2_133 pc2_134 g1_135 g2_136 g4_137 g5_138 g6_139
        refine zCu6 ?_
        intro hbs9 h_140 h_141 h_142 h_143 h_144
        clear hw
        subst hbs9
        have G : zS T A s.heap s [wt, z1_, wg0_, wg1_, wwB_92, wff_102, [zO10 xo t im mk rd po co tr wa wb_ fi cd], w2_131, z0_] _ _ := G
        subst h_140
        have hwy9 : 0 ≤ wy2_133.toInt ∧ wy2_133.toInt ≤ 16384 := by have q9 := zWy_in (inn := inn0_) hI0_; rw [h_142]; exact ⟨by omega, q9.2⟩
        refine lv_astore (lv' := [(5, .ref wa), (4, .ref l0), (0, .ref xo), (1, .int i1), (2, .int i2), (3, .int w_)]) hx hb dX11_fits_38 hl (by decide) (zLvf_h rfl) (fun ls hl => ?_)
        refine lv_iload_n hx hb dX11_fits_40 rfl (lv_at hl 5 rfl) ?_
        refine lv_if_ne (tgt := 52) hx hb dX11_fits_41 (by decide) (fun c_146 => ?_) (fun c_146 => ?_)
        · have c_146n : ¬ w_.toInt = (0 : Int) := fun q => c_146 ((fa_eq _ _).mpr q)
          refine lv_iload_n hx hb dX11_fits_52 rfl (lv_at hl 5 rfl) ?_
          refine lv_iconst (v := 1) hx hb dX11_fits_53 (by decide) ?_
          refine lv_icmp_ne (tgt := 67) hx hb dX11_fits_54 (by decide) (fun c_147 => ?_) (fun c_147 => ?_)
          · have c_147n : ¬ w_.toInt = (1 : Int) := fun q => c_147 ((fa_eq _ _).mpr q)
            refine lv_iload_n hx hb dX11_fits_67 rfl (lv_at hl 5 rfl) ?_
            refine lv_bipush (v := 9) hx hb dX11_fits_68 (by decide) ?_
            refine lv_icmp_ge (tgt := 86) hx hb dX11_fits_70 (by decide) (fun c_148 => ?_) (fun c_148 => ?_)
            · have c_148n : (9 : Int) ≤ w_.toInt := (fa_le _ _).mp c_148
              refine lv_iload_n hx hb dX11_fits_86 rfl (lv_at hl 5 rfl) ?_
              refine lv_bipush (v := 10) hx hb dX11_fits_87 (by decide) ?_
              refine lv_isub hx hb dX11_fits_89 ?_
              refine lv_istore (lv' := [(6, .int (w_ - 10)), (5, .ref wa), (4, .ref l0), (0, .ref xo), (1, .int i1), (2, .int i2), (3, .int w_)]) hx hb dX11_fits_90 hl (by decide) (zLvf_h rfl) (fun ls hl => ?_)
              refine lv_iload hx hb dX11_fits_92 (lv_at hl 0 rfl) ?_
              refine lv_if_lt (tgt := 126) hx hb dX11_fits_94 (by decide) (fun c_149 => ?_) (fun c_149 => ?_)
              · have c_149n : (w_ - 10).toInt < (0 : Int) := (fa_lt _ _).mp c_149
                refine lv_bipush (v := (-2)) hx hb dX11_fits_126 (by decide) ?_
                have G := G.sub (bs' := [[zO10 xo t im mk rd po co tr wa wb_ fi cd], wt, z0_, z1_, wg0_, wg1_, w2_131, wwB_92, wff_102]) [6, 0, 8, 1, 2, 3, 7, 4, 5] rfl
                exact z_back hQz_ (z_iret C hr hlocks G (Nat.le_of_ble_eq_true rfl) (by omega) dX11_fits_128 ⟨l0, m2_132, wy2_133, pc2_134, g1_135, g2_136, f3A_75, g4_137, g5_138, g6_139, (zMk mdA_70 n4A_79 (zPl cr0_ inn0_ k10_)), w2_131, laB_81, mdB_82, wyB_83, pc_B_84, f1B_85, f2B_86, f3B_87, f4B_88, f5B_89, f6B_90, n4B_91, wwB_92, e0f_93, e1f_94, e2f_95, e3f_96, e4f_97, e5f_98, r1f_99, m1f_100, r2f_101, wff_102, rfl, h_141, (Or.inr rfl), hwy9, (hzk.trans h_106), (by rw [hzk]; exact h_107), (fun _ => h_143), (Or.inr h_144), h_110, h_111, h_112, h_113, h_114, h_115, h_116, h_117, h_118, h_119, h_120, (fun q => (h_122 q).elim (fun w => Or.inl ⟨w.1, h_143⟩) (fun w => Or.inr ⟨w.1, w.2⟩)), h_123, h_124, h_125, h_126⟩)
              · have c_149n : ¬ (w_ - 10).toInt < (0 : Int) := fun q => c_149 ((fa_lt _ _).mpr q)
                refine lv_iload hx hb dX11_fits_97 (lv_at hl 0 rfl) ?_
                refine lv_aload_n hx hb dX11_fits_99 rfl (lv_at hl 3 rfl) ?_
                refine z_get C G clX11 6 rfl 9 (by decide) m_fl_RX11_65 rfl dX11_fits_100 ?_
                refine zEx2 h_117 ?_
                intro a1_150 a2_151 hbs9
                clear h_117
                subst hbs9
                have G : zS T A s.heap s [wt, z1_, wg0_, wg1_, wwB_92, [zO3 fi e0f_93 e1f_94 e2f_95 e3f_96 e4f_97 e5f_98 a1_150 a2_151], [zAr T 0 a1_150 m1f_100 r1f_99], [zAr T 0 a2_151 7 r2f_101], [zO10 xo t im mk rd po co tr wa wb_ fi cd], w2_131, z0_] _ _ := G.re rfl
                refine z_get C G clX3 5 rfl 3 (by decide) m_fl_RX11_306 rfl dX11_fits_103 ?_
                refine lv_icmp_ge (tgt := 126) hx hb dX11_fits_106 (by decide) (fun c_152 => ?_) (fun c_152 => ?_)
                · have c_152n : e3f_96.toInt ≤ (w_ - 10).toInt := (fa_le _ _).mp c_152
                  refine lv_bipush (v := (-2)) hx hb dX11_fits_126 (by decide) ?_
                  have hw_153 : bFit T fi e0f_93 e1f_94 e2f_95 e3f_96 e4f_97 e5f_98 r1f_99 m1f_100 r2f_101 [zO3 fi e0f_93 e1f_94 e2f_95 e3f_96 e4f_97 e5f_98 a1_150 a2_151, zAr T 0 a1_150 m1f_100 r1f_99, zAr T 0 a2_151 7 r2f_101] := ⟨a1_150, a2_151, rfl⟩
                  have G : zS T A s.heap s [wt, z1_, wg0_, wg1_, wwB_92, [zO3 fi e0f_93 e1f_94 e2f_95 e3f_96 e4f_97 e5f_98 a1_150 a2_151, zAr T 0 a1_150 m1f_100 r1f_99, zAr T 0 a2_151 7 r2f_101], [zO10 xo t im mk rd po co tr wa wb_ fi cd], w2_131, z0_] _ _ := G.re rfl
                  have G := G.sub (bs' := [[zO10 xo t im mk rd po co tr wa wb_ fi cd], wt, z0_, z1_, wg0_, wg1_, w2_131, wwB_92, [zO3 fi e0f_93 e1f_94 e2f_95 e3f_96 e4f_97 e5f_98 a1_150 a2_151, zAr T 0 a1_150 m1f_100 r1f_99, zAr T 0 a2_151 7 r2f_101]]) [6, 0, 8, 1, 2, 3, 7, 4, 5] rfl
                  exact z_back hQz_ (z_iret C hr hlocks G (Nat.le_of_ble_eq_true rfl) (by omega) dX11_fits_128 ⟨l0, m2_132, wy2_133, pc2_134, g1_135, g2_136, f3A_75, g4_137, g5_138, g6_139, (zMk mdA_70 n4A_79 (zPl cr0_ inn0_ k10_)), w2_131, laB_81, mdB_82, wyB_83, pc_B_84, f1B_85, f2B_86, f3B_87, f4B_88, f5B_89, f6B_90, n4B_91, wwB_92, e0f_93, e1f_94, e2f_95, e3f_96, e4f_97, e5f_98, r1f_99, m1f_100, r2f_101, ([zO3 fi e0f_93 e1f_94 e2f_95 e3f_96 e4f_97 e5f_98 a1_150 a2_151, zAr T 0 a1_150 m1f_100 r1f_99, zAr T 0 a2_151 7 r2f_101]), rfl, h_141, (Or.inr rfl), hwy9, (hzk.trans h_106), (by rw [hzk]; exact h_107), (fun _ => h_143), (Or.inr h_144), h_110, h_111, h_112, h_113, h_114, h_115, h_116, hw_153, h_118, h_119, h_120, (fun q => (h_122 q).elim (fun w => Or.inl ⟨w.1, h_143⟩) (fun w => Or.inr ⟨w.1, w.2⟩)), h_123, h_124, h_125, h_126⟩)
                · have c_152n : ¬ e3f_96.toInt ≤ (w_ - 10).toInt := fun q => c_152 ((fa_le _ _).mpr q)
                  refine lv_aload hx hb dX11_fits_109 (lv_at hl 1 rfl) ?_
                  refine lv_aload_n hx hb dX11_fits_111 rfl (lv_at hl 3 rfl) ?_
                  refine z_get C G clX11 8 rfl 9 (by decide) m_fl_RX11_65 rfl dX11_fits_112 ?_
                  refine lv_iload hx hb dX11_fits_115 (lv_at hl 0 rfl) ?_
                  have hw_154 : bFit T fi e0f_93 e1f_94 e2f_95 e3f_96 e4f_97 e5f_98 r1f_99 m1f_100 r2f_101 [zO3 fi e0f_93 e1f_94 e2f_95 e3f_96 e4f_97 e5f_98 a1_150 a2_151, zAr T 0 a1_150 m1f_100 r1f_99, zAr T 0 a2_151 7 r2f_101] := ⟨a1_150, a2_151, rfl⟩
                  have G : zS T A s.heap s [wt, z1_, wg0_, wg1_, wwB_92, [zO3 fi e0f_93 e1f_94 e2f_95 e3f_96 e4f_97 e5f_98 a1_150 a2_151, zAr T 0 a1_150 m1f_100 r1f_99, zAr T 0 a2_151 7 r2f_101], [zO10 xo t im mk rd po co tr wa wb_ fi cd], w2_131, z0_] _ _ := G.re rfl
                  refine z_Vi (bc := [[zO3 fi e0f_93 e1f_94 e2f_95 e3f_96 e4f_97 e5f_98 a1_150 a2_151, zAr T 0 a1_150 m1f_100 r1f_99, zAr T 0 a2_151 7 r2f_101]]) (br := [wt, z1_, wg0_, wg1_, wwB_92, [zO10 xo t im mk rd po co tr wa wb_ fi cd], w2_131, z0_]) (As := [.int (w_ - 10)]) (rest := [.ref wa]) C G (c_way l T fi e0f_93 e1f_94 e2f_95 e3f_96 e4f_97 e5f_98 r1f_99 m1f_100 r2f_101 ([zO3 fi e0f_93 e1f_94 e2f_95 e3f_96 e4f_97 e5f_98 a1_150 a2_151, zAr T 0 a1_150 m1f_100 r1f_99, zAr T 0 a2_151 7 r2f_101]) (w_ - 10) hw_154 hfm9) (kV_RX11_317 C.2.2.2.2 (Nat.le_of_ble_eq_true rfl) (Nat.le_of_ble_eq_true rfl)) [5] [5] rfl rfl (ci := 3) (qc := (RX3, TX3, 8)) rfl rfl (List.mem_flatten.mpr ⟨_, List.mem_of_getElem? (i := 0) rfl, (bFit_mem hw_154).choose_spec⟩) rfl rfl hl.1 dX11_fits_117 (Nat.le_of_ble_eq_true rfl) (by show _ + 0 ≤ 6 * (zNA (i1.toInt = 0 ∧ 0 < (fk 0).toInt ∧ (0 ≤ i2.toInt ∧ i2.toInt < (fk 2).toInt ∧ i2.toInt < 2) ∧ (e0f.toInt = 0 ∨ ¬ e1f.toInt = i1.toInt ∨ ¬ e2f.toInt = i2.toInt)) mdA n4A (zPl cr0_ inn0_ k10_) - n4A) + 6 * (zNA (i1.toInt = 1 ∧ 1 < (fk 0).toInt ∧ (0 ≤ i2.toInt ∧ i2.toInt < (fk 2).toInt ∧ i2.toInt < 2) ∧ (e0f.toInt = 0 ∨ ¬ e1f.toInt = i1.toInt ∨ ¬ e2f.toInt = i2.toInt)) mdB n4B (zPl cr1_ inn1_ k11_) - n4B) + 2 * (zNF (i1.toInt = 1 ∧ 1 < (fk 0).toInt ∧ (0 ≤ i2.toInt ∧ i2.toInt < (fk 2).toInt ∧ i2.toInt < 2) ∧ (e0f.toInt = 0 ∨ ¬ e1f.toInt = i1.toInt ∨ ¬ e2f.toInt = i2.toInt)) (zNF (i1.toInt = 0 ∧ 0 < (fk 0).toInt ∧ (0 ≤ i2.toInt ∧ i2.toInt < (fk 2).toInt ∧ i2.toInt < 2) ∧ (e0f.toInt = 0 ∨ ¬ e1f.toInt = i1.toInt ∨ ¬ e2f.toInt = i2.toInt)) m1f (zMw mdA wyA cr0_ inn0_ k10_)) (zMw mdB wyB cr1_ inn1_ k11_) - m1f); omega) (fun r_156 b1 H locs hw G => ?_)
                  refine zAn2 hw ?_
                  intro hbs9 h_155
                  clear hw
                  subst hbs9
                  have G : zS T A s.heap s [wt, z1_, wg0_, wg1_, wwB_92, [zO10 xo t im mk rd po co tr wa wb_ fi cd], w2_131, z0_, [zO3 fi e0f_93 e1f_94 e2f_95 e3f_96 e4f_97 e5f_98 a1_150 a2_151, zAr T 0 a1_150 m1f_100 r1f_99, zAr T 0 a2_151 7 r2f_101]] _ _ := G
                  subst h_155
                  refine z_Vi (bc := [w2_131, z0_]) (br := [wt, z1_, wg0_, wg1_, wwB_92, [zO10 xo t im mk rd po co tr wa wb_ fi cd], [zO3 fi e0f_93 e1f_94 e2f_95 e3f_96 e4f_97 e5f_98 a1_150 a2_151, zAr T 0 a1_150 m1f_100 r1f_99, zAr T 0 a2_151 7 r2f_101]]) (As := [.int (zFway r1f_99 m1f_100 (w_ - 10))]) (rest := []) C G (c_number l T wa l0 m2_132 wy2_133 pc2_134 g1_135 g2_136 f3A_75 g4_137 g5_138 g6_139 (zMk mdA_70 n4A_79 (zPl cr0_ inn0_ k10_)) w2_131 cr0_ inn0_ k10_ k20_ k30_ k40_ z0_ (zFway r1f_99 m1f_100 (w_ - 10)) h_141 hz0_ (by first | with_reducible assumption | with_reducible rfl | omega | assumption | rfl)) (kV_RX11_272 C.2.2.2.2 (Nat.le_of_ble_eq_true rfl) (Nat.le_of_ble_eq_true rfl)) [6, 7] [6, 0] rfl rfl (ci := 0) (qc := (RX0, TX0, 10)) rfl rfl (List.mem_flatten.mpr ⟨_, List.mem_of_getElem? (i := 0) rfl, (bWays_mem h_141).choose_spec⟩) rfl rfl hl.1 dX11_fits_120 (Nat.le_of_ble_eq_true rfl) (by show _ + 0 ≤ 6 * (zNA (i1.toInt = 0 ∧ 0 < (fk 0).toInt ∧ (0 ≤ i2.toInt ∧ i2.toInt < (fk 2).toInt ∧ i2.toInt < 2) ∧ (e0f.toInt = 0 ∨ ¬ e1f.toInt = i1.toInt ∨ ¬ e2f.toInt = i2.toInt)) mdA n4A (zPl cr0_ inn0_ k10_) - n4A) + 6 * (zNA (i1.toInt = 1 ∧ 1 < (fk 0).toInt ∧ (0 ≤ i2.toInt ∧ i2.toInt < (fk 2).toInt ∧ i2.toInt < 2) ∧ (e0f.toInt = 0 ∨ ¬ e1f.toInt = i1.toInt ∨ ¬ e2f.toInt = i2.toInt)) mdB n4B (zPl cr1_ inn1_ k11_) - n4B) + 2 * (zNF (i1.toInt = 1 ∧ 1 < (fk 0).toInt ∧ (0 ≤ i2.toInt ∧ i2.toInt < (fk 2).toInt ∧ i2.toInt < 2) ∧ (e0f.toInt = 0 ∨ ¬ e1f.toInt = i1.toInt ∨ ¬ e2f.toInt = i2.toInt)) (zNF (i1.toInt = 0 ∧ 0 < (fk 0).toInt ∧ (0 ≤ i2.toInt ∧ i2.toInt < (fk 2).toInt ∧ i2.toInt < 2) ∧ (e0f.toInt = 0 ∨ ¬ e1f.toInt = i1.toInt ∨ ¬ e2f.toInt = i2.toInt)) m1f (zMw mdA wyA cr0_ inn0_ k10_)) (zMw mdB wyB cr1_ inn1_ k11_) - m1f); omega) (fun r_157 b1 H locs hw G => ?_)
                  obtain rfl := hw
                  have G : zS T A s.heap s [wt, z1_, wg0_, wg1_, wwB_92, [zO10 xo t im mk rd po co tr wa wb_ fi cd], [zO3 fi e0f_93 e1f_94 e2f_95 e3f_96 e4f_97 e5f_98 a1_150 a2_151, zAr T 0 a1_150 m1f_100 r1f_99, zAr T 0 a2_151 7 r2f_101], w2_131, z0_] _ _ := G
                  refine lv_goto (tgt := 128) hx hb dX11_fits_123 (by decide) ?_
                  have G := G.sub (bs' := [[zO10 xo t im mk rd po co tr wa wb_ fi cd], wt, z0_, z1_, wg0_, wg1_, w2_131, wwB_92, [zO3 fi e0f_93 e1f_94 e2f_95 e3f_96 e4f_97 e5f_98 a1_150 a2_151, zAr T 0 a1_150 m1f_100 r1f_99, zAr T 0 a2_151 7 r2f_101]]) [5, 0, 8, 1, 2, 3, 7, 4, 6] rfl
                  exact z_back hQz_ (z_iret C hr hlocks G (Nat.le_of_ble_eq_true rfl) (by omega) dX11_fits_128 ⟨l0, m2_132, wy2_133, pc2_134, g1_135, g2_136, f3A_75, g4_137, g5_138, g6_139, (zMk mdA_70 n4A_79 (zPl cr0_ inn0_ k10_)), w2_131, laB_81, mdB_82, wyB_83, pc_B_84, f1B_85, f2B_86, f3B_87, f4B_88, f5B_89, f6B_90, n4B_91, wwB_92, e0f_93, e1f_94, e2f_95, e3f_96, e4f_97, e5f_98, r1f_99, m1f_100, r2f_101, ([zO3 fi e0f_93 e1f_94 e2f_95 e3f_96 e4f_97 e5f_98 a1_150 a2_151, zAr T 0 a1_150 m1f_100 r1f_99, zAr T 0 a2_151 7 r2f_101]), rfl, h_141, (Or.inr rfl), hwy9, (hzk.trans h_106), (by rw [hzk]; exact h_107), (fun _ => h_143), (Or.inr h_144), h_110, h_111, h_112, h_113, h_114, h_115, h_116, hw_154, h_118, h_119, h_120, (fun q => (h_122 q).elim (fun w => Or.inl ⟨w.1, h_143⟩) (fun w => Or.inr ⟨w.1, w.2⟩)), h_123, h_124, h_125, h_126⟩)
            · have c_148n : ¬ (9 : Int) ≤ w_.toInt := fun q => c_148 ((fa_le _ _).mpr q)
              refine lv_aload_n hx hb dX11_fits_73 rfl (lv_at hl 2 rfl) ?_
              refine z_get C G clX11 6 rfl 9 (by decide) m_fl_RX11_65 rfl dX11_fits_74 ?_
              refine lv_aload hx hb dX11_fits_77 (lv_at hl 0 rfl) ?_
              refine lv_iload_n hx hb dX11_fits_79 rfl (lv_at hl 5 rfl) ?_
              refine lv_iconst (v := 2) hx hb dX11_fits_80 (by decide) ?_
              refine lv_isub hx hb dX11_fits_81 ?_
              refine z_Vi (bc := [wff_102, w2_131, z0_]) (br := [wt, z1_, wg0_, wg1_, wwB_92, [zO10 xo t im mk rd po co tr wa wb_ fi cd]]) (As := [.ref wa, .int (w_ - 2)]) (rest := []) C G (c_sure l T fi e0f_93 e1f_94 e2f_95 e3f_96 e4f_97 e5f_98 r1f_99 m1f_100 r2f_101 wff_102 wa l0 m2_132 wy2_133 pc2_134 g1_135 g2_136 f3A_75 g4_137 g5_138 g6_139 (zMk mdA_70 n4A_79 (zPl cr0_ inn0_ k10_)) w2_131 cr0_ inn0_ k10_ k20_ k30_ k40_ z0_ (w_ - 2) h_117 h_141 hz0_ hfm9) (kV_RX11_313 C.2.2.2.2 (Nat.le_of_ble_eq_true rfl) (Nat.le_of_ble_eq_true rfl)) [5, 7, 8] [5, 1, 0] rfl rfl (ci := 3) (qc := (RX3, TX3, 8)) rfl rfl (List.mem_flatten.mpr ⟨_, List.mem_of_getElem? (i := 0) rfl, (bFit_mem h_117).choose_spec⟩) rfl rfl hl.1 dX11_fits_82 (Nat.le_of_ble_eq_true rfl) (by show _ + 0 ≤ 6 * (zNA (i1.toInt = 0 ∧ 0 < (fk 0).toInt ∧ (0 ≤ i2.toInt ∧ i2.toInt < (fk 2).toInt ∧ i2.toInt < 2) ∧ (e0f.toInt = 0 ∨ ¬ e1f.toInt = i1.toInt ∨ ¬ e2f.toInt = i2.toInt)) mdA n4A (zPl cr0_ inn0_ k10_) - n4A) + 6 * (zNA (i1.toInt = 1 ∧ 1 < (fk 0).toInt ∧ (0 ≤ i2.toInt ∧ i2.toInt < (fk 2).toInt ∧ i2.toInt < 2) ∧ (e0f.toInt = 0 ∨ ¬ e1f.toInt = i1.toInt ∨ ¬ e2f.toInt = i2.toInt)) mdB n4B (zPl cr1_ inn1_ k11_) - n4B) + 2 * (zNF (i1.toInt = 1 ∧ 1 < (fk 0).toInt ∧ (0 ≤ i2.toInt ∧ i2.toInt < (fk 2).toInt ∧ i2.toInt < 2) ∧ (e0f.toInt = 0 ∨ ¬ e1f.toInt = i1.toInt ∨ ¬ e2f.toInt = i2.toInt)) (zNF (i1.toInt = 0 ∧ 0 < (fk 0).toInt ∧ (0 ≤ i2.toInt ∧ i2.toInt < (fk 2).toInt ∧ i2.toInt < 2) ∧ (e0f.toInt = 0 ∨ ¬ e1f.toInt = i1.toInt ∨ ¬ e2f.toInt = i2.toInt)) m1f (zMw mdA wyA cr0_ inn0_ k10_)) (zMw mdB wyB cr1_ inn1_ k11_) - m1f); omega) (fun r_158 b1 H locs hw G => ?_)
              obtain rfl := hw
              have G : zS T A s.heap s [wt, z1_, wg0_, wg1_, wwB_92, [zO10 xo t im mk rd po co tr wa wb_ fi cd], wff_102, w2_131, z0_] _ _ := G
              have G := G.sub (bs' := [[zO10 xo t im mk rd po co tr wa wb_ fi cd], wt, z0_, z1_, wg0_, wg1_, w2_131, wwB_92, wff_102]) [5, 0, 8, 1, 2, 3, 7, 4, 6] rfl
              exact z_back hQz_ (z_iret C hr hlocks G (Nat.le_of_ble_eq_true rfl) (by omega) dX11_fits_85 ⟨l0, m2_132, wy2_133, pc2_134, g1_135, g2_136, f3A_75, g4_137, g5_138, g6_139, (zMk mdA_70 n4A_79 (zPl cr0_ inn0_ k10_)), w2_131, laB_81, mdB_82, wyB_83, pc_B_84, f1B_85, f2B_86, f3B_87, f4B_88, f5B_89, f6B_90, n4B_91, wwB_92, e0f_93, e1f_94, e2f_95, e3f_96, e4f_97, e5f_98, r1f_99, m1f_100, r2f_101, wff_102, rfl, h_141, (Or.inr rfl), hwy9, (hzk.trans h_106), (by rw [hzk]; exact h_107), (fun _ => h_143), (Or.inr h_144), h_110, h_111, h_112, h_113, h_114, h_115, h_116, h_117, h_118, h_119, h_120, (fun q => (h_122 q).elim (fun w => Or.inl ⟨w.1, h_143⟩) (fun w => Or.inr ⟨w.1, w.2⟩)), h_123, h_124, h_125, h_126⟩)
          · have c_147n : w_.toInt = (1 : Int) := (fa_eq _ _).mp c_147
            refine lv_aload_n hx hb dX11_fits_57 rfl (lv_at hl 2 rfl) ?_
            refine z_get C G clX11 6 rfl 9 (by decide) m_fl_RX11_65 rfl dX11_fits_58 ?_
            refine lv_aload hx hb dX11_fits_61 (lv_at hl 0 rfl) ?_
            refine z_Vi (bc := [wff_102, w2_131, z0_]) (br := [wt, z1_, wg0_, wg1_, wwB_92, [zO10 xo t im mk rd po co tr wa wb_ fi cd]]) (As := [.ref wa]) (rest := []) C G (c_ask l T fi e0f_93 e1f_94 e2f_95 e3f_96 e4f_97 e5f_98 r1f_99 m1f_100 r2f_101 wff_102 wa l0 m2_132 wy2_133 pc2_134 g1_135 g2_136 f3A_75 g4_137 g5_138 g6_139 (zMk mdA_70 n4A_79 (zPl cr0_ inn0_ k10_)) w2_131 cr0_ inn0_ k10_ k20_ k30_ k40_ z0_ h_117 h_141 hz0_ hn9 hfm9 (by first | with_reducible assumption | with_reducible rfl | omega | assumption | rfl)) (kV_RX11_309 C.2.2.2.2 (Nat.le_of_ble_eq_true rfl) (Nat.le_of_ble_eq_true rfl)) [5, 7, 8] [5, 1, 0] rfl rfl (ci := 3) (qc := (RX3, TX3, 8)) rfl rfl (List.mem_flatten.mpr ⟨_, List.mem_of_getElem? (i := 0) rfl, (bFit_mem h_117).choose_spec⟩) rfl rfl hl.1 dX11_fits_63 (Nat.le_of_ble_eq_true rfl) (by show _ + 0 ≤ 6 * (zNA (i1.toInt = 0 ∧ 0 < (fk 0).toInt ∧ (0 ≤ i2.toInt ∧ i2.toInt < (fk 2).toInt ∧ i2.toInt < 2) ∧ (e0f.toInt = 0 ∨ ¬ e1f.toInt = i1.toInt ∨ ¬ e2f.toInt = i2.toInt)) mdA n4A (zPl cr0_ inn0_ k10_) - n4A) + 6 * (zNA (i1.toInt = 1 ∧ 1 < (fk 0).toInt ∧ (0 ≤ i2.toInt ∧ i2.toInt < (fk 2).toInt ∧ i2.toInt < 2) ∧ (e0f.toInt = 0 ∨ ¬ e1f.toInt = i1.toInt ∨ ¬ e2f.toInt = i2.toInt)) mdB n4B (zPl cr1_ inn1_ k11_) - n4B) + 2 * (zNF (i1.toInt = 1 ∧ 1 < (fk 0).toInt ∧ (0 ≤ i2.toInt ∧ i2.toInt < (fk 2).toInt ∧ i2.toInt < 2) ∧ (e0f.toInt = 0 ∨ ¬ e1f.toInt = i1.toInt ∨ ¬ e2f.toInt = i2.toInt)) (zNF (i1.toInt = 0 ∧ 0 < (fk 0).toInt ∧ (0 ≤ i2.toInt ∧ i2.toInt < (fk 2).toInt ∧ i2.toInt < 2) ∧ (e0f.toInt = 0 ∨ ¬ e1f.toInt = i1.toInt ∨ ¬ e2f.toInt = i2.toInt)) m1f (zMw mdA wyA cr0_ inn0_ k10_)) (zMw mdB wyB cr1_ inn1_ k11_) - m1f); omega) (fun r_162 b1 H locs hw G => ?_)
            refine zEx2 hw ?_
            intro w2_159 g2_160
            refine zCu2 ?_
            intro hbs9 h_161
            clear hw
            subst hbs9
            have G : zS T A s.heap s [wt, z1_, wg0_, wg1_, wwB_92, [zO10 xo t im mk rd po co tr wa wb_ fi cd], w2_159, w2_131, z0_] _ _ := G
            have G := G.sub (bs' := [[zO10 xo t im mk rd po co tr wa wb_ fi cd], wt, z0_, z1_, wg0_, wg1_, w2_131, wwB_92, w2_159]) [5, 0, 8, 1, 2, 3, 7, 4, 6] rfl
            exact z_back hQz_ (z_iret C hr hlocks G (Nat.le_of_ble_eq_true rfl) (by omega) dX11_fits_66 ⟨l0, m2_132, wy2_133, pc2_134, g1_135, g2_136, f3A_75, g4_137, g5_138, g6_139, (zMk mdA_70 n4A_79 (zPl cr0_ inn0_ k10_)), w2_131, laB_81, mdB_82, wyB_83, pc_B_84, f1B_85, f2B_86, f3B_87, f4B_88, f5B_89, f6B_90, n4B_91, wwB_92, e0f_93, e1f_94, e2f_95, e3f_96, e4f_97, e5f_98, r1f_99, m1f_100, g2_160, w2_159, rfl, h_141, (Or.inr rfl), hwy9, (hzk.trans h_106), (by rw [hzk]; exact h_107), (fun _ => h_143), (Or.inr h_144), h_110, h_111, h_112, h_113, h_114, h_115, h_116, h_161, h_118, h_119, h_120, (fun q => (h_122 q).elim (fun w => Or.inl ⟨w.1, h_143⟩) (fun w => Or.inr ⟨w.1, w.2⟩)), h_123, h_124, h_125, h_126⟩)
        · have c_146n : w_.toInt = (0 : Int) := (fa_eq _ _).mp c_146
          refine lv_aload_n hx hb dX11_fits_44 rfl (lv_at hl 2 rfl) ?_
          refine z_get C G clX11 6 rfl 9 (by decide) m_fl_RX11_65 rfl dX11_fits_45 ?_
          refine zEx2 h_117 ?_
          intro a1_163 a2_164 hbs9
          clear h_117
          subst hbs9
          have G : zS T A s.heap s [wt, z1_, wg0_, wg1_, wwB_92, [zO3 fi e0f_93 e1f_94 e2f_95 e3f_96 e4f_97 e5f_98 a1_163 a2_164], [zAr T 0 a1_163 m1f_100 r1f_99], [zAr T 0 a2_164 7 r2f_101], [zO10 xo t im mk rd po co tr wa wb_ fi cd], w2_131, z0_] _ _ := G.re rfl
          refine z_get C G clX3 5 rfl 3 (by decide) m_fl_RX11_306 rfl dX11_fits_48 ?_
          have hw_165 : bFit T fi e0f_93 e1f_94 e2f_95 e3f_96 e4f_97 e5f_98 r1f_99 m1f_100 r2f_101 [zO3 fi e0f_93 e1f_94 e2f_95 e3f_96 e4f_97 e5f_98 a1_163 a2_164, zAr T 0 a1_163 m1f_100 r1f_99, zAr T 0 a2_164 7 r2f_101] := ⟨a1_163, a2_164, rfl⟩
          have G : zS T A s.heap s [wt, z1_, wg0_, wg1_, wwB_92, [zO3 fi e0f_93 e1f_94 e2f_95 e3f_96 e4f_97 e5f_98 a1_163 a2_164, zAr T 0 a1_163 m1f_100 r1f_99, zAr T 0 a2_164 7 r2f_101], [zO10 xo t im mk rd po co tr wa wb_ fi cd], w2_131, z0_] _ _ := G.re rfl
          have G := G.sub (bs' := [[zO10 xo t im mk rd po co tr wa wb_ fi cd], wt, z0_, z1_, wg0_, wg1_, w2_131, wwB_92, [zO3 fi e0f_93 e1f_94 e2f_95 e3f_96 e4f_97 e5f_98 a1_163 a2_164, zAr T 0 a1_163 m1f_100 r1f_99, zAr T 0 a2_164 7 r2f_101]]) [6, 0, 8, 1, 2, 3, 7, 4, 5] rfl
          exact z_back hQz_ (z_iret C hr hlocks G (Nat.le_of_ble_eq_true rfl) (by omega) dX11_fits_51 ⟨l0, m2_132, wy2_133, pc2_134, g1_135, g2_136, f3A_75, g4_137, g5_138, g6_139, (zMk mdA_70 n4A_79 (zPl cr0_ inn0_ k10_)), w2_131, laB_81, mdB_82, wyB_83, pc_B_84, f1B_85, f2B_86, f3B_87, f4B_88, f5B_89, f6B_90, n4B_91, wwB_92, e0f_93, e1f_94, e2f_95, e3f_96, e4f_97, e5f_98, r1f_99, m1f_100, r2f_101, ([zO3 fi e0f_93 e1f_94 e2f_95 e3f_96 e4f_97 e5f_98 a1_163 a2_164, zAr T 0 a1_163 m1f_100 r1f_99, zAr T 0 a2_164 7 r2f_101]), rfl, h_141, (Or.inr rfl), hwy9, (hzk.trans h_106), (by rw [hzk]; exact h_107), (fun _ => h_143), (Or.inr h_144), h_110, h_111, h_112, h_113, h_114, h_115, h_116, hw_165, h_118, h_119, h_120, (fun q => (h_122 q).elim (fun w => Or.inl ⟨w.1, h_143⟩) (fun w => Or.inr ⟨w.1, w.2⟩)), h_123, h_124, h_125, h_126⟩)
      · have c_130n : ¬ (0 : Int) ≤ w_.toInt := fun q => c_130 ((fa_le _ _).mpr q)
        refine lv_bipush (v := (-2)) hx hb dX11_fits_28 (by decide) ?_
        exact z_back hQz_ (z_iret C hr hlocks G (Nat.le_of_ble_eq_true rfl) (by omega) dX11_fits_30 ⟨laA_69, mdA_70, wyA_71, pc_A_72, f1A_73, f2A_74, f3A_75, f4A_76, f5A_77, f6A_78, n4A_79, wwA_80, laB_81, mdB_82, wyB_83, pc_B_84, f1B_85, f2B_86, f3B_87, f4B_88, f5B_89, f6B_90, n4B_91, wwB_92, e0f_93, e1f_94, e2f_95, e3f_96, e4f_97, e5f_98, r1f_99, m1f_100, r2f_101, wff_102, rfl, h_103, h_104, h_105, h_106, h_107, h_108, h_109, h_110, h_111, h_112, h_113, h_114, h_115, h_116, h_117, h_118, h_119, h_120, h_122, h_123, h_124, h_125, h_126⟩)
  · have h_6 : i1.toInt = 1 := h_6
    have h_7 : 1 < (fk 0).toInt := h_7
    refine lv_astore (lv' := [(4, .ref l1), (0, .ref xo), (1, .int i1), (2, .int i2), (3, .int w_)]) hx hb dX11_fits_8 hl (by decide) (zLvf_h rfl) (fun ls hl => ?_)
    refine lv_aload_n hx hb dX11_fits_10 rfl (lv_at hl 1 rfl) ?_
    refine lv_iload_n hx hb dX11_fits_11 rfl (lv_at hl 2 rfl) ?_
    refine lv_iload_n hx hb dX11_fits_12 rfl (lv_at hl 3 rfl) ?_
    refine z_Vi (bc := [[zO10 xo t im mk rd po co tr wa wb_ fi cd], wt, z0_, z1_, wg0_, wg1_, wwA, wwB, wff]) (br := []) (As := [.int i1, .int i2]) (rest := []) C G (c_e_fit l T xo t im mk rd po co tr wa wb_ fi cd l0 l1 d0 d1 g0 g1 ln fl pl ft fk wt cr0_ inn0_ k10_ k20_ k30_ k40_ z0_ cr1_ inn1_ k11_ k21_ k31_ k41_ z1_ gg0_ q10_ q20_ wg0_ gg1_ q11_ q21_ wg1_ laA mdA wyA pc_A f1A f2A f3A f4A f5A f6A n4A wwA laB mdB wyB pc_B f1B f2B f3B f4B f5B f6B n4B wwB e0f e1f e2f e3f e4f e5f r1f m1f r2f wff i1 i2 ht (by first | with_reducible assumption | with_reducible rfl | omega | assumption | rfl) hz0_ (by first | with_reducible assumption | with_reducible rfl | omega | assumption | rfl) hz1_ (by first | with_reducible assumption | with_reducible rfl | omega | assumption | rfl) hg0_ hg1_ hwwA (by first | with_reducible assumption | with_reducible rfl | omega | assumption | rfl) (by first | with_reducible assumption | with_reducible rfl | omega | assumption | rfl) (by first | with_reducible assumption | with_reducible rfl | omega | assumption | rfl) (by first | with_reducible assumption | with_reducible rfl | omega | assumption | rfl) (by first | with_reducible assumption | with_reducible rfl | omega | assumption | rfl) hwwB (by first | with_reducible assumption | with_reducible rfl | omega | assumption | rfl) (by first | with_reducible assumption | with_reducible rfl | omega | assumption | rfl) (by first | with_reducible assumption | with_reducible rfl | omega | assumption | rfl) (by first | with_reducible assumption | with_reducible rfl | omega | assumption | rfl) (by first | with_reducible assumption | with_reducible rfl | omega | assumption | rfl) hwff hfw hf3 hFI hFt00 hFt01 hFt10 hFt11 hGg0 hGg1) (kV_RX11_302 C.2.2.2.2 (Nat.le_of_ble_eq_true rfl) (Nat.le_of_ble_eq_true rfl)) [0, 8, 1, 2, 3, 4, 5, 6, 7] [0, 0, 0, 0, 0, 0, 0, 0, 0] rfl rfl (ci := 10) (qc := (RX11, TX11, 11)) rfl rfl (List.mem_flatten.mpr ⟨_, List.mem_of_getElem? (i := 0) rfl, List.mem_cons_self⟩) rfl rfl hl.1 dX11_fits_13 (Nat.le_of_ble_eq_true rfl) (by show _ + (6 * (zNA (i1.toInt = 0 ∧ 0 < (fk 0).toInt ∧ (0 ≤ i2.toInt ∧ i2.toInt < (fk 2).toInt ∧ i2.toInt < 2) ∧ (e0f.toInt = 0 ∨ ¬ e1f.toInt = i1.toInt ∨ ¬ e2f.toInt = i2.toInt)) mdA n4A (zPl cr0_ inn0_ k10_) - n4A) + 6 * (zNA (i1.toInt = 1 ∧ 1 < (fk 0).toInt ∧ (0 ≤ i2.toInt ∧ i2.toInt < (fk 2).toInt ∧ i2.toInt < 2) ∧ (e0f.toInt = 0 ∨ ¬ e1f.toInt = i1.toInt ∨ ¬ e2f.toInt = i2.toInt)) mdB n4B (zPl cr1_ inn1_ k11_) - n4B) + 2 * (zNF (i1.toInt = 1 ∧ 1 < (fk 0).toInt ∧ (0 ≤ i2.toInt ∧ i2.toInt < (fk 2).toInt ∧ i2.toInt < 2) ∧ (e0f.toInt = 0 ∨ ¬ e1f.toInt = i1.toInt ∨ ¬ e2f.toInt = i2.toInt)) (zNF (i1.toInt = 0 ∧ 0 < (fk 0).toInt ∧ (0 ≤ i2.toInt ∧ i2.toInt < (fk 2).toInt ∧ i2.toInt < 2) ∧ (e0f.toInt = 0 ∨ ¬ e1f.toInt = i1.toInt ∨ ¬ e2f.toInt = i2.toInt)) m1f (zMw mdA wyA cr0_ inn0_ k10_)) (zMw mdB wyB cr1_ inn1_ k11_) - m1f)) ≤ 6 * (zNA (i1.toInt = 0 ∧ 0 < (fk 0).toInt ∧ (0 ≤ i2.toInt ∧ i2.toInt < (fk 2).toInt ∧ i2.toInt < 2) ∧ (e0f.toInt = 0 ∨ ¬ e1f.toInt = i1.toInt ∨ ¬ e2f.toInt = i2.toInt)) mdA n4A (zPl cr0_ inn0_ k10_) - n4A) + 6 * (zNA (i1.toInt = 1 ∧ 1 < (fk 0).toInt ∧ (0 ≤ i2.toInt ∧ i2.toInt < (fk 2).toInt ∧ i2.toInt < 2) ∧ (e0f.toInt = 0 ∨ ¬ e1f.toInt = i1.toInt ∨ ¬ e2f.toInt = i2.toInt)) mdB n4B (zPl cr1_ inn1_ k11_) - n4B) + 2 * (zNF (i1.toInt = 1 ∧ 1 < (fk 0).toInt ∧ (0 ≤ i2.toInt ∧ i2.toInt < (fk 2).toInt ∧ i2.toInt < 2) ∧ (e0f.toInt = 0 ∨ ¬ e1f.toInt = i1.toInt ∨ ¬ e2f.toInt = i2.toInt)) (zNF (i1.toInt = 0 ∧ 0 < (fk 0).toInt ∧ (0 ≤ i2.toInt ∧ i2.toInt < (fk 2).toInt ∧ i2.toInt < 2) ∧ (e0f.toInt = 0 ∨ ¬ e1f.toInt = i1.toInt ∨ ¬ e2f.toInt = i2.toInt)) m1f (zMw mdA wyA cr0_ inn0_ k10_)) (zMw mdB wyB cr1_ inn1_ k11_) - m1f); omega) (fun r_225 b1 H locs hw G => ?_)
    refine zEx34 hw ?_
    intro laA_166 mdA_167 wyA_168 pc_A_169 f1A_170 f2A_171 f3A_172 f4A_173 f5A_174 f6A_175 n4A_176 wwA_177 laB_178 mdB_179 wyB_180 pc_B_181 f1B_182 f2B_183 f3B_184 f4B_185 f5B_186 f6B_187 n4B_188 wwB_189 e0f_190 e1f_191 e2f_192 e3f_193 e4f_194 e5f_195 r1f_196 m1f_197 r2f_198 wff_199
    refine zCu26 ?_
    intro hbs9 h_200 h_201 h_202 h_203 h_204 h_205 h_206 h_207 h_208 h_209 h_210 h_211 h_212 h_213 h_214 h_215 h_216 h_217 h_218 h_219 h_220 h_221 h_222 h_223 h_224
    clear hw
    subst hbs9
    have G : zS T A s.heap s [[zO10 xo t im mk rd po co tr wa wb_ fi cd], wt, z0_, z1_, wg0_, wg1_, wwA_177, wwB_189, wff_199] _ _ := G
    replace h_201 : zHd ((mdA_167 = 0 ∨ laA_166 = l0)) := h_201
    replace h_205 : zHd ((¬ mdA = 0 → ¬ mdA_167 = 0)) := h_205
    replace h_206 : zHd ((mdA_167 = 0 ∨ zTab cr0_ inn0_ k10_ k20_ wyA_168 pc_A_169 f1A_170 f2A_171 f5A_174 n4A_176)) := h_206
    replace h_208 : zHd ((mdB_179 = 0 ∨ laB_178 = l1)) := h_208
    replace h_212 : zHd ((¬ mdB = 0 → ¬ mdB_179 = 0)) := h_212
    replace h_213 : zHd ((mdB_179 = 0 ∨ zTab cr1_ inn1_ k11_ k21_ wyB_180 pc_B_181 f1B_182 f2B_183 f5B_186 n4B_188)) := h_213
    replace h_219 : zHd ((¬ e0f_190 = 0 → e1f_191.toInt = 0 ∧ ¬ mdA_167 = 0 ∨ e1f_191.toInt = 1 ∧ ¬ mdB_179 = 0)) := h_219
    have hfm9 : m1f_197 ≤ 16384 := zFw_le h_216
    refine lv_if_eq (tgt := 28) hx hb dX11_fits_16 (by decide) (fun c_226 => ?_) (fun c_226 => ?_)
    · have c_226n : r_225.toInt = (0 : Int) := (fa_eq _ _).mp c_226
      refine lv_bipush (v := (-2)) hx hb dX11_fits_28 (by decide) ?_
      exact z_back hQz_ (z_iret C hr hlocks G (Nat.le_of_ble_eq_true rfl) (by omega) dX11_fits_30 ⟨laA_166, mdA_167, wyA_168, pc_A_169, f1A_170, f2A_171, f3A_172, f4A_173, f5A_174, f6A_175, n4A_176, wwA_177, laB_178, mdB_179, wyB_180, pc_B_181, f1B_182, f2B_183, f3B_184, f4B_185, f5B_186, f6B_187, n4B_188, wwB_189, e0f_190, e1f_191, e2f_192, e3f_193, e4f_194, e5f_195, r1f_196, m1f_197, r2f_198, wff_199, rfl, h_200, h_201, h_202, h_203, h_204, h_205, h_206, h_207, h_208, h_209, h_210, h_211, h_212, h_213, h_214, h_215, h_216, h_217, h_219, h_220, h_221, h_222, h_223⟩)
    · have c_226n : ¬ r_225.toInt = (0 : Int) := fun q => c_226 ((fa_eq _ _).mpr q)
      refine lv_aload hx hb dX11_fits_19 (lv_at hl 0 rfl) ?_
      refine lv_ifnull hx hb dX11_fits_21 ?_
      refine lv_iload_n hx hb dX11_fits_24 rfl (lv_at hl 4 rfl) ?_
      refine lv_if_ge (tgt := 31) hx hb dX11_fits_25 (by decide) (fun c_227 => ?_) (fun c_227 => ?_)
      · have c_227n : (0 : Int) ≤ w_.toInt := (fa_le _ _).mp c_227
        refine lv_aload_n hx hb dX11_fits_31 rfl (lv_at hl 1 rfl) ?_
        refine lv_iload_n hx hb dX11_fits_32 rfl (lv_at hl 2 rfl) ?_
        refine lv_aload hx hb dX11_fits_33 (lv_at hl 0 rfl) ?_
        have hX := h_218.resolve_left (fun q => absurd (congrArg Int32.toInt q.1) (by show ¬ _ = (0 : Int); omega))
        have hmk : ¬ mdB_179 = 0 := (h_219 hX.2.2.1).elim (fun q => absurd q.1 (by have := hX.2.2.2; omega)) (fun q => q.2)
        have hzk : zMk mdB_179 n4B_188 (zPl cr1_ inn1_ k11_) = n4B_188 := by unfold zMk; rw [if_neg hmk]
        have hn9 : zMk mdB_179 n4B_188 (zPl cr1_ inn1_ k11_) ≤ 131072 := by rw [hzk]; exact zPw_le h_211
        refine z_Vq (bc := [[zO10 xo t im mk rd po co tr wa wb_ fi cd], wwB_189, z1_]) (br := [wt, z0_, wg0_, wg1_, wwA_177, wff_199]) (As := [.int i1, .ref l1]) (rest := []) C G (c_f_waysInB l T xo t im mk rd po co tr wa wb_ fi cd i1 laB_178 mdB_179 wyB_180 pc_B_181 f1B_182 f2B_183 f3B_184 f4B_185 f5B_186 f6B_187 n4B_188 wwB_189 l1 cr1_ inn1_ k11_ k21_ k31_ k41_ z1_ h_207 hz1_ hI1_ h_211 h_208 (kaOk hI1_ hLq1).1 h_213 (by omega)) (kV_RX11_235 C.2.2.2.2 (Nat.le_of_ble_eq_true rfl) (Nat.le_of_ble_eq_true rfl)) [0, 7, 3] [0, 2, 3] rfl rfl (ci := 10) (qc := (RX11, TX11, 11)) rfl rfl (List.mem_flatten.mpr ⟨_, List.mem_of_getElem? (i := 0) rfl, List.mem_cons_self⟩) rfl rfl hl.1 dX11_fits_35 (Nat.le_of_ble_eq_true rfl) (by show _ + (6 * (zMk mdB_179 n4B_188 (zPl cr1_ inn1_ k11_) - n4B_188)) ≤ 6 * (zNA (i1.toInt = 0 ∧ 0 < (fk 0).toInt ∧ (0 ≤ i2.toInt ∧ i2.toInt < (fk 2).toInt ∧ i2.toInt < 2) ∧ (e0f.toInt = 0 ∨ ¬ e1f.toInt = i1.toInt ∨ ¬ e2f.toInt = i2.toInt)) mdA n4A (zPl cr0_ inn0_ k10_) - n4A) + 6 * (zNA (i1.toInt = 1 ∧ 1 < (fk 0).toInt ∧ (0 ≤ i2.toInt ∧ i2.toInt < (fk 2).toInt ∧ i2.toInt < 2) ∧ (e0f.toInt = 0 ∨ ¬ e1f.toInt = i1.toInt ∨ ¬ e2f.toInt = i2.toInt)) mdB n4B (zPl cr1_ inn1_ k11_) - n4B) + 2 * (zNF (i1.toInt = 1 ∧ 1 < (fk 0).toInt ∧ (0 ≤ i2.toInt ∧ i2.toInt < (fk 2).toInt ∧ i2.toInt < 2) ∧ (e0f.toInt = 0 ∨ ¬ e1f.toInt = i1.toInt ∨ ¬ e2f.toInt = i2.toInt)) (zNF (i1.toInt = 0 ∧ 0 < (fk 0).toInt ∧ (0 ≤ i2.toInt ∧ i2.toInt < (fk 2).toInt ∧ i2.toInt < 2) ∧ (e0f.toInt = 0 ∨ ¬ e1f.toInt = i1.toInt ∨ ¬ e2f.toInt = i2.toInt)) m1f (zMw mdA wyA cr0_ inn0_ k10_)) (zMw mdB wyB cr1_ inn1_ k11_) - m1f); omega) (fun r_242 b1 H locs hw G => ?_)
        refine zEx9 hw ?_
        intro w2_228 m2_229 wy2_230 pc2_231 g1_232 g2_233 g4_234 g5_235 g6_236
        refine zCu6 ?_
        intro hbs9 h_237 h_238 h_239 h_240 h_241
        clear hw
        subst hbs9
        have G : zS T A s.heap s [wt, z0_, wg0_, wg1_, wwA_177, wff_199, [zO10 xo t im mk rd po co tr wa wb_ fi cd], w2_228, z1_] _ _ := G
        subst h_237
        have hwy9 : 0 ≤ wy2_230.toInt ∧ wy2_230.toInt ≤ 16384 := by have q9 := zWy_in (inn := inn1_) hI1_; rw [h_239]; exact ⟨by omega, q9.2⟩
        refine lv_astore (lv' := [(5, .ref wb_), (4, .ref l1), (0, .ref xo), (1, .int i1), (2, .int i2), (3, .int w_)]) hx hb dX11_fits_38 hl (by decide) (zLvf_h rfl) (fun ls hl => ?_)
        refine lv_iload_n hx hb dX11_fits_40 rfl (lv_at hl 5 rfl) ?_
        refine lv_if_ne (tgt := 52) hx hb dX11_fits_41 (by decide) (fun c_243 => ?_) (fun c_243 => ?_)
        · have c_243n : ¬ w_.toInt = (0 : Int) := fun q => c_243 ((fa_eq _ _).mpr q)
          refine lv_iload_n hx hb dX11_fits_52 rfl (lv_at hl 5 rfl) ?_
          refine lv_iconst (v := 1) hx hb dX11_fits_53 (by decide) ?_
          refine lv_icmp_ne (tgt := 67) hx hb dX11_fits_54 (by decide) (fun c_244 => ?_) (fun c_244 => ?_)
          · have c_244n : ¬ w_.toInt = (1 : Int) := fun q => c_244 ((fa_eq _ _).mpr q)
            refine lv_iload_n hx hb dX11_fits_67 rfl (lv_at hl 5 rfl) ?_
            refine lv_bipush (v := 9) hx hb dX11_fits_68 (by decide) ?_
            refine lv_icmp_ge (tgt := 86) hx hb dX11_fits_70 (by decide) (fun c_245 => ?_) (fun c_245 => ?_)
            · have c_245n : (9 : Int) ≤ w_.toInt := (fa_le _ _).mp c_245
              refine lv_iload_n hx hb dX11_fits_86 rfl (lv_at hl 5 rfl) ?_
              refine lv_bipush (v := 10) hx hb dX11_fits_87 (by decide) ?_
              refine lv_isub hx hb dX11_fits_89 ?_
              refine lv_istore (lv' := [(6, .int (w_ - 10)), (5, .ref wb_), (4, .ref l1), (0, .ref xo), (1, .int i1), (2, .int i2), (3, .int w_)]) hx hb dX11_fits_90 hl (by decide) (zLvf_h rfl) (fun ls hl => ?_)
              refine lv_iload hx hb dX11_fits_92 (lv_at hl 0 rfl) ?_
              refine lv_if_lt (tgt := 126) hx hb dX11_fits_94 (by decide) (fun c_246 => ?_) (fun c_246 => ?_)
              · have c_246n : (w_ - 10).toInt < (0 : Int) := (fa_lt _ _).mp c_246
                refine lv_bipush (v := (-2)) hx hb dX11_fits_126 (by decide) ?_
                have G := G.sub (bs' := [[zO10 xo t im mk rd po co tr wa wb_ fi cd], wt, z0_, z1_, wg0_, wg1_, wwA_177, w2_228, wff_199]) [6, 0, 1, 8, 2, 3, 4, 7, 5] rfl
                exact z_back hQz_ (z_iret C hr hlocks G (Nat.le_of_ble_eq_true rfl) (by omega) dX11_fits_128 ⟨laA_166, mdA_167, wyA_168, pc_A_169, f1A_170, f2A_171, f3A_172, f4A_173, f5A_174, f6A_175, n4A_176, wwA_177, l1, m2_229, wy2_230, pc2_231, g1_232, g2_233, f3B_184, g4_234, g5_235, g6_236, (zMk mdB_179 n4B_188 (zPl cr1_ inn1_ k11_)), w2_228, e0f_190, e1f_191, e2f_192, e3f_193, e4f_194, e5f_195, r1f_196, m1f_197, r2f_198, wff_199, rfl, h_200, h_201, h_202, h_203, h_204, h_205, h_206, h_238, (Or.inr rfl), hwy9, (hzk.trans h_210), (by rw [hzk]; exact h_211), (fun _ => h_240), (Or.inr h_241), h_214, h_215, h_216, h_217, (fun q => (h_219 q).elim (fun w => Or.inl ⟨w.1, w.2⟩) (fun w => Or.inr ⟨w.1, h_240⟩)), h_220, h_221, h_222, h_223⟩)
              · have c_246n : ¬ (w_ - 10).toInt < (0 : Int) := fun q => c_246 ((fa_lt _ _).mpr q)
                refine lv_iload hx hb dX11_fits_97 (lv_at hl 0 rfl) ?_
                refine lv_aload_n hx hb dX11_fits_99 rfl (lv_at hl 3 rfl) ?_
                refine z_get C G clX11 6 rfl 9 (by decide) m_fl_RX11_65 rfl dX11_fits_100 ?_
                refine zEx2 h_214 ?_
                intro a1_247 a2_248 hbs9
                clear h_214
                subst hbs9
                have G : zS T A s.heap s [wt, z0_, wg0_, wg1_, wwA_177, [zO3 fi e0f_190 e1f_191 e2f_192 e3f_193 e4f_194 e5f_195 a1_247 a2_248], [zAr T 0 a1_247 m1f_197 r1f_196], [zAr T 0 a2_248 7 r2f_198], [zO10 xo t im mk rd po co tr wa wb_ fi cd], w2_228, z1_] _ _ := G.re rfl
                refine z_get C G clX3 5 rfl 3 (by decide) m_fl_RX11_306 rfl dX11_fits_103 ?_
                refine lv_icmp_ge (tgt := 126) hx hb dX11_fits_106 (by decide) (fun c_249 => ?_) (fun c_249 => ?_)
                · have c_249n : e3f_193.toInt ≤ (w_ - 10).toInt := (fa_le _ _).mp c_249
                  refine lv_bipush (v := (-2)) hx hb dX11_fits_126 (by decide) ?_
                  have hw_250 : bFit T fi e0f_190 e1f_191 e2f_192 e3f_193 e4f_194 e5f_195 r1f_196 m1f_197 r2f_198 [zO3 fi e0f_190 e1f_191 e2f_192 e3f_193 e4f_194 e5f_195 a1_247 a2_248, zAr T 0 a1_247 m1f_197 r1f_196, zAr T 0 a2_248 7 r2f_198] := ⟨a1_247, a2_248, rfl⟩
                  have G : zS T A s.heap s [wt, z0_, wg0_, wg1_, wwA_177, [zO3 fi e0f_190 e1f_191 e2f_192 e3f_193 e4f_194 e5f_195 a1_247 a2_248, zAr T 0 a1_247 m1f_197 r1f_196, zAr T 0 a2_248 7 r2f_198], [zO10 xo t im mk rd po co tr wa wb_ fi cd], w2_228, z1_] _ _ := G.re rfl
                  have G := G.sub (bs' := [[zO10 xo t im mk rd po co tr wa wb_ fi cd], wt, z0_, z1_, wg0_, wg1_, wwA_177, w2_228, [zO3 fi e0f_190 e1f_191 e2f_192 e3f_193 e4f_194 e5f_195 a1_247 a2_248, zAr T 0 a1_247 m1f_197 r1f_196, zAr T 0 a2_248 7 r2f_198]]) [6, 0, 1, 8, 2, 3, 4, 7, 5] rfl
                  exact z_back hQz_ (z_iret C hr hlocks G (Nat.le_of_ble_eq_true rfl) (by omega) dX11_fits_128 ⟨laA_166, mdA_167, wyA_168, pc_A_169, f1A_170, f2A_171, f3A_172, f4A_173, f5A_174, f6A_175, n4A_176, wwA_177, l1, m2_229, wy2_230, pc2_231, g1_232, g2_233, f3B_184, g4_234, g5_235, g6_236, (zMk mdB_179 n4B_188 (zPl cr1_ inn1_ k11_)), w2_228, e0f_190, e1f_191, e2f_192, e3f_193, e4f_194, e5f_195, r1f_196, m1f_197, r2f_198, ([zO3 fi e0f_190 e1f_191 e2f_192 e3f_193 e4f_194 e5f_195 a1_247 a2_248, zAr T 0 a1_247 m1f_197 r1f_196, zAr T 0 a2_248 7 r2f_198]), rfl, h_200, h_201, h_202, h_203, h_204, h_205, h_206, h_238, (Or.inr rfl), hwy9, (hzk.trans h_210), (by rw [hzk]; exact h_211), (fun _ => h_240), (Or.inr h_241), hw_250, h_215, h_216, h_217, (fun q => (h_219 q).elim (fun w => Or.inl ⟨w.1, w.2⟩) (fun w => Or.inr ⟨w.1, h_240⟩)), h_220, h_221, h_222, h_223⟩)
                · have c_249n : ¬ e3f_193.toInt ≤ (w_ - 10).toInt := fun q => c_249 ((fa_le _ _).mpr q)
                  refine lv_aload hx hb dX11_fits_109 (lv_at hl 1 rfl) ?_
                  refine lv_aload_n hx hb dX11_fits_111 rfl (lv_at hl 3 rfl) ?_
                  refine z_get C G clX11 8 rfl 9 (by decide) m_fl_RX11_65 rfl dX11_fits_112 ?_
                  refine lv_iload hx hb dX11_fits_115 (lv_at hl 0 rfl) ?_
                  have hw_251 : bFit T fi e0f_190 e1f_191 e2f_192 e3f_193 e4f_194 e5f_195 r1f_196 m1f_197 r2f_198 [zO3 fi e0f_190 e1f_191 e2f_192 e3f_193 e4f_194 e5f_195 a1_247 a2_248, zAr T 0 a1_247 m1f_197 r1f_196, zAr T 0 a2_248 7 r2f_198] := ⟨a1_247, a2_248, rfl⟩
                  have G : zS T A s.heap s [wt, z0_, wg0_, wg1_, wwA_177, [zO3 fi e0f_190 e1f_191 e2f_192 e3f_193 e4f_194 e5f_195 a1_247 a2_248, zAr T 0 a1_247 m1f_197 r1f_196, zAr T 0 a2_248 7 r2f_198], [zO10 xo t im mk rd po co tr wa wb_ fi cd], w2_228, z1_] _ _ := G.re rfl
                  refine z_Vi (bc := [[zO3 fi e0f_190 e1f_191 e2f_192 e3f_193 e4f_194 e5f_195 a1_247 a2_248, zAr T 0 a1_247 m1f_197 r1f_196, zAr T 0 a2_248 7 r2f_198]]) (br := [wt, z0_, wg0_, wg1_, wwA_177, [zO10 xo t im mk rd po co tr wa wb_ fi cd], w2_228, z1_]) (As := [.int (w_ - 10)]) (rest := [.ref wb_]) C G (c_way l T fi e0f_190 e1f_191 e2f_192 e3f_193 e4f_194 e5f_195 r1f_196 m1f_197 r2f_198 ([zO3 fi e0f_190 e1f_191 e2f_192 e3f_193 e4f_194 e5f_195 a1_247 a2_248, zAr T 0 a1_247 m1f_197 r1f_196, zAr T 0 a2_248 7 r2f_198]) (w_ - 10) hw_251 hfm9) (kV_RX11_317 C.2.2.2.2 (Nat.le_of_ble_eq_true rfl) (Nat.le_of_ble_eq_true rfl)) [5] [5] rfl rfl (ci := 3) (qc := (RX3, TX3, 8)) rfl rfl (List.mem_flatten.mpr ⟨_, List.mem_of_getElem? (i := 0) rfl, (bFit_mem hw_251).choose_spec⟩) rfl rfl hl.1 dX11_fits_117 (Nat.le_of_ble_eq_true rfl) (by show _ + 0 ≤ 6 * (zNA (i1.toInt = 0 ∧ 0 < (fk 0).toInt ∧ (0 ≤ i2.toInt ∧ i2.toInt < (fk 2).toInt ∧ i2.toInt < 2) ∧ (e0f.toInt = 0 ∨ ¬ e1f.toInt = i1.toInt ∨ ¬ e2f.toInt = i2.toInt)) mdA n4A (zPl cr0_ inn0_ k10_) - n4A) + 6 * (zNA (i1.toInt = 1 ∧ 1 < (fk 0).toInt ∧ (0 ≤ i2.toInt ∧ i2.toInt < (fk 2).toInt ∧ i2.toInt < 2) ∧ (e0f.toInt = 0 ∨ ¬ e1f.toInt = i1.toInt ∨ ¬ e2f.toInt = i2.toInt)) mdB n4B (zPl cr1_ inn1_ k11_) - n4B) + 2 * (zNF (i1.toInt = 1 ∧ 1 < (fk 0).toInt ∧ (0 ≤ i2.toInt ∧ i2.toInt < (fk 2).toInt ∧ i2.toInt < 2) ∧ (e0f.toInt = 0 ∨ ¬ e1f.toInt = i1.toInt ∨ ¬ e2f.toInt = i2.toInt)) (zNF (i1.toInt = 0 ∧ 0 < (fk 0).toInt ∧ (0 ≤ i2.toInt ∧ i2.toInt < (fk 2).toInt ∧ i2.toInt < 2) ∧ (e0f.toInt = 0 ∨ ¬ e1f.toInt = i1.toInt ∨ ¬ e2f.toInt = i2.toInt)) m1f (zMw mdA wyA cr0_ inn0_ k10_)) (zMw mdB wyB cr1_ inn1_ k11_) - m1f); omega) (fun r_253 b1 H locs hw G => ?_)
                  refine zAn2 hw ?_
                  intro hbs9 h_252
                  clear hw
                  subst hbs9
                  have G : zS T A s.heap s [wt, z0_, wg0_, wg1_, wwA_177, [zO10 xo t im mk rd po co tr wa wb_ fi cd], w2_228, z1_, [zO3 fi e0f_190 e1f_191 e2f_192 e3f_193 e4f_194 e5f_195 a1_247 a2_248, zAr T 0 a1_247 m1f_197 r1f_196, zAr T 0 a2_248 7 r2f_198]] _ _ := G
                  subst h_252
                  refine z_Vi (bc := [w2_228, z1_]) (br := [wt, z0_, wg0_, wg1_, wwA_177, [zO10 xo t im mk rd po co tr wa wb_ fi cd], [zO3 fi e0f_190 e1f_191 e2f_192 e3f_193 e4f_194 e5f_195 a1_247 a2_248, zAr T 0 a1_247 m1f_197 r1f_196, zAr T 0 a2_248 7 r2f_198]]) (As := [.int (zFway r1f_196 m1f_197 (w_ - 10))]) (rest := []) C G (c_number l T wb_ l1 m2_229 wy2_230 pc2_231 g1_232 g2_233 f3B_184 g4_234 g5_235 g6_236 (zMk mdB_179 n4B_188 (zPl cr1_ inn1_ k11_)) w2_228 cr1_ inn1_ k11_ k21_ k31_ k41_ z1_ (zFway r1f_196 m1f_197 (w_ - 10)) h_238 hz1_ (by first | with_reducible assumption | with_reducible rfl | omega | assumption | rfl)) (kV_RX11_272 C.2.2.2.2 (Nat.le_of_ble_eq_true rfl) (Nat.le_of_ble_eq_true rfl)) [6, 7] [6, 0] rfl rfl (ci := 0) (qc := (RX0, TX0, 10)) rfl rfl (List.mem_flatten.mpr ⟨_, List.mem_of_getElem? (i := 0) rfl, (bWays_mem h_238).choose_spec⟩) rfl rfl hl.1 dX11_fits_120 (Nat.le_of_ble_eq_true rfl) (by show _ + 0 ≤ 6 * (zNA (i1.toInt = 0 ∧ 0 < (fk 0).toInt ∧ (0 ≤ i2.toInt ∧ i2.toInt < (fk 2).toInt ∧ i2.toInt < 2) ∧ (e0f.toInt = 0 ∨ ¬ e1f.toInt = i1.toInt ∨ ¬ e2f.toInt = i2.toInt)) mdA n4A (zPl cr0_ inn0_ k10_) - n4A) + 6 * (zNA (i1.toInt = 1 ∧ 1 < (fk 0).toInt ∧ (0 ≤ i2.toInt ∧ i2.toInt < (fk 2).toInt ∧ i2.toInt < 2) ∧ (e0f.toInt = 0 ∨ ¬ e1f.toInt = i1.toInt ∨ ¬ e2f.toInt = i2.toInt)) mdB n4B (zPl cr1_ inn1_ k11_) - n4B) + 2 * (zNF (i1.toInt = 1 ∧ 1 < (fk 0).toInt ∧ (0 ≤ i2.toInt ∧ i2.toInt < (fk 2).toInt ∧ i2.toInt < 2) ∧ (e0f.toInt = 0 ∨ ¬ e1f.toInt = i1.toInt ∨ ¬ e2f.toInt = i2.toInt)) (zNF (i1.toInt = 0 ∧ 0 < (fk 0).toInt ∧ (0 ≤ i2.toInt ∧ i2.toInt < (fk 2).toInt ∧ i2.toInt < 2) ∧ (e0f.toInt = 0 ∨ ¬ e1f.toInt = i1.toInt ∨ ¬ e2f.toInt = i2.toInt)) m1f (zMw mdA wyA cr0_ inn0_ k10_)) (zMw mdB wyB cr1_ inn1_ k11_) - m1f); omega) (fun r_254 b1 H locs hw G => ?_)
                  obtain rfl := hw
                  have G : zS T A s.heap s [wt, z0_, wg0_, wg1_, wwA_177, [zO10 xo t im mk rd po co tr wa wb_ fi cd], [zO3 fi e0f_190 e1f_191 e2f_192 e3f_193 e4f_194 e5f_195 a1_247 a2_248, zAr T 0 a1_247 m1f_197 r1f_196, zAr T 0 a2_248 7 r2f_198], w2_228, z1_] _ _ := G
                  refine lv_goto (tgt := 128) hx hb dX11_fits_123 (by decide) ?_
                  have G := G.sub (bs' := [[zO10 xo t im mk rd po co tr wa wb_ fi cd], wt, z0_, z1_, wg0_, wg1_, wwA_177, w2_228, [zO3 fi e0f_190 e1f_191 e2f_192 e3f_193 e4f_194 e5f_195 a1_247 a2_248, zAr T 0 a1_247 m1f_197 r1f_196, zAr T 0 a2_248 7 r2f_198]]) [5, 0, 1, 8, 2, 3, 4, 7, 6] rfl
                  exact z_back hQz_ (z_iret C hr hlocks G (Nat.le_of_ble_eq_true rfl) (by omega) dX11_fits_128 ⟨laA_166, mdA_167, wyA_168, pc_A_169, f1A_170, f2A_171, f3A_172, f4A_173, f5A_174, f6A_175, n4A_176, wwA_177, l1, m2_229, wy2_230, pc2_231, g1_232, g2_233, f3B_184, g4_234, g5_235, g6_236, (zMk mdB_179 n4B_188 (zPl cr1_ inn1_ k11_)), w2_228, e0f_190, e1f_191, e2f_192, e3f_193, e4f_194, e5f_195, r1f_196, m1f_197, r2f_198, ([zO3 fi e0f_190 e1f_191 e2f_192 e3f_193 e4f_194 e5f_195 a1_247 a2_248, zAr T 0 a1_247 m1f_197 r1f_196, zAr T 0 a2_248 7 r2f_198]), rfl, h_200, h_201, h_202, h_203, h_204, h_205, h_206, h_238, (Or.inr rfl), hwy9, (hzk.trans h_210), (by rw [hzk]; exact h_211), (fun _ => h_240), (Or.inr h_241), hw_251, h_215, h_216, h_217, (fun q => (h_219 q).elim (fun w => Or.inl ⟨w.1, w.2⟩) (fun w => Or.inr ⟨w.1, h_240⟩)), h_220, h_221, h_222, h_223⟩)
            · have c_245n : ¬ (9 : Int) ≤ w_.toInt := fun q => c_245 ((fa_le _ _).mpr q)
              refine lv_aload_n hx hb dX11_fits_73 rfl (lv_at hl 2 rfl) ?_
              refine z_get C G clX11 6 rfl 9 (by decide) m_fl_RX11_65 rfl dX11_fits_74 ?_
              refine lv_aload hx hb dX11_fits_77 (lv_at hl 0 rfl) ?_
              refine lv_iload_n hx hb dX11_fits_79 rfl (lv_at hl 5 rfl) ?_
              refine lv_iconst (v := 2) hx hb dX11_fits_80 (by decide) ?_
              refine lv_isub hx hb dX11_fits_81 ?_
              refine z_Vi (bc := [wff_199, w2_228, z1_]) (br := [wt, z0_, wg0_, wg1_, wwA_177, [zO10 xo t im mk rd po co tr wa wb_ fi cd]]) (As := [.ref wb_, .int (w_ - 2)]) (rest := []) C G (c_sure l T fi e0f_190 e1f_191 e2f_192 e3f_193 e4f_194 e5f_195 r1f_196 m1f_197 r2f_198 wff_199 wb_ l1 m2_229 wy2_230 pc2_231 g1_232 g2_233 f3B_184 g4_234 g5_235 g6_236 (zMk mdB_179 n4B_188 (zPl cr1_ inn1_ k11_)) w2_228 cr1_ inn1_ k11_ k21_ k31_ k41_ z1_ (w_ - 2) h_214 h_238 hz1_ hfm9) (kV_RX11_313 C.2.2.2.2 (Nat.le_of_ble_eq_true rfl) (Nat.le_of_ble_eq_true rfl)) [5, 7, 8] [5, 1, 0] rfl rfl (ci := 3) (qc := (RX3, TX3, 8)) rfl rfl (List.mem_flatten.mpr ⟨_, List.mem_of_getElem? (i := 0) rfl, (bFit_mem h_214).choose_spec⟩) rfl rfl hl.1 dX11_fits_82 (Nat.le_of_ble_eq_true rfl) (by show _ + 0 ≤ 6 * (zNA (i1.toInt = 0 ∧ 0 < (fk 0).toInt ∧ (0 ≤ i2.toInt ∧ i2.toInt < (fk 2).toInt ∧ i2.toInt < 2) ∧ (e0f.toInt = 0 ∨ ¬ e1f.toInt = i1.toInt ∨ ¬ e2f.toInt = i2.toInt)) mdA n4A (zPl cr0_ inn0_ k10_) - n4A) + 6 * (zNA (i1.toInt = 1 ∧ 1 < (fk 0).toInt ∧ (0 ≤ i2.toInt ∧ i2.toInt < (fk 2).toInt ∧ i2.toInt < 2) ∧ (e0f.toInt = 0 ∨ ¬ e1f.toInt = i1.toInt ∨ ¬ e2f.toInt = i2.toInt)) mdB n4B (zPl cr1_ inn1_ k11_) - n4B) + 2 * (zNF (i1.toInt = 1 ∧ 1 < (fk 0).toInt ∧ (0 ≤ i2.toInt ∧ i2.toInt < (fk 2).toInt ∧ i2.toInt < 2) ∧ (e0f.toInt = 0 ∨ ¬ e1f.toInt = i1.toInt ∨ ¬ e2f.toInt = i2.toInt)) (zNF (i1.toInt = 0 ∧ 0 < (fk 0).toInt ∧ (0 ≤ i2.toInt ∧ i2.toInt < (fk 2).toInt ∧ i2.toInt < 2) ∧ (e0f.toInt = 0 ∨ ¬ e1f.toInt = i1.toInt ∨ ¬ e2f.toInt = i2.toInt)) m1f (zMw mdA wyA cr0_ inn0_ k10_)) (zMw mdB wyB cr1_ inn1_ k11_) - m1f); omega) (fun r_255 b1 H locs hw G => ?_)
              obtain rfl := hw
              have G : zS T A s.heap s [wt, z0_, wg0_, wg1_, wwA_177, [zO10 xo t im mk rd po co tr wa wb_ fi cd], wff_199, w2_228, z1_] _ _ := G
              have G := G.sub (bs' := [[zO10 xo t im mk rd po co tr wa wb_ fi cd], wt, z0_, z1_, wg0_, wg1_, wwA_177, w2_228, wff_199]) [5, 0, 1, 8, 2, 3, 4, 7, 6] rfl
              exact z_back hQz_ (z_iret C hr hlocks G (Nat.le_of_ble_eq_true rfl) (by omega) dX11_fits_85 ⟨laA_166, mdA_167, wyA_168, pc_A_169, f1A_170, f2A_171, f3A_172, f4A_173, f5A_174, f6A_175, n4A_176, wwA_177, l1, m2_229, wy2_230, pc2_231, g1_232, g2_233, f3B_184, g4_234, g5_235, g6_236, (zMk mdB_179 n4B_188 (zPl cr1_ inn1_ k11_)), w2_228, e0f_190, e1f_191, e2f_192, e3f_193, e4f_194, e5f_195, r1f_196, m1f_197, r2f_198, wff_199, rfl, h_200, h_201, h_202, h_203, h_204, h_205, h_206, h_238, (Or.inr rfl), hwy9, (hzk.trans h_210), (by rw [hzk]; exact h_211), (fun _ => h_240), (Or.inr h_241), h_214, h_215, h_216, h_217, (fun q => (h_219 q).elim (fun w => Or.inl ⟨w.1, w.2⟩) (fun w => Or.inr ⟨w.1, h_240⟩)), h_220, h_221, h_222, h_223⟩)
          · have c_244n : w_.toInt = (1 : Int) := (fa_eq _ _).mp c_244
            refine lv_aload_n hx hb dX11_fits_57 rfl (lv_at hl 2 rfl) ?_
            refine z_get C G clX11 6 rfl 9 (by decide) m_fl_RX11_65 rfl dX11_fits_58 ?_
            refine lv_aload hx hb dX11_fits_61 (lv_at hl 0 rfl) ?_
            refine z_Vi (bc := [wff_199, w2_228, z1_]) (br := [wt, z0_, wg0_, wg1_, wwA_177, [zO10 xo t im mk rd po co tr wa wb_ fi cd]]) (As := [.ref wb_]) (rest := []) C G (c_ask l T fi e0f_190 e1f_191 e2f_192 e3f_193 e4f_194 e5f_195 r1f_196 m1f_197 r2f_198 wff_199 wb_ l1 m2_229 wy2_230 pc2_231 g1_232 g2_233 f3B_184 g4_234 g5_235 g6_236 (zMk mdB_179 n4B_188 (zPl cr1_ inn1_ k11_)) w2_228 cr1_ inn1_ k11_ k21_ k31_ k41_ z1_ h_214 h_238 hz1_ hn9 hfm9 (by first | with_reducible assumption | with_reducible rfl | omega | assumption | rfl)) (kV_RX11_309 C.2.2.2.2 (Nat.le_of_ble_eq_true rfl) (Nat.le_of_ble_eq_true rfl)) [5, 7, 8] [5, 1, 0] rfl rfl (ci := 3) (qc := (RX3, TX3, 8)) rfl rfl (List.mem_flatten.mpr ⟨_, List.mem_of_getElem? (i := 0) rfl, (bFit_mem h_214).choose_spec⟩) rfl rfl hl.1 dX11_fits_63 (Nat.le_of_ble_eq_true rfl) (by show _ + 0 ≤ 6 * (zNA (i1.toInt = 0 ∧ 0 < (fk 0).toInt ∧ (0 ≤ i2.toInt ∧ i2.toInt < (fk 2).toInt ∧ i2.toInt < 2) ∧ (e0f.toInt = 0 ∨ ¬ e1f.toInt = i1.toInt ∨ ¬ e2f.toInt = i2.toInt)) mdA n4A (zPl cr0_ inn0_ k10_) - n4A) + 6 * (zNA (i1.toInt = 1 ∧ 1 < (fk 0).toInt ∧ (0 ≤ i2.toInt ∧ i2.toInt < (fk 2).toInt ∧ i2.toInt < 2) ∧ (e0f.toInt = 0 ∨ ¬ e1f.toInt = i1.toInt ∨ ¬ e2f.toInt = i2.toInt)) mdB n4B (zPl cr1_ inn1_ k11_) - n4B) + 2 * (zNF (i1.toInt = 1 ∧ 1 < (fk 0).toInt ∧ (0 ≤ i2.toInt ∧ i2.toInt < (fk 2).toInt ∧ i2.toInt < 2) ∧ (e0f.toInt = 0 ∨ ¬ e1f.toInt = i1.toInt ∨ ¬ e2f.toInt = i2.toInt)) (zNF (i1.toInt = 0 ∧ 0 < (fk 0).toInt ∧ (0 ≤ i2.toInt ∧ i2.toInt < (fk 2).toInt ∧ i2.toInt < 2) ∧ (e0f.toInt = 0 ∨ ¬ e1f.toInt = i1.toInt ∨ ¬ e2f.toInt = i2.toInt)) m1f (zMw mdA wyA cr0_ inn0_ k10_)) (zMw mdB wyB cr1_ inn1_ k11_) - m1f); omega) (fun r_259 b1 H locs hw G => ?_)
            refine zEx2 hw ?_
            intro w2_256 g2_257
            refine zCu2 ?_
            intro hbs9 h_258
            clear hw
            subst hbs9
            have G : zS T A s.heap s [wt, z0_, wg0_, wg1_, wwA_177, [zO10 xo t im mk rd po co tr wa wb_ fi cd], w2_256, w2_228, z1_] _ _ := G
            have G := G.sub (bs' := [[zO10 xo t im mk rd po co tr wa wb_ fi cd], wt, z0_, z1_, wg0_, wg1_, wwA_177, w2_228, w2_256]) [5, 0, 1, 8, 2, 3, 4, 7, 6] rfl
            exact z_back hQz_ (z_iret C hr hlocks G (Nat.le_of_ble_eq_true rfl) (by omega) dX11_fits_66 ⟨laA_166, mdA_167, wyA_168, pc_A_169, f1A_170, f2A_171, f3A_172, f4A_173, f5A_174, f6A_175, n4A_176, wwA_177, l1, m2_229, wy2_230, pc2_231, g1_232, g2_233, f3B_184, g4_234, g5_235, g6_236, (zMk mdB_179 n4B_188 (zPl cr1_ inn1_ k11_)), w2_228, e0f_190, e1f_191, e2f_192, e3f_193, e4f_194, e5f_195, r1f_196, m1f_197, g2_257, w2_256, rfl, h_200, h_201, h_202, h_203, h_204, h_205, h_206, h_238, (Or.inr rfl), hwy9, (hzk.trans h_210), (by rw [hzk]; exact h_211), (fun _ => h_240), (Or.inr h_241), h_258, h_215, h_216, h_217, (fun q => (h_219 q).elim (fun w => Or.inl ⟨w.1, w.2⟩) (fun w => Or.inr ⟨w.1, h_240⟩)), h_220, h_221, h_222, h_223⟩)
        · have c_243n : w_.toInt = (0 : Int) := (fa_eq _ _).mp c_243
          refine lv_aload_n hx hb dX11_fits_44 rfl (lv_at hl 2 rfl) ?_
          refine z_get C G clX11 6 rfl 9 (by decide) m_fl_RX11_65 rfl dX11_fits_45 ?_
          refine zEx2 h_214 ?_
          intro a1_260 a2_261 hbs9
          clear h_214
          subst hbs9
          have G : zS T A s.heap s [wt, z0_, wg0_, wg1_, wwA_177, [zO3 fi e0f_190 e1f_191 e2f_192 e3f_193 e4f_194 e5f_195 a1_260 a2_261], [zAr T 0 a1_260 m1f_197 r1f_196], [zAr T 0 a2_261 7 r2f_198], [zO10 xo t im mk rd po co tr wa wb_ fi cd], w2_228, z1_] _ _ := G.re rfl
          refine z_get C G clX3 5 rfl 3 (by decide) m_fl_RX11_306 rfl dX11_fits_48 ?_
          have hw_262 : bFit T fi e0f_190 e1f_191 e2f_192 e3f_193 e4f_194 e5f_195 r1f_196 m1f_197 r2f_198 [zO3 fi e0f_190 e1f_191 e2f_192 e3f_193 e4f_194 e5f_195 a1_260 a2_261, zAr T 0 a1_260 m1f_197 r1f_196, zAr T 0 a2_261 7 r2f_198] := ⟨a1_260, a2_261, rfl⟩
          have G : zS T A s.heap s [wt, z0_, wg0_, wg1_, wwA_177, [zO3 fi e0f_190 e1f_191 e2f_192 e3f_193 e4f_194 e5f_195 a1_260 a2_261, zAr T 0 a1_260 m1f_197 r1f_196, zAr T 0 a2_261 7 r2f_198], [zO10 xo t im mk rd po co tr wa wb_ fi cd], w2_228, z1_] _ _ := G.re rfl
          have G := G.sub (bs' := [[zO10 xo t im mk rd po co tr wa wb_ fi cd], wt, z0_, z1_, wg0_, wg1_, wwA_177, w2_228, [zO3 fi e0f_190 e1f_191 e2f_192 e3f_193 e4f_194 e5f_195 a1_260 a2_261, zAr T 0 a1_260 m1f_197 r1f_196, zAr T 0 a2_261 7 r2f_198]]) [6, 0, 1, 8, 2, 3, 4, 7, 5] rfl
          exact z_back hQz_ (z_iret C hr hlocks G (Nat.le_of_ble_eq_true rfl) (by omega) dX11_fits_51 ⟨laA_166, mdA_167, wyA_168, pc_A_169, f1A_170, f2A_171, f3A_172, f4A_173, f5A_174, f6A_175, n4A_176, wwA_177, l1, m2_229, wy2_230, pc2_231, g1_232, g2_233, f3B_184, g4_234, g5_235, g6_236, (zMk mdB_179 n4B_188 (zPl cr1_ inn1_ k11_)), w2_228, e0f_190, e1f_191, e2f_192, e3f_193, e4f_194, e5f_195, r1f_196, m1f_197, r2f_198, ([zO3 fi e0f_190 e1f_191 e2f_192 e3f_193 e4f_194 e5f_195 a1_260 a2_261, zAr T 0 a1_260 m1f_197 r1f_196, zAr T 0 a2_261 7 r2f_198]), rfl, h_200, h_201, h_202, h_203, h_204, h_205, h_206, h_238, (Or.inr rfl), hwy9, (hzk.trans h_210), (by rw [hzk]; exact h_211), (fun _ => h_240), (Or.inr h_241), hw_262, h_215, h_216, h_217, (fun q => (h_219 q).elim (fun w => Or.inl ⟨w.1, w.2⟩) (fun w => Or.inr ⟨w.1, h_240⟩)), h_220, h_221, h_222, h_223⟩)
      · have c_227n : ¬ (0 : Int) ≤ w_.toInt := fun q => c_227 ((fa_le _ _).mpr q)
        refine lv_bipush (v := (-2)) hx hb dX11_fits_28 (by decide) ?_
        exact z_back hQz_ (z_iret C hr hlocks G (Nat.le_of_ble_eq_true rfl) (by omega) dX11_fits_30 ⟨laA_166, mdA_167, wyA_168, pc_A_169, f1A_170, f2A_171, f3A_172, f4A_173, f5A_174, f6A_175, n4A_176, wwA_177, laB_178, mdB_179, wyB_180, pc_B_181, f1B_182, f2B_183, f3B_184, f4B_185, f5B_186, f6B_187, n4B_188, wwB_189, e0f_190, e1f_191, e2f_192, e3f_193, e4f_194, e5f_195, r1f_196, m1f_197, r2f_198, wff_199, rfl, h_200, h_201, h_202, h_203, h_204, h_205, h_206, h_207, h_208, h_209, h_210, h_211, h_212, h_213, h_214, h_215, h_216, h_217, h_219, h_220, h_221, h_222, h_223⟩)
set_option maxHeartbeats 4000000 in
set_option maxRecDepth 100000 in
/-- c_k_odds -/
theorem c_k_odds (l : Launch) (T : zTy) (xo : Nat) (t : Nat) (im : Nat) (mk : Nat) (rd : Nat) (po : Nat) (co : Nat) (tr : Nat) (wa : Nat) (wb_ : Nat) (fi : Nat) (cd : Nat) (l0 : Nat) (l1 : Nat) (d0 : Nat) (d1 : Nat) (g0 : Nat) (g1 : Nat) (ln : Int32) (fl : Int32) (pl : Int32) (ft : Nat → Int32) (fk : Nat → Int32) (wt : va_W) (cr0_ : Int32) (inn0_ : Int32) (k10_ : Nat → Int32) (k20_ : Nat → Int32) (k30_ : Nat → Int32) (k40_ : Nat → Int32) (z0_ : va_W) (cr1_ : Int32) (inn1_ : Int32) (k11_ : Nat → Int32) (k21_ : Nat → Int32) (k31_ : Nat → Int32) (k41_ : Nat → Int32) (z1_ : va_W) (gg0_ : Int32) (q10_ : Nat → Int32) (q20_ : Nat → Int32) (wg0_ : va_W) (gg1_ : Int32) (q11_ : Nat → Int32) (q21_ : Nat → Int32) (wg1_ : va_W) (laA : Nat) (mdA : Int32) (wyA : Int32) (pc_A : Int32) (f1A : Nat → Int32) (f2A : Nat → Int32) (f3A : Nat → Int32) (f4A : Nat → Int32) (f5A : Nat → Int32) (f6A : Nat → Int32) (n4A : Nat) (wwA : va_W) (laB : Nat) (mdB : Int32) (wyB : Int32) (pc_B : Int32) (f1B : Nat → Int32) (f2B : Nat → Int32) (f3B : Nat → Int32) (f4B : Nat → Int32) (f5B : Nat → Int32) (f6B : Nat → Int32) (n4B : Nat) (wwB : va_W) (e0f : Int32) (e1f : Int32) (e2f : Int32) (e3f : Int32) (e4f : Int32) (e5f : Int32) (r1f : Nat → Int32) (m1f : Nat) (r2f : Nat → Int32) (wff : va_W) (i1 : Int32) (i2 : Int32) (a_ : Int32) (b_ : Int32) (w_ : Int32) (ht : bTold T t l0 l1 d0 d1 g0 g1 ln fl pl ft fk wt) (hK : zKT fk) (hz0_ : bLand T l0 cr0_ inn0_ k10_ k20_ k30_ k40_ z0_) (hI0_ : zLI cr0_ k10_ k30_) (hz1_ : bLand T l1 cr1_ inn1_ k11_ k21_ k31_ k41_ z1_) (hI1_ : zLI cr1_ k11_ k31_) (hg0_ : bLog T g0 gg0_ q10_ q20_ wg0_) (hg1_ : bLog T g1 gg1_ q11_ q21_ wg1_) (hwwA : bWays T wa laA mdA wyA pc_A f1A f2A f3A f4A f5A f6A n4A wwA) (hpwA : zPw n4A) (hmdA : mdA = 0 ∨ laA = l0) (hwmA : 0 ≤ wyA.toInt ∧ wyA.toInt ≤ 16384) (hTbA : mdA = 0 ∨ zTab cr0_ inn0_ k10_ k20_ wyA pc_A f1A f2A f5A n4A) (hLq0 : zLq cr0_ k10_ k20_) (hwwB : bWays T wb_ laB mdB wyB pc_B f1B f2B f3B f4B f5B f6B n4B wwB) (hpwB : zPw n4B) (hmdB : mdB = 0 ∨ laB = l1) (hwmB : 0 ≤ wyB.toInt ∧ wyB.toInt ≤ 16384) (hTbB : mdB = 0 ∨ zTab cr1_ inn1_ k11_ k21_ wyB pc_B f1B f2B f5B n4B) (hLq1 : zLq cr1_ k11_ k21_) (hwff : bFit T fi e0f e1f e2f e3f e4f e5f r1f m1f r2f wff) (hfw : zFw m1f) (hf3 : 0 ≤ e3f.toInt) (hFI : (¬ e0f = 0 → e1f.toInt = 0 ∧ ¬ mdA = 0 ∨ e1f.toInt = 1 ∧ ¬ mdB = 0)) (hFt00 : (¬ e0f = 0 → e1f.toInt = 0 → e2f.toInt = 0 → gFt (fun w => gF (aW cr0_ inn0_ k10_) k20_ cr0_ inn0_ q10_ q20_ w gg0_.toInt.toNat) (aPr (aW cr0_ inn0_ k10_) 7) e3f e4f e5f r1f m1f)) (hFt01 : (¬ e0f = 0 → e1f.toInt = 0 → e2f.toInt = 1 → gFt (fun w => gF (aW cr0_ inn0_ k10_) k20_ cr0_ inn0_ q11_ q21_ w gg1_.toInt.toNat) (aPr (aW cr0_ inn0_ k10_) 7) e3f e4f e5f r1f m1f)) (hFt10 : (¬ e0f = 0 → e1f.toInt = 1 → e2f.toInt = 0 → gFt (fun w => gF (aW cr1_ inn1_ k11_) k21_ cr1_ inn1_ q10_ q20_ w gg0_.toInt.toNat) (aPr (aW cr1_ inn1_ k11_) 7) e3f e4f e5f r1f m1f)) (hFt11 : (¬ e0f = 0 → e1f.toInt = 1 → e2f.toInt = 1 → gFt (fun w => gF (aW cr1_ inn1_ k11_) k21_ cr1_ inn1_ q11_ q21_ w gg1_.toInt.toNat) (aPr (aW cr1_ inn1_ k11_) 7) e3f e4f e5f r1f m1f)) (hGg0 : 0 ≤ gg0_.toInt ∧ gg0_.toInt ≤ 8) (hGg1 : 0 ≤ gg1_.toInt ∧ gg1_.toInt ≤ 8) : zMi l T yX11_odds cX11_odds 8 (some .int) 8 7 (6 * (zNA (i1.toInt = 0 ∧ 0 < (fk 0).toInt ∧ (0 ≤ i2.toInt ∧ i2.toInt < (fk 2).toInt ∧ i2.toInt < 2) ∧ (e0f.toInt = 0 ∨ ¬ e1f.toInt = i1.toInt ∨ ¬ e2f.toInt = i2.toInt)) mdA n4A (zPl cr0_ inn0_ k10_) - n4A) + 6 * (zNA (i1.toInt = 1 ∧ 1 < (fk 0).toInt ∧ (0 ≤ i2.toInt ∧ i2.toInt < (fk 2).toInt ∧ i2.toInt < 2) ∧ (e0f.toInt = 0 ∨ ¬ e1f.toInt = i1.toInt ∨ ¬ e2f.toInt = i2.toInt)) mdB n4B (zPl cr1_ inn1_ k11_) - n4B) + 2 * (zNF (i1.toInt = 1 ∧ 1 < (fk 0).toInt ∧ (0 ≤ i2.toInt ∧ i2.toInt < (fk 2).toInt ∧ i2.toInt < 2) ∧ (e0f.toInt = 0 ∨ ¬ e1f.toInt = i1.toInt ∨ ¬ e2f.toInt = i2.toInt)) (zNF (i1.toInt = 0 ∧ 0 < (fk 0).toInt ∧ (0 ≤ i2.toInt ∧ i2.toInt < (fk 2).toInt ∧ i2.toInt < 2) ∧ (e0f.toInt = 0 ∨ ¬ e1f.toInt = i1.toInt ∨ ¬ e2f.toInt = i2.toInt)) m1f (zMw mdA wyA cr0_ inn0_ k10_)) (zMw mdB wyB cr1_ inn1_ k11_) - m1f)) [.ref xo, .int i1, .int i2, .int a_, .int b_, .int w_] [[zO10 xo t im mk rd po co tr wa wb_ fi cd], wt, z0_, z1_, wg0_, wg1_, wwA, wwB, wff] (fun (r : Int32) bs => ∃ (laA_2 : Nat) (mdA_2 : Int32) (wyA_2 : Int32) (pc_A_2 : Int32) (f1A_2 : Nat → Int32) (f2A_2 : Nat → Int32) (f3A_2 : Nat → Int32) (f4A_2 : Nat → Int32) (f5A_2 : Nat → Int32) (f6A_2 : Nat → Int32) (n4A_2 : Nat) (wwA_2 : va_W) (laB_2 : Nat) (mdB_2 : Int32) (wyB_2 : Int32) (pc_B_2 : Int32) (f1B_2 : Nat → Int32) (f2B_2 : Nat → Int32) (f3B_2 : Nat → Int32) (f4B_2 : Nat → Int32) (f5B_2 : Nat → Int32) (f6B_2 : Nat → Int32) (n4B_2 : Nat) (wwB_2 : va_W) (e0f_2 : Int32) (e1f_2 : Int32) (e2f_2 : Int32) (e3f_2 : Int32) (e4f_2 : Int32) (e5f_2 : Int32) (r1f_2 : Nat → Int32) (m1f_2 : Nat) (r2f_2 : Nat → Int32) (wff_2 : va_W), bs = [[zO10 xo t im mk rd po co tr wa wb_ fi cd], wt, z0_, z1_, wg0_, wg1_, wwA_2, wwB_2, wff_2] ∧ bWays T wa laA_2 mdA_2 wyA_2 pc_A_2 f1A_2 f2A_2 f3A_2 f4A_2 f5A_2 f6A_2 n4A_2 wwA_2 ∧ (mdA_2 = 0 ∨ laA_2 = l0) ∧ (0 ≤ wyA_2.toInt ∧ wyA_2.toInt ≤ 16384) ∧ n4A_2 = zNA (i1.toInt = 0 ∧ 0 < (fk 0).toInt ∧ (0 ≤ i2.toInt ∧ i2.toInt < (fk 2).toInt ∧ i2.toInt < 2) ∧ (e0f.toInt = 0 ∨ ¬ e1f.toInt = i1.toInt ∨ ¬ e2f.toInt = i2.toInt)) mdA n4A (zPl cr0_ inn0_ k10_) ∧ zPw n4A_2 ∧ (¬ mdA = 0 → ¬ mdA_2 = 0) ∧ (mdA_2 = 0 ∨ zTab cr0_ inn0_ k10_ k20_ wyA_2 pc_A_2 f1A_2 f2A_2 f5A_2 n4A_2) ∧ bWays T wb_ laB_2 mdB_2 wyB_2 pc_B_2 f1B_2 f2B_2 f3B_2 f4B_2 f5B_2 f6B_2 n4B_2 wwB_2 ∧ (mdB_2 = 0 ∨ laB_2 = l1) ∧ (0 ≤ wyB_2.toInt ∧ wyB_2.toInt ≤ 16384) ∧ n4B_2 = zNA (i1.toInt = 1 ∧ 1 < (fk 0).toInt ∧ (0 ≤ i2.toInt ∧ i2.toInt < (fk 2).toInt ∧ i2.toInt < 2) ∧ (e0f.toInt = 0 ∨ ¬ e1f.toInt = i1.toInt ∨ ¬ e2f.toInt = i2.toInt)) mdB n4B (zPl cr1_ inn1_ k11_) ∧ zPw n4B_2 ∧ (¬ mdB = 0 → ¬ mdB_2 = 0) ∧ (mdB_2 = 0 ∨ zTab cr1_ inn1_ k11_ k21_ wyB_2 pc_B_2 f1B_2 f2B_2 f5B_2 n4B_2) ∧ bFit T fi e0f_2 e1f_2 e2f_2 e3f_2 e4f_2 e5f_2 r1f_2 m1f_2 r2f_2 wff_2 ∧ m1f_2 = zNF (i1.toInt = 1 ∧ 1 < (fk 0).toInt ∧ (0 ≤ i2.toInt ∧ i2.toInt < (fk 2).toInt ∧ i2.toInt < 2) ∧ (e0f.toInt = 0 ∨ ¬ e1f.toInt = i1.toInt ∨ ¬ e2f.toInt = i2.toInt)) (zNF (i1.toInt = 0 ∧ 0 < (fk 0).toInt ∧ (0 ≤ i2.toInt ∧ i2.toInt < (fk 2).toInt ∧ i2.toInt < 2) ∧ (e0f.toInt = 0 ∨ ¬ e1f.toInt = i1.toInt ∨ ¬ e2f.toInt = i2.toInt)) m1f (zMw mdA wyA cr0_ inn0_ k10_)) (zMw mdB wyB cr1_ inn1_ k11_) ∧ zFw m1f_2 ∧ 0 ≤ e3f_2.toInt ∧ (¬ e0f_2 = 0 → e1f_2.toInt = 0 ∧ ¬ mdA_2 = 0 ∨ e1f_2.toInt = 1 ∧ ¬ mdB_2 = 0) ∧ (¬ e0f_2 = 0 → e1f_2.toInt = 0 → e2f_2.toInt = 0 → gFt (fun w => gF (aW cr0_ inn0_ k10_) k20_ cr0_ inn0_ q10_ q20_ w gg0_.toInt.toNat) (aPr (aW cr0_ inn0_ k10_) 7) e3f_2 e4f_2 e5f_2 r1f_2 m1f_2) ∧ (¬ e0f_2 = 0 → e1f_2.toInt = 0 → e2f_2.toInt = 1 → gFt (fun w => gF (aW cr0_ inn0_ k10_) k20_ cr0_ inn0_ q11_ q21_ w gg1_.toInt.toNat) (aPr (aW cr0_ inn0_ k10_) 7) e3f_2 e4f_2 e5f_2 r1f_2 m1f_2) ∧ (¬ e0f_2 = 0 → e1f_2.toInt = 1 → e2f_2.toInt = 0 → gFt (fun w => gF (aW cr1_ inn1_ k11_) k21_ cr1_ inn1_ q10_ q20_ w gg0_.toInt.toNat) (aPr (aW cr1_ inn1_ k11_) 7) e3f_2 e4f_2 e5f_2 r1f_2 m1f_2) ∧ (¬ e0f_2 = 0 → e1f_2.toInt = 1 → e2f_2.toInt = 1 → gFt (fun w => gF (aW cr1_ inn1_ k11_) k21_ cr1_ inn1_ q11_ q21_ w gg1_.toInt.toNat) (aPr (aW cr1_ inn1_ k11_) 7) e3f_2 e4f_2 e5f_2 r1f_2 m1f_2)) := by
  refine zMi_of (own := RX11) (by decide) rfl (Nat.le_of_ble_eq_true rfl) ?_
  intro p e s m args below meth c A ls C hr hlocks hnm hAe G hl
  refine zHide (fun Qz_ hQz_ => ?_)
  have hx := C.1
  have hb := C.2.1
  replace hmdA : zHd (mdA = 0 ∨ laA = l0) := hmdA
  replace hTbA : zHd (mdA = 0 ∨ zTab cr0_ inn0_ k10_ k20_ wyA pc_A f1A f2A f5A n4A) := hTbA
  replace hmdB : zHd (mdB = 0 ∨ laB = l1) := hmdB
  replace hTbB : zHd (mdB = 0 ∨ zTab cr1_ inn1_ k11_ k21_ wyB pc_B f1B f2B f5B n4B) := hTbB
  replace hFI : zHd ((¬ e0f = 0 → e1f.toInt = 0 ∧ ¬ mdA = 0 ∨ e1f.toInt = 1 ∧ ¬ mdB = 0)) := hFI
  have hl : lv_has ls 8 [(0, .ref xo), (1, .int i1), (2, .int i2), (3, .int a_), (4, .int b_), (5, .int w_)] := hl
  refine lv_aload_n hx hb dX11_odds_0 rfl (lv_at hl 0 rfl) ?_
  refine z_get C G clX11 0 rfl 0 (by decide) m_fl_RX11_10 rfl dX11_odds_1 ?_
  refine lv_iload_n hx hb dX11_odds_4 rfl (lv_at hl 1 rfl) ?_
  refine z_Vq (bc := [wt]) (br := [[zO10 xo t im mk rd po co tr wa wb_ fi cd], z0_, z1_, wg0_, wg1_, wwA, wwB, wff]) (As := [.int i1]) (rest := []) C G (c_landAt l T t l0 l1 d0 d1 g0 g1 ln fl pl ft fk wt i1 ht) (kV_RX11_121 C.2.2.2.2 (Nat.le_of_ble_eq_true rfl) (Nat.le_of_ble_eq_true rfl)) [1] [1] rfl rfl (ci := 8) (qc := (RX9, TX9, 8)) rfl rfl (List.mem_flatten.mpr ⟨_, List.mem_of_getElem? (i := 0) rfl, (bTold_mem ht).choose_spec⟩) rfl rfl hl.1 dX11_odds_5 (Nat.le_of_ble_eq_true rfl) (by show _ + 0 ≤ 6 * (zNA (i1.toInt = 0 ∧ 0 < (fk 0).toInt ∧ (0 ≤ i2.toInt ∧ i2.toInt < (fk 2).toInt ∧ i2.toInt < 2) ∧ (e0f.toInt = 0 ∨ ¬ e1f.toInt = i1.toInt ∨ ¬ e2f.toInt = i2.toInt)) mdA n4A (zPl cr0_ inn0_ k10_) - n4A) + 6 * (zNA (i1.toInt = 1 ∧ 1 < (fk 0).toInt ∧ (0 ≤ i2.toInt ∧ i2.toInt < (fk 2).toInt ∧ i2.toInt < 2) ∧ (e0f.toInt = 0 ∨ ¬ e1f.toInt = i1.toInt ∨ ¬ e2f.toInt = i2.toInt)) mdB n4B (zPl cr1_ inn1_ k11_) - n4B) + 2 * (zNF (i1.toInt = 1 ∧ 1 < (fk 0).toInt ∧ (0 ≤ i2.toInt ∧ i2.toInt < (fk 2).toInt ∧ i2.toInt < 2) ∧ (e0f.toInt = 0 ∨ ¬ e1f.toInt = i1.toInt ∨ ¬ e2f.toInt = i2.toInt)) (zNF (i1.toInt = 0 ∧ 0 < (fk 0).toInt ∧ (0 ≤ i2.toInt ∧ i2.toInt < (fk 2).toInt ∧ i2.toInt < 2) ∧ (e0f.toInt = 0 ∨ ¬ e1f.toInt = i1.toInt ∨ ¬ e2f.toInt = i2.toInt)) m1f (zMw mdA wyA cr0_ inn0_ k10_)) (zMw mdB wyB cr1_ inn1_ k11_) - m1f); omega) (fun r_2 b1 H locs hw G => ?_)
  refine zAn2 hw ?_
  intro hbs9 hc_1
  clear hw
  subst hbs9
  have G : zS T A s.heap s [[zO10 xo t im mk rd po co tr wa wb_ fi cd], z0_, z1_, wg0_, wg1_, wwA, wwB, wff, wt] _ _ := G
  rcases hc_1 with ⟨rfl, h_3⟩ | ⟨rfl, h_4, h_5⟩ | ⟨rfl, h_6, h_7⟩
  · have h_3 : (i1.toInt < 0 ∨ (fk 0).toInt ≤ i1.toInt ∨ 2 ≤ i1.toInt) := h_3
    refine lv_astoreN (lv' := [(6, .null), (0, .ref xo), (1, .int i1), (2, .int i2), (3, .int a_), (4, .int b_), (5, .int w_)]) hx hb dX11_odds_8 hl (by decide) (zLvf_h rfl) (fun ls hl => ?_)
    refine lv_aload_n hx hb dX11_odds_10 rfl (lv_at hl 1 rfl) ?_
    refine lv_iload_n hx hb dX11_odds_11 rfl (lv_at hl 2 rfl) ?_
    refine lv_iload_n hx hb dX11_odds_12 rfl (lv_at hl 3 rfl) ?_
    refine z_Vi (bc := [[zO10 xo t im mk rd po co tr wa wb_ fi cd], wt, z0_, z1_, wg0_, wg1_, wwA, wwB, wff]) (br := []) (As := [.int i1, .int i2]) (rest := []) C G (c_e_fit l T xo t im mk rd po co tr wa wb_ fi cd l0 l1 d0 d1 g0 g1 ln fl pl ft fk wt cr0_ inn0_ k10_ k20_ k30_ k40_ z0_ cr1_ inn1_ k11_ k21_ k31_ k41_ z1_ gg0_ q10_ q20_ wg0_ gg1_ q11_ q21_ wg1_ laA mdA wyA pc_A f1A f2A f3A f4A f5A f6A n4A wwA laB mdB wyB pc_B f1B f2B f3B f4B f5B f6B n4B wwB e0f e1f e2f e3f e4f e5f r1f m1f r2f wff i1 i2 ht (by first | with_reducible assumption | with_reducible rfl | omega | assumption | rfl) hz0_ (by first | with_reducible assumption | with_reducible rfl | omega | assumption | rfl) hz1_ (by first | with_reducible assumption | with_reducible rfl | omega | assumption | rfl) hg0_ hg1_ hwwA (by first | with_reducible assumption | with_reducible rfl | omega | assumption | rfl) (by first | with_reducible assumption | with_reducible rfl | omega | assumption | rfl) (by first | with_reducible assumption | with_reducible rfl | omega | assumption | rfl) (by first | with_reducible assumption | with_reducible rfl | omega | assumption | rfl) (by first | with_reducible assumption | with_reducible rfl | omega | assumption | rfl) hwwB (by first | with_reducible assumption | with_reducible rfl | omega | assumption | rfl) (by first | with_reducible assumption | with_reducible rfl | omega | assumption | rfl) (by first | with_reducible assumption | with_reducible rfl | omega | assumption | rfl) (by first | with_reducible assumption | with_reducible rfl | omega | assumption | rfl) (by first | with_reducible assumption | with_reducible rfl | omega | assumption | rfl) hwff hfw hf3 hFI hFt00 hFt01 hFt10 hFt11 hGg0 hGg1) (kV_RX11_302 C.2.2.2.2 (Nat.le_of_ble_eq_true rfl) (Nat.le_of_ble_eq_true rfl)) [0, 8, 1, 2, 3, 4, 5, 6, 7] [0, 0, 0, 0, 0, 0, 0, 0, 0] rfl rfl (ci := 10) (qc := (RX11, TX11, 11)) rfl rfl (List.mem_flatten.mpr ⟨_, List.mem_of_getElem? (i := 0) rfl, List.mem_cons_self⟩) rfl rfl hl.1 dX11_odds_13 (Nat.le_of_ble_eq_true rfl) (by show _ + (6 * (zNA (i1.toInt = 0 ∧ 0 < (fk 0).toInt ∧ (0 ≤ i2.toInt ∧ i2.toInt < (fk 2).toInt ∧ i2.toInt < 2) ∧ (e0f.toInt = 0 ∨ ¬ e1f.toInt = i1.toInt ∨ ¬ e2f.toInt = i2.toInt)) mdA n4A (zPl cr0_ inn0_ k10_) - n4A) + 6 * (zNA (i1.toInt = 1 ∧ 1 < (fk 0).toInt ∧ (0 ≤ i2.toInt ∧ i2.toInt < (fk 2).toInt ∧ i2.toInt < 2) ∧ (e0f.toInt = 0 ∨ ¬ e1f.toInt = i1.toInt ∨ ¬ e2f.toInt = i2.toInt)) mdB n4B (zPl cr1_ inn1_ k11_) - n4B) + 2 * (zNF (i1.toInt = 1 ∧ 1 < (fk 0).toInt ∧ (0 ≤ i2.toInt ∧ i2.toInt < (fk 2).toInt ∧ i2.toInt < 2) ∧ (e0f.toInt = 0 ∨ ¬ e1f.toInt = i1.toInt ∨ ¬ e2f.toInt = i2.toInt)) (zNF (i1.toInt = 0 ∧ 0 < (fk 0).toInt ∧ (0 ≤ i2.toInt ∧ i2.toInt < (fk 2).toInt ∧ i2.toInt < 2) ∧ (e0f.toInt = 0 ∨ ¬ e1f.toInt = i1.toInt ∨ ¬ e2f.toInt = i2.toInt)) m1f (zMw mdA wyA cr0_ inn0_ k10_)) (zMw mdB wyB cr1_ inn1_ k11_) - m1f)) ≤ 6 * (zNA (i1.toInt = 0 ∧ 0 < (fk 0).toInt ∧ (0 ≤ i2.toInt ∧ i2.toInt < (fk 2).toInt ∧ i2.toInt < 2) ∧ (e0f.toInt = 0 ∨ ¬ e1f.toInt = i1.toInt ∨ ¬ e2f.toInt = i2.toInt)) mdA n4A (zPl cr0_ inn0_ k10_) - n4A) + 6 * (zNA (i1.toInt = 1 ∧ 1 < (fk 0).toInt ∧ (0 ≤ i2.toInt ∧ i2.toInt < (fk 2).toInt ∧ i2.toInt < 2) ∧ (e0f.toInt = 0 ∨ ¬ e1f.toInt = i1.toInt ∨ ¬ e2f.toInt = i2.toInt)) mdB n4B (zPl cr1_ inn1_ k11_) - n4B) + 2 * (zNF (i1.toInt = 1 ∧ 1 < (fk 0).toInt ∧ (0 ≤ i2.toInt ∧ i2.toInt < (fk 2).toInt ∧ i2.toInt < 2) ∧ (e0f.toInt = 0 ∨ ¬ e1f.toInt = i1.toInt ∨ ¬ e2f.toInt = i2.toInt)) (zNF (i1.toInt = 0 ∧ 0 < (fk 0).toInt ∧ (0 ≤ i2.toInt ∧ i2.toInt < (fk 2).toInt ∧ i2.toInt < 2) ∧ (e0f.toInt = 0 ∨ ¬ e1f.toInt = i1.toInt ∨ ¬ e2f.toInt = i2.toInt)) m1f (zMw mdA wyA cr0_ inn0_ k10_)) (zMw mdB wyB cr1_ inn1_ k11_) - m1f); omega) (fun r_67 b1 H locs hw G => ?_)
    refine zEx34 hw ?_
    intro laA_8 mdA_9 wyA_10 pc_A_11 f1A_12 f2A_13 f3A_14 f4A_15 f5A_16 f6A_17 n4A_18 wwA_19 laB_20 mdB_21 wyB_22 pc_B_23 f1B_24 f2B_25 f3B_26 f4B_27 f5B_28 f6B_29 n4B_30 wwB_31 e0f_32 e1f_33 e2f_34 e3f_35 e4f_36 e5f_37 r1f_38 m1f_39 r2f_40 wff_41
    refine zCu26 ?_
    intro hbs9 h_42 h_43 h_44 h_45 h_46 h_47 h_48 h_49 h_50 h_51 h_52 h_53 h_54 h_55 h_56 h_57 h_58 h_59 h_60 h_61 h_62 h_63 h_64 h_65 h_66
    clear hw
    subst hbs9
    have G : zS T A s.heap s [[zO10 xo t im mk rd po co tr wa wb_ fi cd], wt, z0_, z1_, wg0_, wg1_, wwA_19, wwB_31, wff_41] _ _ := G
    replace h_43 : zHd ((mdA_9 = 0 ∨ laA_8 = l0)) := h_43
    replace h_47 : zHd ((¬ mdA = 0 → ¬ mdA_9 = 0)) := h_47
    replace h_48 : zHd ((mdA_9 = 0 ∨ zTab cr0_ inn0_ k10_ k20_ wyA_10 pc_A_11 f1A_12 f2A_13 f5A_16 n4A_18)) := h_48
    replace h_50 : zHd ((mdB_21 = 0 ∨ laB_20 = l1)) := h_50
    replace h_54 : zHd ((¬ mdB = 0 → ¬ mdB_21 = 0)) := h_54
    replace h_55 : zHd ((mdB_21 = 0 ∨ zTab cr1_ inn1_ k11_ k21_ wyB_22 pc_B_23 f1B_24 f2B_25 f5B_28 n4B_30)) := h_55
    replace h_61 : zHd ((¬ e0f_32 = 0 → e1f_33.toInt = 0 ∧ ¬ mdA_9 = 0 ∨ e1f_33.toInt = 1 ∧ ¬ mdB_21 = 0)) := h_61
    have hfm9 : m1f_39 ≤ 16384 := zFw_le h_58
    refine lv_if_eq (tgt := 40) hx hb dX11_odds_16 (by decide) (fun c_68 => ?_) (fun c_68 => ?_)
    · have c_68n : r_67.toInt = (0 : Int) := (fa_eq _ _).mp c_68
      refine lv_iconst (v := (-1)) hx hb dX11_odds_40 (by decide) ?_
      exact z_back hQz_ (z_iret C hr hlocks G (Nat.le_of_ble_eq_true rfl) (by omega) dX11_odds_41 ⟨laA_8, mdA_9, wyA_10, pc_A_11, f1A_12, f2A_13, f3A_14, f4A_15, f5A_16, f6A_17, n4A_18, wwA_19, laB_20, mdB_21, wyB_22, pc_B_23, f1B_24, f2B_25, f3B_26, f4B_27, f5B_28, f6B_29, n4B_30, wwB_31, e0f_32, e1f_33, e2f_34, e3f_35, e4f_36, e5f_37, r1f_38, m1f_39, r2f_40, wff_41, rfl, h_42, h_43, h_44, h_45, h_46, h_47, h_48, h_49, h_50, h_51, h_52, h_53, h_54, h_55, h_56, h_57, h_58, h_59, h_61, h_62, h_63, h_64, h_65⟩)
    · have c_68n : ¬ r_67.toInt = (0 : Int) := fun q => c_68 ((fa_eq _ _).mpr q)
      refine lv_aloadN hx hb dX11_odds_19 (lv_at hl 0 rfl) ?_
      refine lv_ifnullN (tgt := 40) hx hb dX11_odds_21 (by decide) ?_
      refine lv_iconst (v := (-1)) hx hb dX11_odds_40 (by decide) ?_
      exact z_back hQz_ (z_iret C hr hlocks G (Nat.le_of_ble_eq_true rfl) (by omega) dX11_odds_41 ⟨laA_8, mdA_9, wyA_10, pc_A_11, f1A_12, f2A_13, f3A_14, f4A_15, f5A_16, f6A_17, n4A_18, wwA_19, laB_20, mdB_21, wyB_22, pc_B_23, f1B_24, f2B_25, f3B_26, f4B_27, f5B_28, f6B_29, n4B_30, wwB_31, e0f_32, e1f_33, e2f_34, e3f_35, e4f_36, e5f_37, r1f_38, m1f_39, r2f_40, wff_41, rfl, h_42, h_43, h_44, h_45, h_46, h_47, h_48, h_49, h_50, h_51, h_52, h_53, h_54, h_55, h_56, h_57, h_58, h_59, h_61, h_62, h_63, h_64, h_65⟩)
  · have h_4 : i1.toInt = 0 := h_4
    have h_5 : 0 < (fk 0).toInt := h_5
    refine lv_astore (lv' := [(6, .ref l0), (0, .ref xo), (1, .int i1), (2, .int i2), (3, .int a_), (4, .int b_), (5, .int w_)]) hx hb dX11_odds_8 hl (by decide) (zLvf_h rfl) (fun ls hl => ?_)
    refine lv_aload_n hx hb dX11_odds_10 rfl (lv_at hl 1 rfl) ?_
    refine lv_iload_n hx hb dX11_odds_11 rfl (lv_at hl 2 rfl) ?_
    refine lv_iload_n hx hb dX11_odds_12 rfl (lv_at hl 3 rfl) ?_
    refine z_Vi (bc := [[zO10 xo t im mk rd po co tr wa wb_ fi cd], wt, z0_, z1_, wg0_, wg1_, wwA, wwB, wff]) (br := []) (As := [.int i1, .int i2]) (rest := []) C G (c_e_fit l T xo t im mk rd po co tr wa wb_ fi cd l0 l1 d0 d1 g0 g1 ln fl pl ft fk wt cr0_ inn0_ k10_ k20_ k30_ k40_ z0_ cr1_ inn1_ k11_ k21_ k31_ k41_ z1_ gg0_ q10_ q20_ wg0_ gg1_ q11_ q21_ wg1_ laA mdA wyA pc_A f1A f2A f3A f4A f5A f6A n4A wwA laB mdB wyB pc_B f1B f2B f3B f4B f5B f6B n4B wwB e0f e1f e2f e3f e4f e5f r1f m1f r2f wff i1 i2 ht (by first | with_reducible assumption | with_reducible rfl | omega | assumption | rfl) hz0_ (by first | with_reducible assumption | with_reducible rfl | omega | assumption | rfl) hz1_ (by first | with_reducible assumption | with_reducible rfl | omega | assumption | rfl) hg0_ hg1_ hwwA (by first | with_reducible assumption | with_reducible rfl | omega | assumption | rfl) (by first | with_reducible assumption | with_reducible rfl | omega | assumption | rfl) (by first | with_reducible assumption | with_reducible rfl | omega | assumption | rfl) (by first | with_reducible assumption | with_reducible rfl | omega | assumption | rfl) (by first | with_reducible assumption | with_reducible rfl | omega | assumption | rfl) hwwB (by first | with_reducible assumption | with_reducible rfl | omega | assumption | rfl) (by first | with_reducible assumption | with_reducible rfl | omega | assumption | rfl) (by first | with_reducible assumption | with_reducible rfl | omega | assumption | rfl) (by first | with_reducible assumption | with_reducible rfl | omega | assumption | rfl) (by first | with_reducible assumption | with_reducible rfl | omega | assumption | rfl) hwff hfw hf3 hFI hFt00 hFt01 hFt10 hFt11 hGg0 hGg1) (kV_RX11_302 C.2.2.2.2 (Nat.le_of_ble_eq_true rfl) (Nat.le_of_ble_eq_true rfl)) [0, 8, 1, 2, 3, 4, 5, 6, 7] [0, 0, 0, 0, 0, 0, 0, 0, 0] rfl rfl (ci := 10) (qc := (RX11, TX11, 11)) rfl rfl (List.mem_flatten.mpr ⟨_, List.mem_of_getElem? (i := 0) rfl, List.mem_cons_self⟩) rfl rfl hl.1 dX11_odds_13 (Nat.le_of_ble_eq_true rfl) (by show _ + (6 * (zNA (i1.toInt = 0 ∧ 0 < (fk 0).toInt ∧ (0 ≤ i2.toInt ∧ i2.toInt < (fk 2).toInt ∧ i2.toInt < 2) ∧ (e0f.toInt = 0 ∨ ¬ e1f.toInt = i1.toInt ∨ ¬ e2f.toInt = i2.toInt)) mdA n4A (zPl cr0_ inn0_ k10_) - n4A) + 6 * (zNA (i1.toInt = 1 ∧ 1 < (fk 0).toInt ∧ (0 ≤ i2.toInt ∧ i2.toInt < (fk 2).toInt ∧ i2.toInt < 2) ∧ (e0f.toInt = 0 ∨ ¬ e1f.toInt = i1.toInt ∨ ¬ e2f.toInt = i2.toInt)) mdB n4B (zPl cr1_ inn1_ k11_) - n4B) + 2 * (zNF (i1.toInt = 1 ∧ 1 < (fk 0).toInt ∧ (0 ≤ i2.toInt ∧ i2.toInt < (fk 2).toInt ∧ i2.toInt < 2) ∧ (e0f.toInt = 0 ∨ ¬ e1f.toInt = i1.toInt ∨ ¬ e2f.toInt = i2.toInt)) (zNF (i1.toInt = 0 ∧ 0 < (fk 0).toInt ∧ (0 ≤ i2.toInt ∧ i2.toInt < (fk 2).toInt ∧ i2.toInt < 2) ∧ (e0f.toInt = 0 ∨ ¬ e1f.toInt = i1.toInt ∨ ¬ e2f.toInt = i2.toInt)) m1f (zMw mdA wyA cr0_ inn0_ k10_)) (zMw mdB wyB cr1_ inn1_ k11_) - m1f)) ≤ 6 * (zNA (i1.toInt = 0 ∧ 0 < (fk 0).toInt ∧ (0 ≤ i2.toInt ∧ i2.toInt < (fk 2).toInt ∧ i2.toInt < 2) ∧ (e0f.toInt = 0 ∨ ¬ e1f.toInt = i1.toInt ∨ ¬ e2f.toInt = i2.toInt)) mdA n4A (zPl cr0_ inn0_ k10_) - n4A) + 6 * (zNA (i1.toInt = 1 ∧ 1 < (fk 0).toInt ∧ (0 ≤ i2.toInt ∧ i2.toInt < (fk 2).toInt ∧ i2.toInt < 2) ∧ (e0f.toInt = 0 ∨ ¬ e1f.toInt = i1.toInt ∨ ¬ e2f.toInt = i2.toInt)) mdB n4B (zPl cr1_ inn1_ k11_) - n4B) + 2 * (zNF (i1.toInt = 1 ∧ 1 < (fk 0).toInt ∧ (0 ≤ i2.toInt ∧ i2.toInt < (fk 2).toInt ∧ i2.toInt < 2) ∧ (e0f.toInt = 0 ∨ ¬ e1f.toInt = i1.toInt ∨ ¬ e2f.toInt = i2.toInt)) (zNF (i1.toInt = 0 ∧ 0 < (fk 0).toInt ∧ (0 ≤ i2.toInt ∧ i2.toInt < (fk 2).toInt ∧ i2.toInt < 2) ∧ (e0f.toInt = 0 ∨ ¬ e1f.toInt = i1.toInt ∨ ¬ e2f.toInt = i2.toInt)) m1f (zMw mdA wyA cr0_ inn0_ k10_)) (zMw mdB wyB cr1_ inn1_ k11_) - m1f); omega) (fun r_128 b1 H locs hw G => ?_)
    refine zEx34 hw ?_
    intro laA_69 mdA_70 wyA_71 pc_A_72 f1A_73 f2A_74 f3A_75 f4A_76 f5A_77 f6A_78 n4A_79 wwA_80 laB_81 mdB_82 wyB_83 pc_B_84 f1B_85 f2B_86 f3B_87 f4B_88 f5B_89 f6B_90 n4B_91 wwB_92 e0f_93 e1f_94 e2f_95 e3f_96 e4f_97 e5f_98 r1f_99 m1f_100 r2f_101 wff_102
    refine zCu26 ?_
    intro hbs9 h_103 h_104 h_105 h_106 h_107 h_108 h_109 h_110 h_111 h_112 h_113 h_114 h_115 h_116 h_117 h_118 h_119 h_120 h_121 h_122 h_123 h_124 h_125 h_126 h_127
    clear hw
    subst hbs9
    have G : zS T A s.heap s [[zO10 xo t im mk rd po co tr wa wb_ fi cd], wt, z0_, z1_, wg0_, wg1_, wwA_80, wwB_92, wff_102] _ _ := G
    replace h_104 : zHd ((mdA_70 = 0 ∨ laA_69 = l0)) := h_104
    replace h_108 : zHd ((¬ mdA = 0 → ¬ mdA_70 = 0)) := h_108
    replace h_109 : zHd ((mdA_70 = 0 ∨ zTab cr0_ inn0_ k10_ k20_ wyA_71 pc_A_72 f1A_73 f2A_74 f5A_77 n4A_79)) := h_109
    replace h_111 : zHd ((mdB_82 = 0 ∨ laB_81 = l1)) := h_111
    replace h_115 : zHd ((¬ mdB = 0 → ¬ mdB_82 = 0)) := h_115
    replace h_116 : zHd ((mdB_82 = 0 ∨ zTab cr1_ inn1_ k11_ k21_ wyB_83 pc_B_84 f1B_85 f2B_86 f5B_89 n4B_91)) := h_116
    replace h_122 : zHd ((¬ e0f_93 = 0 → e1f_94.toInt = 0 ∧ ¬ mdA_70 = 0 ∨ e1f_94.toInt = 1 ∧ ¬ mdB_82 = 0)) := h_122
    have hfm9 : m1f_100 ≤ 16384 := zFw_le h_119
    refine lv_if_eq (tgt := 40) hx hb dX11_odds_16 (by decide) (fun c_129 => ?_) (fun c_129 => ?_)
    · have c_129n : r_128.toInt = (0 : Int) := (fa_eq _ _).mp c_129
      refine lv_iconst (v := (-1)) hx hb dX11_odds_40 (by decide) ?_
      exact z_back hQz_ (z_iret C hr hlocks G (Nat.le_of_ble_eq_true rfl) (by omega) dX11_odds_41 ⟨laA_69, mdA_70, wyA_71, pc_A_72, f1A_73, f2A_74, f3A_75, f4A_76, f5A_77, f6A_78, n4A_79, wwA_80, laB_81, mdB_82, wyB_83, pc_B_84, f1B_85, f2B_86, f3B_87, f4B_88, f5B_89, f6B_90, n4B_91, wwB_92, e0f_93, e1f_94, e2f_95, e3f_96, e4f_97, e5f_98, r1f_99, m1f_100, r2f_101, wff_102, rfl, h_103, h_104, h_105, h_106, h_107, h_108, h_109, h_110, h_111, h_112, h_113, h_114, h_115, h_116, h_117, h_118, h_119, h_120, h_122, h_123, h_124, h_125, h_126⟩)
    · have c_129n : ¬ r_128.toInt = (0 : Int) := fun q => c_129 ((fa_eq _ _).mpr q)
      refine lv_aload hx hb dX11_odds_19 (lv_at hl 0 rfl) ?_
      refine lv_ifnull hx hb dX11_odds_21 ?_
      refine lv_iload hx hb dX11_odds_24 (lv_at hl 5 rfl) ?_
      refine lv_if_lt (tgt := 40) hx hb dX11_odds_26 (by decide) (fun c_130 => ?_) (fun c_130 => ?_)
      · have c_130n : b_.toInt < (0 : Int) := (fa_lt _ _).mp c_130
        refine lv_iconst (v := (-1)) hx hb dX11_odds_40 (by decide) ?_
        exact z_back hQz_ (z_iret C hr hlocks G (Nat.le_of_ble_eq_true rfl) (by omega) dX11_odds_41 ⟨laA_69, mdA_70, wyA_71, pc_A_72, f1A_73, f2A_74, f3A_75, f4A_76, f5A_77, f6A_78, n4A_79, wwA_80, laB_81, mdB_82, wyB_83, pc_B_84, f1B_85, f2B_86, f3B_87, f4B_88, f5B_89, f6B_90, n4B_91, wwB_92, e0f_93, e1f_94, e2f_95, e3f_96, e4f_97, e5f_98, r1f_99, m1f_100, r2f_101, wff_102, rfl, h_103, h_104, h_105, h_106, h_107, h_108, h_109, h_110, h_111, h_112, h_113, h_114, h_115, h_116, h_117, h_118, h_119, h_120, h_122, h_123, h_124, h_125, h_126⟩)
      · have c_130n : ¬ b_.toInt < (0 : Int) := fun q => c_130 ((fa_lt _ _).mpr q)
        refine lv_iload hx hb dX11_odds_29 (lv_at hl 5 rfl) ?_
        refine lv_aload hx hb dX11_odds_31 (lv_at hl 0 rfl) ?_
        refine lv_iload_n hx hb dX11_odds_33 rfl (lv_at hl 4 rfl) ?_
        refine z_Vi (bc := [z0_]) (br := [[zO10 xo t im mk rd po co tr wa wb_ fi cd], wt, z1_, wg0_, wg1_, wwA_80, wwB_92, wff_102]) (As := [.int a_]) (rest := [.int b_]) C G (c_waysOut l T l0 cr0_ inn0_ k10_ k20_ k30_ k40_ z0_ a_ hz0_) (kV_RX11_221 C.2.2.2.2 (Nat.le_of_ble_eq_true rfl) (Nat.le_of_ble_eq_true rfl)) [2] [2] rfl rfl (ci := 4) (qc := (RX4, TX4, 6)) rfl rfl (List.mem_flatten.mpr ⟨_, List.mem_of_getElem? (i := 0) rfl, (bLand_mem hz0_).choose_spec⟩) rfl rfl hl.1 dX11_odds_34 (Nat.le_of_ble_eq_true rfl) (by show _ + 0 ≤ 6 * (zNA (i1.toInt = 0 ∧ 0 < (fk 0).toInt ∧ (0 ≤ i2.toInt ∧ i2.toInt < (fk 2).toInt ∧ i2.toInt < 2) ∧ (e0f.toInt = 0 ∨ ¬ e1f.toInt = i1.toInt ∨ ¬ e2f.toInt = i2.toInt)) mdA n4A (zPl cr0_ inn0_ k10_) - n4A) + 6 * (zNA (i1.toInt = 1 ∧ 1 < (fk 0).toInt ∧ (0 ≤ i2.toInt ∧ i2.toInt < (fk 2).toInt ∧ i2.toInt < 2) ∧ (e0f.toInt = 0 ∨ ¬ e1f.toInt = i1.toInt ∨ ¬ e2f.toInt = i2.toInt)) mdB n4B (zPl cr1_ inn1_ k11_) - n4B) + 2 * (zNF (i1.toInt = 1 ∧ 1 < (fk 0).toInt ∧ (0 ≤ i2.toInt ∧ i2.toInt < (fk 2).toInt ∧ i2.toInt < 2) ∧ (e0f.toInt = 0 ∨ ¬ e1f.toInt = i1.toInt ∨ ¬ e2f.toInt = i2.toInt)) (zNF (i1.toInt = 0 ∧ 0 < (fk 0).toInt ∧ (0 ≤ i2.toInt ∧ i2.toInt < (fk 2).toInt ∧ i2.toInt < 2) ∧ (e0f.toInt = 0 ∨ ¬ e1f.toInt = i1.toInt ∨ ¬ e2f.toInt = i2.toInt)) m1f (zMw mdA wyA cr0_ inn0_ k10_)) (zMw mdB wyB cr1_ inn1_ k11_) - m1f); omega) (fun r_132 b1 H locs hw G => ?_)
        refine zAn2 hw ?_
        intro hbs9 h_131
        clear hw
        subst hbs9
        have G : zS T A s.heap s [[zO10 xo t im mk rd po co tr wa wb_ fi cd], wt, z1_, wg0_, wg1_, wwA_80, wwB_92, wff_102, z0_] _ _ := G
        subst h_131
        refine lv_icmp_lt (tgt := 42) hx hb dX11_odds_37 (by decide) (fun c_133 => ?_) (fun c_133 => ?_)
        · have c_133n : b_.toInt < (zWays cr0_ inn0_ k10_ a_).toInt := (fa_lt _ _).mp c_133
          refine lv_aload_n hx hb dX11_odds_42 rfl (lv_at hl 1 rfl) ?_
          refine z_get C G clX11 0 rfl 9 (by decide) m_fl_RX11_65 rfl dX11_odds_43 ?_
          refine zEx2 h_117 ?_
          intro a1_134 a2_135 hbs9
          clear h_117
          subst hbs9
          have G : zS T A s.heap s [[zO10 xo t im mk rd po co tr wa wb_ fi cd], wt, z1_, wg0_, wg1_, wwA_80, wwB_92, [zO3 fi e0f_93 e1f_94 e2f_95 e3f_96 e4f_97 e5f_98 a1_134 a2_135], [zAr T 0 a1_134 m1f_100 r1f_99], [zAr T 0 a2_135 7 r2f_101], z0_] _ _ := G.re rfl
          refine z_get C G clX3 7 rfl 3 (by decide) m_fl_RX11_306 rfl dX11_odds_46 ?_
          refine lv_if_ne (tgt := 54) hx hb dX11_odds_49 (by decide) (fun c_136 => ?_) (fun c_136 => ?_)
          · have c_136n : ¬ e3f_96.toInt = (0 : Int) := fun q => c_136 ((fa_eq _ _).mpr q)
            refine lv_aload_n hx hb dX11_odds_54 rfl (lv_at hl 1 rfl) ?_
            refine z_get C G clX11 0 rfl 9 (by decide) m_fl_RX11_65 rfl dX11_odds_55 ?_
            refine lv_aload_n hx hb dX11_odds_58 rfl (lv_at hl 1 rfl) ?_
            refine lv_iload_n hx hb dX11_odds_59 rfl (lv_at hl 2 rfl) ?_
            refine lv_aload hx hb dX11_odds_60 (lv_at hl 0 rfl) ?_
            have hX := h_121.resolve_left (fun q => absurd (congrArg Int32.toInt q.1) (by show ¬ _ = (0 : Int); omega))
            have hmk : ¬ mdA_70 = 0 := (h_122 hX.2.2.1).elim (fun q => q.2) (fun q => absurd q.1 (by have := hX.2.2.2; omega))
            have hzk : zMk mdA_70 n4A_79 (zPl cr0_ inn0_ k10_) = n4A_79 := by unfold zMk; rw [if_neg hmk]
            have hn9 : zMk mdA_70 n4A_79 (zPl cr0_ inn0_ k10_) ≤ 131072 := by rw [hzk]; exact zPw_le h_107
            refine z_Vq (bc := [[zO10 xo t im mk rd po co tr wa wb_ fi cd], wwA_80, z0_]) (br := [wt, z1_, wg0_, wg1_, wwB_92, [zO3 fi e0f_93 e1f_94 e2f_95 e3f_96 e4f_97 e5f_98 a1_134 a2_135], [zAr T 0 a1_134 m1f_100 r1f_99], [zAr T 0 a2_135 7 r2f_101]]) (As := [.int i1, .ref l0]) (rest := [.ref fi]) C G (c_f_waysInA l T xo t im mk rd po co tr wa wb_ fi cd i1 laA_69 mdA_70 wyA_71 pc_A_72 f1A_73 f2A_74 f3A_75 f4A_76 f5A_77 f6A_78 n4A_79 wwA_80 l0 cr0_ inn0_ k10_ k20_ k30_ k40_ z0_ h_103 hz0_ hI0_ h_107 h_104 (kaOk hI0_ hLq0).1 h_109 (by omega)) (kV_RX11_235 C.2.2.2.2 (Nat.le_of_ble_eq_true rfl) (Nat.le_of_ble_eq_true rfl)) [0, 5, 10] [0, 4, 4] rfl rfl (ci := 10) (qc := (RX11, TX11, 11)) rfl rfl (List.mem_flatten.mpr ⟨_, List.mem_of_getElem? (i := 0) rfl, List.mem_cons_self⟩) rfl rfl hl.1 dX11_odds_62 (Nat.le_of_ble_eq_true rfl) (by show _ + (6 * (zMk mdA_70 n4A_79 (zPl cr0_ inn0_ k10_) - n4A_79)) ≤ 6 * (zNA (i1.toInt = 0 ∧ 0 < (fk 0).toInt ∧ (0 ≤ i2.toInt ∧ i2.toInt < (fk 2).toInt ∧ i2.toInt < 2) ∧ (e0f.toInt = 0 ∨ ¬ e1f.toInt = i1.toInt ∨ ¬ e2f.toInt = i2.toInt)) mdA n4A (zPl cr0_ inn0_ k10_) - n4A) + 6 * (zNA (i1.toInt = 1 ∧ 1 < (fk 0).toInt ∧ (0 ≤ i2.toInt ∧ i2.toInt < (fk 2).toInt ∧ i2.toInt < 2) ∧ (e0f.toInt = 0 ∨ ¬ e1f.toInt = i1.toInt ∨ ¬ e2f.toInt = i2.toInt)) mdB n4B (zPl cr1_ inn1_ k11_) - n4B) + 2 * (zNF (i1.toInt = 1 ∧ 1 < (fk 0).toInt ∧ (0 ≤ i2.toInt ∧ i2.toInt < (fk 2).toInt ∧ i2.toInt < 2) ∧ (e0f.toInt = 0 ∨ ¬ e1f.toInt = i1.toInt ∨ ¬ e2f.toInt = i2.toInt)) (zNF (i1.toInt = 0 ∧ 0 < (fk 0).toInt ∧ (0 ≤ i2.toInt ∧ i2.toInt < (fk 2).toInt ∧ i2.toInt < 2) ∧ (e0f.toInt = 0 ∨ ¬ e1f.toInt = i1.toInt ∨ ¬ e2f.toInt = i2.toInt)) m1f (zMw mdA wyA cr0_ inn0_ k10_)) (zMw mdB wyB cr1_ inn1_ k11_) - m1f); omega) (fun r_151 b1 H locs hw G => ?_)
            refine zEx9 hw ?_
            intro w2_137 m2_138 wy2_139 pc2_140 g1_141 g2_142 g4_143 g5_144 g6_145
            refine zCu6 ?_
            intro hbs9 h_146 h_147 h_148 h_149 h_150
            clear hw
            subst hbs9
            have G : zS T A s.heap s [wt, z1_, wg0_, wg1_, wwB_92, [zO3 fi e0f_93 e1f_94 e2f_95 e3f_96 e4f_97 e5f_98 a1_134 a2_135], [zAr T 0 a1_134 m1f_100 r1f_99], [zAr T 0 a2_135 7 r2f_101], [zO10 xo t im mk rd po co tr wa wb_ fi cd], w2_137, z0_] _ _ := G
            subst h_146
            have hwy9 : 0 ≤ wy2_139.toInt ∧ wy2_139.toInt ≤ 16384 := by have q9 := zWy_in (inn := inn0_) hI0_; rw [h_148]; exact ⟨by omega, q9.2⟩
            refine lv_iload_n hx hb dX11_odds_65 rfl (lv_at hl 4 rfl) ?_
            refine lv_iload hx hb dX11_odds_66 (lv_at hl 5 rfl) ?_
            have hw_152 : bFit T fi e0f_93 e1f_94 e2f_95 e3f_96 e4f_97 e5f_98 r1f_99 m1f_100 r2f_101 [zO3 fi e0f_93 e1f_94 e2f_95 e3f_96 e4f_97 e5f_98 a1_134 a2_135, zAr T 0 a1_134 m1f_100 r1f_99, zAr T 0 a2_135 7 r2f_101] := ⟨a1_134, a2_135, rfl⟩
            have G : zS T A s.heap s [wt, z1_, wg0_, wg1_, wwB_92, [zO3 fi e0f_93 e1f_94 e2f_95 e3f_96 e4f_97 e5f_98 a1_134 a2_135, zAr T 0 a1_134 m1f_100 r1f_99, zAr T 0 a2_135 7 r2f_101], [zO10 xo t im mk rd po co tr wa wb_ fi cd], w2_137, z0_] _ _ := G.re rfl
            refine z_Vi (bc := [[zO3 fi e0f_93 e1f_94 e2f_95 e3f_96 e4f_97 e5f_98 a1_134 a2_135, zAr T 0 a1_134 m1f_100 r1f_99, zAr T 0 a2_135 7 r2f_101], w2_137]) (br := [wt, z1_, wg0_, wg1_, wwB_92, [zO10 xo t im mk rd po co tr wa wb_ fi cd], z0_]) (As := [.ref wa, .int a_, .int b_]) (rest := []) C G (c_pointing l T fi e0f_93 e1f_94 e2f_95 e3f_96 e4f_97 e5f_98 r1f_99 m1f_100 r2f_101 ([zO3 fi e0f_93 e1f_94 e2f_95 e3f_96 e4f_97 e5f_98 a1_134 a2_135, zAr T 0 a1_134 m1f_100 r1f_99, zAr T 0 a2_135 7 r2f_101]) wa l0 m2_138 wy2_139 pc2_140 g1_141 g2_142 f3A_75 g4_143 g5_144 g6_145 (zMk mdA_70 n4A_79 (zPl cr0_ inn0_ k10_)) w2_137 a_ b_ hw_152 h_147 hfm9) (kV_RX11_320 C.2.2.2.2 (Nat.le_of_ble_eq_true rfl) (Nat.le_of_ble_eq_true rfl)) [5, 7] [5, 1] rfl rfl (ci := 3) (qc := (RX3, TX3, 8)) rfl rfl (List.mem_flatten.mpr ⟨_, List.mem_of_getElem? (i := 0) rfl, (bFit_mem hw_152).choose_spec⟩) rfl rfl hl.1 dX11_odds_68 (Nat.le_of_ble_eq_true rfl) (by show _ + 0 ≤ 6 * (zNA (i1.toInt = 0 ∧ 0 < (fk 0).toInt ∧ (0 ≤ i2.toInt ∧ i2.toInt < (fk 2).toInt ∧ i2.toInt < 2) ∧ (e0f.toInt = 0 ∨ ¬ e1f.toInt = i1.toInt ∨ ¬ e2f.toInt = i2.toInt)) mdA n4A (zPl cr0_ inn0_ k10_) - n4A) + 6 * (zNA (i1.toInt = 1 ∧ 1 < (fk 0).toInt ∧ (0 ≤ i2.toInt ∧ i2.toInt < (fk 2).toInt ∧ i2.toInt < 2) ∧ (e0f.toInt = 0 ∨ ¬ e1f.toInt = i1.toInt ∨ ¬ e2f.toInt = i2.toInt)) mdB n4B (zPl cr1_ inn1_ k11_) - n4B) + 2 * (zNF (i1.toInt = 1 ∧ 1 < (fk 0).toInt ∧ (0 ≤ i2.toInt ∧ i2.toInt < (fk 2).toInt ∧ i2.toInt < 2) ∧ (e0f.toInt = 0 ∨ ¬ e1f.toInt = i1.toInt ∨ ¬ e2f.toInt = i2.toInt)) (zNF (i1.toInt = 0 ∧ 0 < (fk 0).toInt ∧ (0 ≤ i2.toInt ∧ i2.toInt < (fk 2).toInt ∧ i2.toInt < 2) ∧ (e0f.toInt = 0 ∨ ¬ e1f.toInt = i1.toInt ∨ ¬ e2f.toInt = i2.toInt)) m1f (zMw mdA wyA cr0_ inn0_ k10_)) (zMw mdB wyB cr1_ inn1_ k11_) - m1f); omega) (fun r_153 b1 H locs hw G => ?_)
            obtain rfl := hw
            have G : zS T A s.heap s [wt, z1_, wg0_, wg1_, wwB_92, [zO10 xo t im mk rd po co tr wa wb_ fi cd], z0_, [zO3 fi e0f_93 e1f_94 e2f_95 e3f_96 e4f_97 e5f_98 a1_134 a2_135, zAr T 0 a1_134 m1f_100 r1f_99, zAr T 0 a2_135 7 r2f_101], w2_137] _ _ := G
            refine lv_istore (lv' := [(7, .int r_153), (6, .ref l0), (0, .ref xo), (1, .int i1), (2, .int i2), (3, .int a_), (4, .int b_), (5, .int w_)]) hx hb dX11_odds_71 hl (by decide) (zLvf_h rfl) (fun ls hl => ?_)
            refine lv_iload hx hb dX11_odds_73 (lv_at hl 0 rfl) ?_
            refine lv_aload_n hx hb dX11_odds_75 rfl (lv_at hl 2 rfl) ?_
            refine z_get C G clX11 5 rfl 9 (by decide) m_fl_RX11_65 rfl dX11_odds_76 ?_
            have G : zS T A s.heap s [wt, z1_, wg0_, wg1_, wwB_92, [zO10 xo t im mk rd po co tr wa wb_ fi cd], z0_, [zO3 fi e0f_93 e1f_94 e2f_95 e3f_96 e4f_97 e5f_98 a1_134 a2_135], [zAr T 0 a1_134 m1f_100 r1f_99], [zAr T 0 a2_135 7 r2f_101], w2_137] _ _ := G.re rfl
            refine z_get C G clX3 7 rfl 3 (by decide) m_fl_RX11_306 rfl dX11_odds_79 ?_
            refine lv_iload hx hb dX11_odds_82 (lv_at hl 7 rfl) ?_
            refine z_Si (bc := []) (br := [wt, z1_, wg0_, wg1_, wwB_92, [zO10 xo t im mk rd po co tr wa wb_ fi cd], z0_, [zO3 fi e0f_93 e1f_94 e2f_95 e3f_96 e4f_97 e5f_98 a1_134 a2_135], [zAr T 0 a1_134 m1f_100 r1f_99], [zAr T 0 a2_135 7 r2f_101], w2_137]) (As := [.int r_153, .int e3f_96, .int w_]) (rest := []) C G (c_inLeastTerms l T r_153 e3f_96 w_) (kS_RX11_262 C.2.2.2.2 (Nat.le_of_ble_eq_true rfl) (Nat.le_of_ble_eq_true rfl)) [] [] rfl rfl rfl rfl hl.1 dX11_odds_84 (Nat.le_of_ble_eq_true rfl) (by show _ + 0 ≤ 6 * (zNA (i1.toInt = 0 ∧ 0 < (fk 0).toInt ∧ (0 ≤ i2.toInt ∧ i2.toInt < (fk 2).toInt ∧ i2.toInt < 2) ∧ (e0f.toInt = 0 ∨ ¬ e1f.toInt = i1.toInt ∨ ¬ e2f.toInt = i2.toInt)) mdA n4A (zPl cr0_ inn0_ k10_) - n4A) + 6 * (zNA (i1.toInt = 1 ∧ 1 < (fk 0).toInt ∧ (0 ≤ i2.toInt ∧ i2.toInt < (fk 2).toInt ∧ i2.toInt < 2) ∧ (e0f.toInt = 0 ∨ ¬ e1f.toInt = i1.toInt ∨ ¬ e2f.toInt = i2.toInt)) mdB n4B (zPl cr1_ inn1_ k11_) - n4B) + 2 * (zNF (i1.toInt = 1 ∧ 1 < (fk 0).toInt ∧ (0 ≤ i2.toInt ∧ i2.toInt < (fk 2).toInt ∧ i2.toInt < 2) ∧ (e0f.toInt = 0 ∨ ¬ e1f.toInt = i1.toInt ∨ ¬ e2f.toInt = i2.toInt)) (zNF (i1.toInt = 0 ∧ 0 < (fk 0).toInt ∧ (0 ≤ i2.toInt ∧ i2.toInt < (fk 2).toInt ∧ i2.toInt < 2) ∧ (e0f.toInt = 0 ∨ ¬ e1f.toInt = i1.toInt ∨ ¬ e2f.toInt = i2.toInt)) m1f (zMw mdA wyA cr0_ inn0_ k10_)) (zMw mdB wyB cr1_ inn1_ k11_) - m1f); omega) (fun r_154 b1 H locs hw G => ?_)
            obtain rfl := hw
            have G : zS T A s.heap s [wt, z1_, wg0_, wg1_, wwB_92, [zO10 xo t im mk rd po co tr wa wb_ fi cd], z0_, [zO3 fi e0f_93 e1f_94 e2f_95 e3f_96 e4f_97 e5f_98 a1_134 a2_135], [zAr T 0 a1_134 m1f_100 r1f_99], [zAr T 0 a2_135 7 r2f_101], w2_137] _ _ := G
            have hw_155 : bFit T fi e0f_93 e1f_94 e2f_95 e3f_96 e4f_97 e5f_98 r1f_99 m1f_100 r2f_101 [zO3 fi e0f_93 e1f_94 e2f_95 e3f_96 e4f_97 e5f_98 a1_134 a2_135, zAr T 0 a1_134 m1f_100 r1f_99, zAr T 0 a2_135 7 r2f_101] := ⟨a1_134, a2_135, rfl⟩
            have G : zS T A s.heap s [wt, z1_, wg0_, wg1_, wwB_92, [zO10 xo t im mk rd po co tr wa wb_ fi cd], z0_, [zO3 fi e0f_93 e1f_94 e2f_95 e3f_96 e4f_97 e5f_98 a1_134 a2_135, zAr T 0 a1_134 m1f_100 r1f_99, zAr T 0 a2_135 7 r2f_101], w2_137] _ _ := G.re rfl
            have G := G.sub (bs' := [[zO10 xo t im mk rd po co tr wa wb_ fi cd], wt, z0_, z1_, wg0_, wg1_, w2_137, wwB_92, [zO3 fi e0f_93 e1f_94 e2f_95 e3f_96 e4f_97 e5f_98 a1_134 a2_135, zAr T 0 a1_134 m1f_100 r1f_99, zAr T 0 a2_135 7 r2f_101]]) [5, 0, 6, 1, 2, 3, 8, 4, 7] rfl
            exact z_back hQz_ (z_iret C hr hlocks G (Nat.le_of_ble_eq_true rfl) (by omega) dX11_odds_87 ⟨l0, m2_138, wy2_139, pc2_140, g1_141, g2_142, f3A_75, g4_143, g5_144, g6_145, (zMk mdA_70 n4A_79 (zPl cr0_ inn0_ k10_)), w2_137, laB_81, mdB_82, wyB_83, pc_B_84, f1B_85, f2B_86, f3B_87, f4B_88, f5B_89, f6B_90, n4B_91, wwB_92, e0f_93, e1f_94, e2f_95, e3f_96, e4f_97, e5f_98, r1f_99, m1f_100, r2f_101, ([zO3 fi e0f_93 e1f_94 e2f_95 e3f_96 e4f_97 e5f_98 a1_134 a2_135, zAr T 0 a1_134 m1f_100 r1f_99, zAr T 0 a2_135 7 r2f_101]), rfl, h_147, (Or.inr rfl), hwy9, (hzk.trans h_106), (by rw [hzk]; exact h_107), (fun _ => h_149), (Or.inr h_150), h_110, h_111, h_112, h_113, h_114, h_115, h_116, hw_155, h_118, h_119, h_120, (fun q => (h_122 q).elim (fun w => Or.inl ⟨w.1, h_149⟩) (fun w => Or.inr ⟨w.1, w.2⟩)), h_123, h_124, h_125, h_126⟩)
          · have c_136n : e3f_96.toInt = (0 : Int) := (fa_eq _ _).mp c_136
            refine lv_iconst (v := (-1)) hx hb dX11_odds_52 (by decide) ?_
            have hw_156 : bFit T fi e0f_93 e1f_94 e2f_95 e3f_96 e4f_97 e5f_98 r1f_99 m1f_100 r2f_101 [zO3 fi e0f_93 e1f_94 e2f_95 e3f_96 e4f_97 e5f_98 a1_134 a2_135, zAr T 0 a1_134 m1f_100 r1f_99, zAr T 0 a2_135 7 r2f_101] := ⟨a1_134, a2_135, rfl⟩
            have G : zS T A s.heap s [[zO10 xo t im mk rd po co tr wa wb_ fi cd], wt, z1_, wg0_, wg1_, wwA_80, wwB_92, [zO3 fi e0f_93 e1f_94 e2f_95 e3f_96 e4f_97 e5f_98 a1_134 a2_135, zAr T 0 a1_134 m1f_100 r1f_99, zAr T 0 a2_135 7 r2f_101], z0_] _ _ := G.re rfl
            have G := G.sub (bs' := [[zO10 xo t im mk rd po co tr wa wb_ fi cd], wt, z0_, z1_, wg0_, wg1_, wwA_80, wwB_92, [zO3 fi e0f_93 e1f_94 e2f_95 e3f_96 e4f_97 e5f_98 a1_134 a2_135, zAr T 0 a1_134 m1f_100 r1f_99, zAr T 0 a2_135 7 r2f_101]]) [0, 1, 8, 2, 3, 4, 5, 6, 7] rfl
            exact z_back hQz_ (z_iret C hr hlocks G (Nat.le_of_ble_eq_true rfl) (by omega) dX11_odds_53 ⟨laA_69, mdA_70, wyA_71, pc_A_72, f1A_73, f2A_74, f3A_75, f4A_76, f5A_77, f6A_78, n4A_79, wwA_80, laB_81, mdB_82, wyB_83, pc_B_84, f1B_85, f2B_86, f3B_87, f4B_88, f5B_89, f6B_90, n4B_91, wwB_92, e0f_93, e1f_94, e2f_95, e3f_96, e4f_97, e5f_98, r1f_99, m1f_100, r2f_101, ([zO3 fi e0f_93 e1f_94 e2f_95 e3f_96 e4f_97 e5f_98 a1_134 a2_135, zAr T 0 a1_134 m1f_100 r1f_99, zAr T 0 a2_135 7 r2f_101]), rfl, h_103, h_104, h_105, h_106, h_107, h_108, h_109, h_110, h_111, h_112, h_113, h_114, h_115, h_116, hw_156, h_118, h_119, h_120, h_122, h_123, h_124, h_125, h_126⟩)
        · have c_133n : ¬ b_.toInt < (zWays cr0_ inn0_ k10_ a_).toInt := fun q => c_133 ((fa_lt _ _).mpr q)
          refine lv_iconst (v := (-1)) hx hb dX11_odds_40 (by decide) ?_
          have G := G.sub (bs' := [[zO10 xo t im mk rd po co tr wa wb_ fi cd], wt, z0_, z1_, wg0_, wg1_, wwA_80, wwB_92, wff_102]) [0, 1, 8, 2, 3, 4, 5, 6, 7] rfl
          exact z_back hQz_ (z_iret C hr hlocks G (Nat.le_of_ble_eq_true rfl) (by omega) dX11_odds_41 ⟨laA_69, mdA_70, wyA_71, pc_A_72, f1A_73, f2A_74, f3A_75, f4A_76, f5A_77, f6A_78, n4A_79, wwA_80, laB_81, mdB_82, wyB_83, pc_B_84, f1B_85, f2B_86, f3B_87, f4B_88, f5B_89, f6B_90, n4B_91, wwB_92, e0f_93, e1f_94, e2f_95, e3f_96, e4f_97, e5f_98, r1f_99, m1f_100, r2f_101, wff_102, rfl, h_103, h_104, h_105, h_106, h_107, h_108, h_109, h_110, h_111, h_112, h_113, h_114, h_115, h_116, h_117, h_118, h_119, h_120, h_122, h_123, h_124, h_125, h_126⟩)
  · have h_6 : i1.toInt = 1 := h_6
    have h_7 : 1 < (fk 0).toInt := h_7
    refine lv_astore (lv' := [(6, .ref l1), (0, .ref xo), (1, .int i1), (2, .int i2), (3, .int a_), (4, .int b_), (5, .int w_)]) hx hb dX11_odds_8 hl (by decide) (zLvf_h rfl) (fun ls hl => ?_)
    refine lv_aload_n hx hb dX11_odds_10 rfl (lv_at hl 1 rfl) ?_
    refine lv_iload_n hx hb dX11_odds_11 rfl (lv_at hl 2 rfl) ?_
    refine lv_iload_n hx hb dX11_odds_12 rfl (lv_at hl 3 rfl) ?_
    refine z_Vi (bc := [[zO10 xo t im mk rd po co tr wa wb_ fi cd], wt, z0_, z1_, wg0_, wg1_, wwA, wwB, wff]) (br := []) (As := [.int i1, .int i2]) (rest := []) C G (c_e_fit l T xo t im mk rd po co tr wa wb_ fi cd l0 l1 d0 d1 g0 g1 ln fl pl ft fk wt cr0_ inn0_ k10_ k20_ k30_ k40_ z0_ cr1_ inn1_ k11_ k21_ k31_ k41_ z1_ gg0_ q10_ q20_ wg0_ gg1_ q11_ q21_ wg1_ laA mdA wyA pc_A f1A f2A f3A f4A f5A f6A n4A wwA laB mdB wyB pc_B f1B f2B f3B f4B f5B f6B n4B wwB e0f e1f e2f e3f e4f e5f r1f m1f r2f wff i1 i2 ht (by first | with_reducible assumption | with_reducible rfl | omega | assumption | rfl) hz0_ (by first | with_reducible assumption | with_reducible rfl | omega | assumption | rfl) hz1_ (by first | with_reducible assumption | with_reducible rfl | omega | assumption | rfl) hg0_ hg1_ hwwA (by first | with_reducible assumption | with_reducible rfl | omega | assumption | rfl) (by first | with_reducible assumption | with_reducible rfl | omega | assumption | rfl) (by first | with_reducible assumption | with_reducible rfl | omega | assumption | rfl) (by first | with_reducible assumption | with_reducible rfl | omega | assumption | rfl) (by first | with_reducible assumption | with_reducible rfl | omega | assumption | rfl) hwwB (by first | with_reducible assumption | with_reducible rfl | omega | assumption | rfl) (by first | with_reducible assumption | with_reducible rfl | omega | assumption | rfl) (by first | with_reducible assumption | with_reducible rfl | omega | assumption | rfl) (by first | with_reducible assumption | with_reducible rfl | omega | assumption | rfl) (by first | with_reducible assumption | with_reducible rfl | omega | assumption | rfl) hwff hfw hf3 hFI hFt00 hFt01 hFt10 hFt11 hGg0 hGg1) (kV_RX11_302 C.2.2.2.2 (Nat.le_of_ble_eq_true rfl) (Nat.le_of_ble_eq_true rfl)) [0, 8, 1, 2, 3, 4, 5, 6, 7] [0, 0, 0, 0, 0, 0, 0, 0, 0] rfl rfl (ci := 10) (qc := (RX11, TX11, 11)) rfl rfl (List.mem_flatten.mpr ⟨_, List.mem_of_getElem? (i := 0) rfl, List.mem_cons_self⟩) rfl rfl hl.1 dX11_odds_13 (Nat.le_of_ble_eq_true rfl) (by show _ + (6 * (zNA (i1.toInt = 0 ∧ 0 < (fk 0).toInt ∧ (0 ≤ i2.toInt ∧ i2.toInt < (fk 2).toInt ∧ i2.toInt < 2) ∧ (e0f.toInt = 0 ∨ ¬ e1f.toInt = i1.toInt ∨ ¬ e2f.toInt = i2.toInt)) mdA n4A (zPl cr0_ inn0_ k10_) - n4A) + 6 * (zNA (i1.toInt = 1 ∧ 1 < (fk 0).toInt ∧ (0 ≤ i2.toInt ∧ i2.toInt < (fk 2).toInt ∧ i2.toInt < 2) ∧ (e0f.toInt = 0 ∨ ¬ e1f.toInt = i1.toInt ∨ ¬ e2f.toInt = i2.toInt)) mdB n4B (zPl cr1_ inn1_ k11_) - n4B) + 2 * (zNF (i1.toInt = 1 ∧ 1 < (fk 0).toInt ∧ (0 ≤ i2.toInt ∧ i2.toInt < (fk 2).toInt ∧ i2.toInt < 2) ∧ (e0f.toInt = 0 ∨ ¬ e1f.toInt = i1.toInt ∨ ¬ e2f.toInt = i2.toInt)) (zNF (i1.toInt = 0 ∧ 0 < (fk 0).toInt ∧ (0 ≤ i2.toInt ∧ i2.toInt < (fk 2).toInt ∧ i2.toInt < 2) ∧ (e0f.toInt = 0 ∨ ¬ e1f.toInt = i1.toInt ∨ ¬ e2f.toInt = i2.toInt)) m1f (zMw mdA wyA cr0_ inn0_ k10_)) (zMw mdB wyB cr1_ inn1_ k11_) - m1f)) ≤ 6 * (zNA (i1.toInt = 0 ∧ 0 < (fk 0).toInt ∧ (0 ≤ i2.toInt ∧ i2.toInt < (fk 2).toInt ∧ i2.toInt < 2) ∧ (e0f.toInt = 0 ∨ ¬ e1f.toInt = i1.toInt ∨ ¬ e2f.toInt = i2.toInt)) mdA n4A (zPl cr0_ inn0_ k10_) - n4A) + 6 * (zNA (i1.toInt = 1 ∧ 1 < (fk 0).toInt ∧ (0 ≤ i2.toInt ∧ i2.toInt < (fk 2).toInt ∧ i2.toInt < 2) ∧ (e0f.toInt = 0 ∨ ¬ e1f.toInt = i1.toInt ∨ ¬ e2f.toInt = i2.toInt)) mdB n4B (zPl cr1_ inn1_ k11_) - n4B) + 2 * (zNF (i1.toInt = 1 ∧ 1 < (fk 0).toInt ∧ (0 ≤ i2.toInt ∧ i2.toInt < (fk 2).toInt ∧ i2.toInt < 2) ∧ (e0f.toInt = 0 ∨ ¬ e1f.toInt = i1.toInt ∨ ¬ e2f.toInt = i2.toInt)) (zNF (i1.toInt = 0 ∧ 0 < (fk 0).toInt ∧ (0 ≤ i2.toInt ∧ i2.toInt < (fk 2).toInt ∧ i2.toInt < 2) ∧ (e0f.toInt = 0 ∨ ¬ e1f.toInt = i1.toInt ∨ ¬ e2f.toInt = i2.toInt)) m1f (zMw mdA wyA cr0_ inn0_ k10_)) (zMw mdB wyB cr1_ inn1_ k11_) - m1f); omega) (fun r_216 b1 H locs hw G => ?_)
    refine zEx34 hw ?_
    intro laA_157 mdA_158 wyA_159 pc_A_160 f1A_161 f2A_162 f3A_163 f4A_164 f5A_165 f6A_166 n4A_167 wwA_168 laB_169 mdB_170 wyB_171 pc_B_172 f1B_173 f2B_174 f3B_175 f4B_176 f5B_177 f6B_178 n4B_179 wwB_180 e0f_181 e1f_182 e2f_183 e3f_184 e4f_185 e5f_186 r1f_187 m1f_188 r2f_189 wff_190
    refine zCu26 ?_
    intro hbs9 h_191 h_192 h_193 h_194 h_195 h_196 h_197 h_198 h_199 h_200 h_201 h_202 h_203 h_204 h_205 h_206 h_207 h_208 h_209 h_210 h_211 h_212 h_213 h_214 h_215
    clear hw
    subst hbs9
    have G : zS T A s.heap s [[zO10 xo t im mk rd po co tr wa wb_ fi cd], wt, z0_, z1_, wg0_, wg1_, wwA_168, wwB_180, wff_190] _ _ := G
    replace h_192 : zHd ((mdA_158 = 0 ∨ laA_157 = l0)) := h_192
    replace h_196 : zHd ((¬ mdA = 0 → ¬ mdA_158 = 0)) := h_196
    replace h_197 : zHd ((mdA_158 = 0 ∨ zTab cr0_ inn0_ k10_ k20_ wyA_159 pc_A_160 f1A_161 f2A_162 f5A_165 n4A_167)) := h_197
    replace h_199 : zHd ((mdB_170 = 0 ∨ laB_169 = l1)) := h_199
    replace h_203 : zHd ((¬ mdB = 0 → ¬ mdB_170 = 0)) := h_203
    replace h_204 : zHd ((mdB_170 = 0 ∨ zTab cr1_ inn1_ k11_ k21_ wyB_171 pc_B_172 f1B_173 f2B_174 f5B_177 n4B_179)) := h_204
    replace h_210 : zHd ((¬ e0f_181 = 0 → e1f_182.toInt = 0 ∧ ¬ mdA_158 = 0 ∨ e1f_182.toInt = 1 ∧ ¬ mdB_170 = 0)) := h_210
    have hfm9 : m1f_188 ≤ 16384 := zFw_le h_207
    refine lv_if_eq (tgt := 40) hx hb dX11_odds_16 (by decide) (fun c_217 => ?_) (fun c_217 => ?_)
    · have c_217n : r_216.toInt = (0 : Int) := (fa_eq _ _).mp c_217
      refine lv_iconst (v := (-1)) hx hb dX11_odds_40 (by decide) ?_
      exact z_back hQz_ (z_iret C hr hlocks G (Nat.le_of_ble_eq_true rfl) (by omega) dX11_odds_41 ⟨laA_157, mdA_158, wyA_159, pc_A_160, f1A_161, f2A_162, f3A_163, f4A_164, f5A_165, f6A_166, n4A_167, wwA_168, laB_169, mdB_170, wyB_171, pc_B_172, f1B_173, f2B_174, f3B_175, f4B_176, f5B_177, f6B_178, n4B_179, wwB_180, e0f_181, e1f_182, e2f_183, e3f_184, e4f_185, e5f_186, r1f_187, m1f_188, r2f_189, wff_190, rfl, h_191, h_192, h_193, h_194, h_195, h_196, h_197, h_198, h_199, h_200, h_201, h_202, h_203, h_204, h_205, h_206, h_207, h_208, h_210, h_211, h_212, h_213, h_214⟩)
    · have c_217n : ¬ r_216.toInt = (0 : Int) := fun q => c_217 ((fa_eq _ _).mpr q)
      refine lv_aload hx hb dX11_odds_19 (lv_at hl 0 rfl) ?_
      refine lv_ifnull hx hb dX11_odds_21 ?_
      refine lv_iload hx hb dX11_odds_24 (lv_at hl 5 rfl) ?_
      refine lv_if_lt (tgt := 40) hx hb dX11_odds_26 (by decide) (fun c_218 => ?_) (fun c_218 => ?_)
      · have c_218n : b_.toInt < (0 : Int) := (fa_lt _ _).mp c_218
        refine lv_iconst (v := (-1)) hx hb dX11_odds_40 (by decide) ?_
        exact z_back hQz_ (z_iret C hr hlocks G (Nat.le_of_ble_eq_true rfl) (by omega) dX11_odds_41 ⟨laA_157, mdA_158, wyA_159, pc_A_160, f1A_161, f2A_162, f3A_163, f4A_164, f5A_165, f6A_166, n4A_167, wwA_168, laB_169, mdB_170, wyB_171, pc_B_172, f1B_173, f2B_174, f3B_175, f4B_176, f5B_177, f6B_178, n4B_179, wwB_180, e0f_181, e1f_182, e2f_183, e3f_184, e4f_185, e5f_186, r1f_187, m1f_188, r2f_189, wff_190, rfl, h_191, h_192, h_193, h_194, h_195, h_196, h_197, h_198, h_199, h_200, h_201, h_202, h_203, h_204, h_205, h_206, h_207, h_208, h_210, h_211, h_212, h_213, h_214⟩)
      · have c_218n : ¬ b_.toInt < (0 : Int) := fun q => c_218 ((fa_lt _ _).mpr q)
        refine lv_iload hx hb dX11_odds_29 (lv_at hl 5 rfl) ?_
        refine lv_aload hx hb dX11_odds_31 (lv_at hl 0 rfl) ?_
        refine lv_iload_n hx hb dX11_odds_33 rfl (lv_at hl 4 rfl) ?_
        refine z_Vi (bc := [z1_]) (br := [[zO10 xo t im mk rd po co tr wa wb_ fi cd], wt, z0_, wg0_, wg1_, wwA_168, wwB_180, wff_190]) (As := [.int a_]) (rest := [.int b_]) C G (c_waysOut l T l1 cr1_ inn1_ k11_ k21_ k31_ k41_ z1_ a_ hz1_) (kV_RX11_221 C.2.2.2.2 (Nat.le_of_ble_eq_true rfl) (Nat.le_of_ble_eq_true rfl)) [3] [3] rfl rfl (ci := 4) (qc := (RX4, TX4, 6)) rfl rfl (List.mem_flatten.mpr ⟨_, List.mem_of_getElem? (i := 0) rfl, (bLand_mem hz1_).choose_spec⟩) rfl rfl hl.1 dX11_odds_34 (Nat.le_of_ble_eq_true rfl) (by show _ + 0 ≤ 6 * (zNA (i1.toInt = 0 ∧ 0 < (fk 0).toInt ∧ (0 ≤ i2.toInt ∧ i2.toInt < (fk 2).toInt ∧ i2.toInt < 2) ∧ (e0f.toInt = 0 ∨ ¬ e1f.toInt = i1.toInt ∨ ¬ e2f.toInt = i2.toInt)) mdA n4A (zPl cr0_ inn0_ k10_) - n4A) + 6 * (zNA (i1.toInt = 1 ∧ 1 < (fk 0).toInt ∧ (0 ≤ i2.toInt ∧ i2.toInt < (fk 2).toInt ∧ i2.toInt < 2) ∧ (e0f.toInt = 0 ∨ ¬ e1f.toInt = i1.toInt ∨ ¬ e2f.toInt = i2.toInt)) mdB n4B (zPl cr1_ inn1_ k11_) - n4B) + 2 * (zNF (i1.toInt = 1 ∧ 1 < (fk 0).toInt ∧ (0 ≤ i2.toInt ∧ i2.toInt < (fk 2).toInt ∧ i2.toInt < 2) ∧ (e0f.toInt = 0 ∨ ¬ e1f.toInt = i1.toInt ∨ ¬ e2f.toInt = i2.toInt)) (zNF (i1.toInt = 0 ∧ 0 < (fk 0).toInt ∧ (0 ≤ i2.toInt ∧ i2.toInt < (fk 2).toInt ∧ i2.toInt < 2) ∧ (e0f.toInt = 0 ∨ ¬ e1f.toInt = i1.toInt ∨ ¬ e2f.toInt = i2.toInt)) m1f (zMw mdA wyA cr0_ inn0_ k10_)) (zMw mdB wyB cr1_ inn1_ k11_) - m1f); omega) (fun r_220 b1 H locs hw G => ?_)
        refine zAn2 hw ?_
        intro hbs9 h_219
        clear hw
        subst hbs9
        have G : zS T A s.heap s [[zO10 xo t im mk rd po co tr wa wb_ fi cd], wt, z0_, wg0_, wg1_, wwA_168, wwB_180, wff_190, z1_] _ _ := G
        subst h_219
        refine lv_icmp_lt (tgt := 42) hx hb dX11_odds_37 (by decide) (fun c_221 => ?_) (fun c_221 => ?_)
        · have c_221n : b_.toInt < (zWays cr1_ inn1_ k11_ a_).toInt := (fa_lt _ _).mp c_221
          refine lv_aload_n hx hb dX11_odds_42 rfl (lv_at hl 1 rfl) ?_
          refine z_get C G clX11 0 rfl 9 (by decide) m_fl_RX11_65 rfl dX11_odds_43 ?_
          refine zEx2 h_205 ?_
          intro a1_222 a2_223 hbs9
          clear h_205
          subst hbs9
          have G : zS T A s.heap s [[zO10 xo t im mk rd po co tr wa wb_ fi cd], wt, z0_, wg0_, wg1_, wwA_168, wwB_180, [zO3 fi e0f_181 e1f_182 e2f_183 e3f_184 e4f_185 e5f_186 a1_222 a2_223], [zAr T 0 a1_222 m1f_188 r1f_187], [zAr T 0 a2_223 7 r2f_189], z1_] _ _ := G.re rfl
          refine z_get C G clX3 7 rfl 3 (by decide) m_fl_RX11_306 rfl dX11_odds_46 ?_
          refine lv_if_ne (tgt := 54) hx hb dX11_odds_49 (by decide) (fun c_224 => ?_) (fun c_224 => ?_)
          · have c_224n : ¬ e3f_184.toInt = (0 : Int) := fun q => c_224 ((fa_eq _ _).mpr q)
            refine lv_aload_n hx hb dX11_odds_54 rfl (lv_at hl 1 rfl) ?_
            refine z_get C G clX11 0 rfl 9 (by decide) m_fl_RX11_65 rfl dX11_odds_55 ?_
            refine lv_aload_n hx hb dX11_odds_58 rfl (lv_at hl 1 rfl) ?_
            refine lv_iload_n hx hb dX11_odds_59 rfl (lv_at hl 2 rfl) ?_
            refine lv_aload hx hb dX11_odds_60 (lv_at hl 0 rfl) ?_
            have hX := h_209.resolve_left (fun q => absurd (congrArg Int32.toInt q.1) (by show ¬ _ = (0 : Int); omega))
            have hmk : ¬ mdB_170 = 0 := (h_210 hX.2.2.1).elim (fun q => absurd q.1 (by have := hX.2.2.2; omega)) (fun q => q.2)
            have hzk : zMk mdB_170 n4B_179 (zPl cr1_ inn1_ k11_) = n4B_179 := by unfold zMk; rw [if_neg hmk]
            have hn9 : zMk mdB_170 n4B_179 (zPl cr1_ inn1_ k11_) ≤ 131072 := by rw [hzk]; exact zPw_le h_202
            refine z_Vq (bc := [[zO10 xo t im mk rd po co tr wa wb_ fi cd], wwB_180, z1_]) (br := [wt, z0_, wg0_, wg1_, wwA_168, [zO3 fi e0f_181 e1f_182 e2f_183 e3f_184 e4f_185 e5f_186 a1_222 a2_223], [zAr T 0 a1_222 m1f_188 r1f_187], [zAr T 0 a2_223 7 r2f_189]]) (As := [.int i1, .ref l1]) (rest := [.ref fi]) C G (c_f_waysInB l T xo t im mk rd po co tr wa wb_ fi cd i1 laB_169 mdB_170 wyB_171 pc_B_172 f1B_173 f2B_174 f3B_175 f4B_176 f5B_177 f6B_178 n4B_179 wwB_180 l1 cr1_ inn1_ k11_ k21_ k31_ k41_ z1_ h_198 hz1_ hI1_ h_202 h_199 (kaOk hI1_ hLq1).1 h_204 (by omega)) (kV_RX11_235 C.2.2.2.2 (Nat.le_of_ble_eq_true rfl) (Nat.le_of_ble_eq_true rfl)) [0, 6, 10] [0, 5, 3] rfl rfl (ci := 10) (qc := (RX11, TX11, 11)) rfl rfl (List.mem_flatten.mpr ⟨_, List.mem_of_getElem? (i := 0) rfl, List.mem_cons_self⟩) rfl rfl hl.1 dX11_odds_62 (Nat.le_of_ble_eq_true rfl) (by show _ + (6 * (zMk mdB_170 n4B_179 (zPl cr1_ inn1_ k11_) - n4B_179)) ≤ 6 * (zNA (i1.toInt = 0 ∧ 0 < (fk 0).toInt ∧ (0 ≤ i2.toInt ∧ i2.toInt < (fk 2).toInt ∧ i2.toInt < 2) ∧ (e0f.toInt = 0 ∨ ¬ e1f.toInt = i1.toInt ∨ ¬ e2f.toInt = i2.toInt)) mdA n4A (zPl cr0_ inn0_ k10_) - n4A) + 6 * (zNA (i1.toInt = 1 ∧ 1 < (fk 0).toInt ∧ (0 ≤ i2.toInt ∧ i2.toInt < (fk 2).toInt ∧ i2.toInt < 2) ∧ (e0f.toInt = 0 ∨ ¬ e1f.toInt = i1.toInt ∨ ¬ e2f.toInt = i2.toInt)) mdB n4B (zPl cr1_ inn1_ k11_) - n4B) + 2 * (zNF (i1.toInt = 1 ∧ 1 < (fk 0).toInt ∧ (0 ≤ i2.toInt ∧ i2.toInt < (fk 2).toInt ∧ i2.toInt < 2) ∧ (e0f.toInt = 0 ∨ ¬ e1f.toInt = i1.toInt ∨ ¬ e2f.toInt = i2.toInt)) (zNF (i1.toInt = 0 ∧ 0 < (fk 0).toInt ∧ (0 ≤ i2.toInt ∧ i2.toInt < (fk 2).toInt ∧ i2.toInt < 2) ∧ (e0f.toInt = 0 ∨ ¬ e1f.toInt = i1.toInt ∨ ¬ e2f.toInt = i2.toInt)) m1f (zMw mdA wyA cr0_ inn0_ k10_)) (zMw mdB wyB cr1_ inn1_ k11_) - m1f); omega) (fun r_239 b1 H locs hw G => ?_)
            refine zEx9 hw ?_
            intro w2_225 m2_226 wy2_227 pc2_228 g1_229 g2_230 g4_231 g5_232 g6_233
            refine zCu6 ?_
            intro hbs9 h_234 h_235 h_236 h_237 h_238
            clear hw
            subst hbs9
            have G : zS T A s.heap s [wt, z0_, wg0_, wg1_, wwA_168, [zO3 fi e0f_181 e1f_182 e2f_183 e3f_184 e4f_185 e5f_186 a1_222 a2_223], [zAr T 0 a1_222 m1f_188 r1f_187], [zAr T 0 a2_223 7 r2f_189], [zO10 xo t im mk rd po co tr wa wb_ fi cd], w2_225, z1_] _ _ := G
            subst h_234
            have hwy9 : 0 ≤ wy2_227.toInt ∧ wy2_227.toInt ≤ 16384 := by have q9 := zWy_in (inn := inn1_) hI1_; rw [h_236]; exact ⟨by omega, q9.2⟩
            refine lv_iload_n hx hb dX11_odds_65 rfl (lv_at hl 4 rfl) ?_
            refine lv_iload hx hb dX11_odds_66 (lv_at hl 5 rfl) ?_
            have hw_240 : bFit T fi e0f_181 e1f_182 e2f_183 e3f_184 e4f_185 e5f_186 r1f_187 m1f_188 r2f_189 [zO3 fi e0f_181 e1f_182 e2f_183 e3f_184 e4f_185 e5f_186 a1_222 a2_223, zAr T 0 a1_222 m1f_188 r1f_187, zAr T 0 a2_223 7 r2f_189] := ⟨a1_222, a2_223, rfl⟩
            have G : zS T A s.heap s [wt, z0_, wg0_, wg1_, wwA_168, [zO3 fi e0f_181 e1f_182 e2f_183 e3f_184 e4f_185 e5f_186 a1_222 a2_223, zAr T 0 a1_222 m1f_188 r1f_187, zAr T 0 a2_223 7 r2f_189], [zO10 xo t im mk rd po co tr wa wb_ fi cd], w2_225, z1_] _ _ := G.re rfl
            refine z_Vi (bc := [[zO3 fi e0f_181 e1f_182 e2f_183 e3f_184 e4f_185 e5f_186 a1_222 a2_223, zAr T 0 a1_222 m1f_188 r1f_187, zAr T 0 a2_223 7 r2f_189], w2_225]) (br := [wt, z0_, wg0_, wg1_, wwA_168, [zO10 xo t im mk rd po co tr wa wb_ fi cd], z1_]) (As := [.ref wb_, .int a_, .int b_]) (rest := []) C G (c_pointing l T fi e0f_181 e1f_182 e2f_183 e3f_184 e4f_185 e5f_186 r1f_187 m1f_188 r2f_189 ([zO3 fi e0f_181 e1f_182 e2f_183 e3f_184 e4f_185 e5f_186 a1_222 a2_223, zAr T 0 a1_222 m1f_188 r1f_187, zAr T 0 a2_223 7 r2f_189]) wb_ l1 m2_226 wy2_227 pc2_228 g1_229 g2_230 f3B_175 g4_231 g5_232 g6_233 (zMk mdB_170 n4B_179 (zPl cr1_ inn1_ k11_)) w2_225 a_ b_ hw_240 h_235 hfm9) (kV_RX11_320 C.2.2.2.2 (Nat.le_of_ble_eq_true rfl) (Nat.le_of_ble_eq_true rfl)) [5, 7] [5, 1] rfl rfl (ci := 3) (qc := (RX3, TX3, 8)) rfl rfl (List.mem_flatten.mpr ⟨_, List.mem_of_getElem? (i := 0) rfl, (bFit_mem hw_240).choose_spec⟩) rfl rfl hl.1 dX11_odds_68 (Nat.le_of_ble_eq_true rfl) (by show _ + 0 ≤ 6 * (zNA (i1.toInt = 0 ∧ 0 < (fk 0).toInt ∧ (0 ≤ i2.toInt ∧ i2.toInt < (fk 2).toInt ∧ i2.toInt < 2) ∧ (e0f.toInt = 0 ∨ ¬ e1f.toInt = i1.toInt ∨ ¬ e2f.toInt = i2.toInt)) mdA n4A (zPl cr0_ inn0_ k10_) - n4A) + 6 * (zNA (i1.toInt = 1 ∧ 1 < (fk 0).toInt ∧ (0 ≤ i2.toInt ∧ i2.toInt < (fk 2).toInt ∧ i2.toInt < 2) ∧ (e0f.toInt = 0 ∨ ¬ e1f.toInt = i1.toInt ∨ ¬ e2f.toInt = i2.toInt)) mdB n4B (zPl cr1_ inn1_ k11_) - n4B) + 2 * (zNF (i1.toInt = 1 ∧ 1 < (fk 0).toInt ∧ (0 ≤ i2.toInt ∧ i2.toInt < (fk 2).toInt ∧ i2.toInt < 2) ∧ (e0f.toInt = 0 ∨ ¬ e1f.toInt = i1.toInt ∨ ¬ e2f.toInt = i2.toInt)) (zNF (i1.toInt = 0 ∧ 0 < (fk 0).toInt ∧ (0 ≤ i2.toInt ∧ i2.toInt < (fk 2).toInt ∧ i2.toInt < 2) ∧ (e0f.toInt = 0 ∨ ¬ e1f.toInt = i1.toInt ∨ ¬ e2f.toInt = i2.toInt)) m1f (zMw mdA wyA cr0_ inn0_ k10_)) (zMw mdB wyB cr1_ inn1_ k11_) - m1f); omega) (fun r_241 b1 H locs hw G => ?_)
            obtain rfl := hw
            have G : zS T A s.heap s [wt, z0_, wg0_, wg1_, wwA_168, [zO10 xo t im mk rd po co tr wa wb_ fi cd], z1_, [zO3 fi e0f_181 e1f_182 e2f_183 e3f_184 e4f_185 e5f_186 a1_222 a2_223, zAr T 0 a1_222 m1f_188 r1f_187, zAr T 0 a2_223 7 r2f_189], w2_225] _ _ := G
            refine lv_istore (lv' := [(7, .int r_241), (6, .ref l1), (0, .ref xo), (1, .int i1), (2, .int i2), (3, .int a_), (4, .int b_), (5, .int w_)]) hx hb dX11_odds_71 hl (by decide) (zLvf_h rfl) (fun ls hl => ?_)
            refine lv_iload hx hb dX11_odds_73 (lv_at hl 0 rfl) ?_
            refine lv_aload_n hx hb dX11_odds_75 rfl (lv_at hl 2 rfl) ?_
            refine z_get C G clX11 5 rfl 9 (by decide) m_fl_RX11_65 rfl dX11_odds_76 ?_
            have G : zS T A s.heap s [wt, z0_, wg0_, wg1_, wwA_168, [zO10 xo t im mk rd po co tr wa wb_ fi cd], z1_, [zO3 fi e0f_181 e1f_182 e2f_183 e3f_184 e4f_185 e5f_186 a1_222 a2_223], [zAr T 0 a1_222 m1f_188 r1f_187], [zAr T 0 a2_223 7 r2f_189], w2_225] _ _ := G.re rfl
            refine z_get C G clX3 7 rfl 3 (by decide) m_fl_RX11_306 rfl dX11_odds_79 ?_
            refine lv_iload hx hb dX11_odds_82 (lv_at hl 7 rfl) ?_
            refine z_Si (bc := []) (br := [wt, z0_, wg0_, wg1_, wwA_168, [zO10 xo t im mk rd po co tr wa wb_ fi cd], z1_, [zO3 fi e0f_181 e1f_182 e2f_183 e3f_184 e4f_185 e5f_186 a1_222 a2_223], [zAr T 0 a1_222 m1f_188 r1f_187], [zAr T 0 a2_223 7 r2f_189], w2_225]) (As := [.int r_241, .int e3f_184, .int w_]) (rest := []) C G (c_inLeastTerms l T r_241 e3f_184 w_) (kS_RX11_262 C.2.2.2.2 (Nat.le_of_ble_eq_true rfl) (Nat.le_of_ble_eq_true rfl)) [] [] rfl rfl rfl rfl hl.1 dX11_odds_84 (Nat.le_of_ble_eq_true rfl) (by show _ + 0 ≤ 6 * (zNA (i1.toInt = 0 ∧ 0 < (fk 0).toInt ∧ (0 ≤ i2.toInt ∧ i2.toInt < (fk 2).toInt ∧ i2.toInt < 2) ∧ (e0f.toInt = 0 ∨ ¬ e1f.toInt = i1.toInt ∨ ¬ e2f.toInt = i2.toInt)) mdA n4A (zPl cr0_ inn0_ k10_) - n4A) + 6 * (zNA (i1.toInt = 1 ∧ 1 < (fk 0).toInt ∧ (0 ≤ i2.toInt ∧ i2.toInt < (fk 2).toInt ∧ i2.toInt < 2) ∧ (e0f.toInt = 0 ∨ ¬ e1f.toInt = i1.toInt ∨ ¬ e2f.toInt = i2.toInt)) mdB n4B (zPl cr1_ inn1_ k11_) - n4B) + 2 * (zNF (i1.toInt = 1 ∧ 1 < (fk 0).toInt ∧ (0 ≤ i2.toInt ∧ i2.toInt < (fk 2).toInt ∧ i2.toInt < 2) ∧ (e0f.toInt = 0 ∨ ¬ e1f.toInt = i1.toInt ∨ ¬ e2f.toInt = i2.toInt)) (zNF (i1.toInt = 0 ∧ 0 < (fk 0).toInt ∧ (0 ≤ i2.toInt ∧ i2.toInt < (fk 2).toInt ∧ i2.toInt < 2) ∧ (e0f.toInt = 0 ∨ ¬ e1f.toInt = i1.toInt ∨ ¬ e2f.toInt = i2.toInt)) m1f (zMw mdA wyA cr0_ inn0_ k10_)) (zMw mdB wyB cr1_ inn1_ k11_) - m1f); omega) (fun r_242 b1 H locs hw G => ?_)
            obtain rfl := hw
            have G : zS T A s.heap s [wt, z0_, wg0_, wg1_, wwA_168, [zO10 xo t im mk rd po co tr wa wb_ fi cd], z1_, [zO3 fi e0f_181 e1f_182 e2f_183 e3f_184 e4f_185 e5f_186 a1_222 a2_223], [zAr T 0 a1_222 m1f_188 r1f_187], [zAr T 0 a2_223 7 r2f_189], w2_225] _ _ := G
            have hw_243 : bFit T fi e0f_181 e1f_182 e2f_183 e3f_184 e4f_185 e5f_186 r1f_187 m1f_188 r2f_189 [zO3 fi e0f_181 e1f_182 e2f_183 e3f_184 e4f_185 e5f_186 a1_222 a2_223, zAr T 0 a1_222 m1f_188 r1f_187, zAr T 0 a2_223 7 r2f_189] := ⟨a1_222, a2_223, rfl⟩
            have G : zS T A s.heap s [wt, z0_, wg0_, wg1_, wwA_168, [zO10 xo t im mk rd po co tr wa wb_ fi cd], z1_, [zO3 fi e0f_181 e1f_182 e2f_183 e3f_184 e4f_185 e5f_186 a1_222 a2_223, zAr T 0 a1_222 m1f_188 r1f_187, zAr T 0 a2_223 7 r2f_189], w2_225] _ _ := G.re rfl
            have G := G.sub (bs' := [[zO10 xo t im mk rd po co tr wa wb_ fi cd], wt, z0_, z1_, wg0_, wg1_, wwA_168, w2_225, [zO3 fi e0f_181 e1f_182 e2f_183 e3f_184 e4f_185 e5f_186 a1_222 a2_223, zAr T 0 a1_222 m1f_188 r1f_187, zAr T 0 a2_223 7 r2f_189]]) [5, 0, 1, 6, 2, 3, 4, 8, 7] rfl
            exact z_back hQz_ (z_iret C hr hlocks G (Nat.le_of_ble_eq_true rfl) (by omega) dX11_odds_87 ⟨laA_157, mdA_158, wyA_159, pc_A_160, f1A_161, f2A_162, f3A_163, f4A_164, f5A_165, f6A_166, n4A_167, wwA_168, l1, m2_226, wy2_227, pc2_228, g1_229, g2_230, f3B_175, g4_231, g5_232, g6_233, (zMk mdB_170 n4B_179 (zPl cr1_ inn1_ k11_)), w2_225, e0f_181, e1f_182, e2f_183, e3f_184, e4f_185, e5f_186, r1f_187, m1f_188, r2f_189, ([zO3 fi e0f_181 e1f_182 e2f_183 e3f_184 e4f_185 e5f_186 a1_222 a2_223, zAr T 0 a1_222 m1f_188 r1f_187, zAr T 0 a2_223 7 r2f_189]), rfl, h_191, h_192, h_193, h_194, h_195, h_196, h_197, h_235, (Or.inr rfl), hwy9, (hzk.trans h_201), (by rw [hzk]; exact h_202), (fun _ => h_237), (Or.inr h_238), hw_243, h_206, h_207, h_208, (fun q => (h_210 q).elim (fun w => Or.inl ⟨w.1, w.2⟩) (fun w => Or.inr ⟨w.1, h_237⟩)), h_211, h_212, h_213, h_214⟩)
          · have c_224n : e3f_184.toInt = (0 : Int) := (fa_eq _ _).mp c_224
            refine lv_iconst (v := (-1)) hx hb dX11_odds_52 (by decide) ?_
            have hw_244 : bFit T fi e0f_181 e1f_182 e2f_183 e3f_184 e4f_185 e5f_186 r1f_187 m1f_188 r2f_189 [zO3 fi e0f_181 e1f_182 e2f_183 e3f_184 e4f_185 e5f_186 a1_222 a2_223, zAr T 0 a1_222 m1f_188 r1f_187, zAr T 0 a2_223 7 r2f_189] := ⟨a1_222, a2_223, rfl⟩
            have G : zS T A s.heap s [[zO10 xo t im mk rd po co tr wa wb_ fi cd], wt, z0_, wg0_, wg1_, wwA_168, wwB_180, [zO3 fi e0f_181 e1f_182 e2f_183 e3f_184 e4f_185 e5f_186 a1_222 a2_223, zAr T 0 a1_222 m1f_188 r1f_187, zAr T 0 a2_223 7 r2f_189], z1_] _ _ := G.re rfl
            have G := G.sub (bs' := [[zO10 xo t im mk rd po co tr wa wb_ fi cd], wt, z0_, z1_, wg0_, wg1_, wwA_168, wwB_180, [zO3 fi e0f_181 e1f_182 e2f_183 e3f_184 e4f_185 e5f_186 a1_222 a2_223, zAr T 0 a1_222 m1f_188 r1f_187, zAr T 0 a2_223 7 r2f_189]]) [0, 1, 2, 8, 3, 4, 5, 6, 7] rfl
            exact z_back hQz_ (z_iret C hr hlocks G (Nat.le_of_ble_eq_true rfl) (by omega) dX11_odds_53 ⟨laA_157, mdA_158, wyA_159, pc_A_160, f1A_161, f2A_162, f3A_163, f4A_164, f5A_165, f6A_166, n4A_167, wwA_168, laB_169, mdB_170, wyB_171, pc_B_172, f1B_173, f2B_174, f3B_175, f4B_176, f5B_177, f6B_178, n4B_179, wwB_180, e0f_181, e1f_182, e2f_183, e3f_184, e4f_185, e5f_186, r1f_187, m1f_188, r2f_189, ([zO3 fi e0f_181 e1f_182 e2f_183 e3f_184 e4f_185 e5f_186 a1_222 a2_223, zAr T 0 a1_222 m1f_188 r1f_187, zAr T 0 a2_223 7 r2f_189]), rfl, h_191, h_192, h_193, h_194, h_195, h_196, h_197, h_198, h_199, h_200, h_201, h_202, h_203, h_204, hw_244, h_206, h_207, h_208, h_210, h_211, h_212, h_213, h_214⟩)
        · have c_221n : ¬ b_.toInt < (zWays cr1_ inn1_ k11_ a_).toInt := fun q => c_221 ((fa_lt _ _).mpr q)
          refine lv_iconst (v := (-1)) hx hb dX11_odds_40 (by decide) ?_
          have G := G.sub (bs' := [[zO10 xo t im mk rd po co tr wa wb_ fi cd], wt, z0_, z1_, wg0_, wg1_, wwA_168, wwB_180, wff_190]) [0, 1, 2, 8, 3, 4, 5, 6, 7] rfl
          exact z_back hQz_ (z_iret C hr hlocks G (Nat.le_of_ble_eq_true rfl) (by omega) dX11_odds_41 ⟨laA_157, mdA_158, wyA_159, pc_A_160, f1A_161, f2A_162, f3A_163, f4A_164, f5A_165, f6A_166, n4A_167, wwA_168, laB_169, mdB_170, wyB_171, pc_B_172, f1B_173, f2B_174, f3B_175, f4B_176, f5B_177, f6B_178, n4B_179, wwB_180, e0f_181, e1f_182, e2f_183, e3f_184, e4f_185, e5f_186, r1f_187, m1f_188, r2f_189, wff_190, rfl, h_191, h_192, h_193, h_194, h_195, h_196, h_197, h_198, h_199, h_200, h_201, h_202, h_203, h_204, h_205, h_206, h_207, h_208, h_210, h_211, h_212, h_213, h_214⟩)
theorem aT_cg {W V L M : Nat → Int32} (h : ∀ j, j < 7 → W j = V j) (hL : zLs W L M) (h4 : ∀ j, j < 7 → (W j).toInt ≤ 4) (n i : Nat) : aT W L n i = aT V M n i := by
  unfold aT
  rw [aN_cg h hL h4]
theorem zTab_cg {cr inn cr' inn' wy pc : Int32} {k1 k2 k3 k1' k2' k3' f1 f2 f5 : Nat → Int32} {n : Nat} (hI : zLI cr k1 k3) (hI' : zLI cr' k1' k3') (hW : ∀ j, j < 7 → aW cr inn k1 j = aW cr' inn' k1' j) (hL : zLs (aW cr inn k1) k2 k2') (h : zTab cr inn k1 k2 wy pc f1 f2 f5 n) : zTab cr' inn' k1' k2' wy pc f1 f2 f5 n := by
  obtain ⟨h1, h2, h3, h4, h5⟩ := h
  have p : ∀ m, aPr (aW cr inn k1) m = aPr (aW cr' inn' k1') m := aPr_cg hW
  have w4 : ∀ j, j < 7 → (aW cr inn k1 j).toInt ≤ 4 := fun j _ => (zWays_le (inn := inn) hI (nI j)).2
  refine ⟨?_, ?_, ⟨fun c hc => ?_, fun c hc => ?_⟩, ?_, fun j hj => ?_⟩
  · rw [h1, zWy_z hI, zWy_z hI', p]
  · rw [h2, zPl_z hI, zPl_z hI', p]
  · rw [h3.1 c hc, aCh_z hI, aCh_z hI', aCh_cg (hW c hc)]
  · rw [h3.2 c hc, aWyN_z hI _ (by omega), aWyN_z hI' _ (by omega), p]
  · rw [← p]
    exact h4
  · rw [← p] at hj
    rw [h5 j hj, aT_cg hW hL w4]
theorem zTb_k {cr inn cr' inn' wy pc md md' : Int32} {k1 k2 k3 k4 k1' k2' k3' k4' f g f1 f2 f5 : Nat → Int32} {n B : Nat} (hB : B = 610 ∨ B = 661) (h : md = 0 ∨ zTab cr inn k1 k2 wy pc f1 f2 f5 n) (hm : md' = 0 ∨ md' = md ∧ ∀ j, j < 51 → g (B + j) = f (B + j)) (a : zLnd cr inn k1 k2 k3 k4 (fun j => f (B + j))) (a' : zLnd cr' inn' k1' k2' k3' k4' (fun j => g (B + j))) (hF : zLF (fun j => f (B + j))) (hI : zLI cr k1 k3) (hI' : zLI cr' k1' k3') : md' = 0 ∨ zTab cr' inn' k1' k2' wy pc f1 f2 f5 n := by
  rcases hm with hm | ⟨hm, hg⟩
  · exact Or.inl hm
  · rcases h with h | h
    · exact Or.inl (hm.trans h)
    · refine Or.inr ?_
      have hz : (nI B).toInt.toNat = B := by
        rw [nI_toInt (by omega)]
        rfl
      have hF' : zLF (fun j => g (B + j)) := zLF_cg (fun j hj => hg j hj) hF
      obtain ⟨b1, b2, -, -, -, -⟩ := zLnd_w a hF hz
      obtain ⟨d1, d2, -, -, -, -⟩ := zLnd_w a' hF' hz
      have e : ∀ j, j < 51 → g ((nI B).toInt.toNat + j) = f ((nI B).toInt.toNat + j) := fun j hj => by
        rw [hz]
        exact hg j hj
      have hp : ∀ j, j < 7 → pW f (nI B) j = pW g (nI B) j := fun j hj => by
        unfold pW zWo zRo
        rw [e 1 (by decide), e (2 + j) (by omega)]
      have hW : ∀ j, j < 7 → aW cr inn k1 j = aW cr' inn' k1' j := fun j hj => (b1 j hj).trans ((hp j hj).trans (d1 j hj).symm)
      have w4 : ∀ j, j < 7 → (aW cr inn k1 j).toInt ≤ 4 := fun j _ => (zWays_le (inn := inn) hI (nI j)).2
      refine zTab_cg hI hI' hW (fun j r hj hr hq => ?_) h
      have x1 : k2 (4 * j + r) = zLo f (nI B) (4 * j + r) := b2 j r hj hr hq
      have hq2 : (r : Int) < (kW cr' inn' k1' j).toInt := by
        have t : aW cr inn k1 j = kW cr' inn' k1' j := hW j hj
        rw [← t]
        exact hq
      have x2 : k2' (4 * j + r) = zLo g (nI B) (4 * j + r) := d2 j r hj hr hq2
      rw [x1, x2]
      exact (e (23 + (4 * j + r)) (by omega)).symm
theorem zText_l {z : pS × (Nat → Int32)} {s : Nat} {at_ r : Int32} {f g : Nat → Int32} (hs : s < 3) (h : zText z s at_ f g r) (hq : r.toInt < 0 ∨ ¬ s = 0) (h0 : 0 ≤ (f s).toInt) : ∀ j, 610 ≤ j → j < 712 → g j = f j := by
  intro j h1 h2
  have hd : ∀ a b, pHd f a b j = f j := fun a b => by
    unfold pHd
    rw [z_ne (by omega), z_ne (by omega), z_ne (by omega)]
  rcases h with ⟨_, _, e⟩ | ⟨_, _, _, e⟩ | ⟨ok, _, er, e⟩
  · rw [e j (by omega), hd]
  · rw [e j (by omega), hd]
  · rw [e j (by omega)]
    have s0 : ¬ s = 0 := by
      rcases hq with q | q
      · exfalso
        rw [er] at q
        unfold pNr at q
        unfold pOkAt at ok
        by_cases c : at_.toInt = -1
        · rw [if_pos c] at q
          omega
        · rw [if_neg c] at q ok
          omega
      · exact q
    have c : ∀ G : Nat → Int32, pCnt s at_ G j = G j := fun G => by
      unfold pCnt
      split
      · exact z_ne (by omega)
      · rfl
    unfold pPut
    rw [if_neg, c, hd]
    intro q
    have q1 := q.1
    unfold pBase at q1
    rw [if_neg s0] at q1
    split at q1 <;> omega
theorem zGg {gg : Int32} {a b F : Nat → Int32} (h : zLgd gg a b F) : 0 ≤ gg.toInt ∧ gg.toInt ≤ 8 := by
  rw [h.1]
  exact h.2.1
theorem zText_n {z : pS × (Nat → Int32)} {s : Nat} {at_ r : Int32} {f g : Nat → Int32} (h : zText z s at_ f g r) (hq : r.toInt < 0) (h0 : 0 ≤ (f s).toInt) : ∀ j, 610 ≤ j → j < 988 → g j = f j := by
  intro j h1 h2
  have hd : ∀ a b, pHd f a b j = f j := fun a b => by
    unfold pHd
    rw [z_ne (by omega), z_ne (by omega), z_ne (by omega)]
  rcases h with ⟨_, _, e⟩ | ⟨_, _, _, e⟩ | ⟨ok, _, er, e⟩
  · rw [e j (by omega), hd]
  · rw [e j (by omega), hd]
  · exfalso
    rw [er] at hq
    unfold pNr at hq
    unfold pOkAt at ok
    by_cases c : at_.toInt = -1
    · rw [if_pos c] at hq
      omega
    · rw [if_neg c] at hq ok
      omega
theorem gFt_cg {f g : Nat → Bool × Nat × Nat} {N m : Nat} {e3 e4 e5 : Int32} {r : Nat → Int32} (h : ∀ w, f w = g w) (k : gFt f N e3 e4 e5 r m) : gFt g N e3 e4 e5 r m := by
  have e : f = g := funext h
  rw [← e]
  exact k
theorem zFt_k {cr inn cr' inn' gg gg' e0 e0' e1 e2 e3 e4 e5 : Int32} {k1 k2 k3 k4 k1' k2' k3' k4' q1 q2 q1' q2' f g r : Nat → Int32} {B D n1 : Nat} {K G : Int} (hB : B = 610 ∨ B = 661) (h : ¬ e0 = 0 → e1.toInt = K → e2.toInt = G → gFt (fun w => gF (aW cr inn k1) k2 cr inn q1 q2 w gg.toInt.toNat) (aPr (aW cr inn k1) 7) e3 e4 e5 r n1) (hm : e0' = 0 ∨ e0' = e0 ∧ (∀ j, j < 51 → g (B + j) = f (B + j)) ∧ ∀ j, j < 17 → g (D + j) = f (D + j)) (a : zLnd cr inn k1 k2 k3 k4 (fun j => f (B + j))) (a' : zLnd cr' inn' k1' k2' k3' k4' (fun j => g (B + j))) (hF : zLF (fun j => f (B + j))) (hI : zLI cr k1 k3) (b : zLgd gg q1 q2 (fun j => f (D + j))) (b' : zLgd gg' q1' q2' (fun j => g (D + j))) : ¬ e0' = 0 → e1.toInt = K → e2.toInt = G → gFt (fun w => gF (aW cr' inn' k1') k2' cr' inn' q1' q2' w gg'.toInt.toNat) (aPr (aW cr' inn' k1') 7) e3 e4 e5 r n1 := by
  intro y0 y1 y2
  rcases hm with hm | ⟨hm, hg, hl⟩
  · exact absurd hm y0
  · have t := h (by rw [← hm]; exact y0) y1 y2
    have hz : (nI B).toInt.toNat = B := by
      rw [nI_toInt (by omega)]
      rfl
    have hF' : zLF (fun j => g (B + j)) := zLF_cg (fun j hj => hg j hj) hF
    obtain ⟨b1, b2, -, b4, b5, b6⟩ := zLnd_w a hF hz
    obtain ⟨d1, d2, -, -, d5, d6⟩ := zLnd_w a' hF' hz
    have e : ∀ j, j < 51 → g ((nI B).toInt.toNat + j) = f ((nI B).toInt.toNat + j) := fun j hj => by
      rw [hz]
      exact hg j hj
    have hp : ∀ j, j < 7 → pW f (nI B) j = pW g (nI B) j := fun j hj => by
      unfold pW zWo zRo
      rw [e 1 (by decide), e (2 + j) (by omega)]
    have hW : ∀ j, j < 7 → aW cr inn k1 j = aW cr' inn' k1' j := fun j hj => (b1 j hj).trans ((hp j hj).trans (d1 j hj).symm)
    have w4 : ∀ j, j < 7 → (aW cr inn k1 j).toInt ≤ 4 := fun j _ => (zWays_le (inn := inn) hI (nI j)).2
    have hL : zLs (aW cr inn k1) k2 k2' := fun j r hj hr hq => by
      have x1 : k2 (4 * j + r) = zLo f (nI B) (4 * j + r) := b2 j r hj hr hq
      have hq2 : (r : Int) < (kW cr' inn' k1' j).toInt := by
        have t : aW cr inn k1 j = kW cr' inn' k1' j := hW j hj
        rw [← t]
        exact hq
      have x2 : k2' (4 * j + r) = zLo g (nI B) (4 * j + r) := d2 j r hj hr hq2
      rw [x1, x2]
      exact (e (23 + (4 * j + r)) (by omega)).symm
    have ec : cr = cr' := by
      rw [b5, d5]
      have := e 0 (by decide)
      exact this.symm
    have ei : inn = inn' := by
      rw [b6, d6]
      exact (e 1 (by decide)).symm
    obtain ⟨g1, g2, g3⟩ := b
    obtain ⟨k1_, k2_, k3_⟩ := b'
    have g1 : gg = f (D + 0) := g1
    have k1_ : gg' = g (D + 0) := k1_
    have g2 : 0 ≤ (f (D + 0)).toInt ∧ (f (D + 0)).toInt ≤ 8 := g2
    have eg : gg = gg' := by
      rw [g1, k1_]
      exact (hl 0 (by decide)).symm
    have g3 : ∀ j : Nat, (j : Int) < (f (D + 0)).toInt → q1 j = f (D + (1 + 2 * j)) ∧ q2 j = f (D + (2 + 2 * j)) := g3
    have k3_ : ∀ j : Nat, (j : Int) < (g (D + 0)).toInt → q1' j = g (D + (1 + 2 * j)) ∧ q2' j = g (D + (2 + 2 * j)) := k3_
    rw [← aPr_cg hW 7, ← ec, ← ei, ← eg]
    refine gFt_cg (fun w => ?_) t
    subst ec
    subst ei
    refine gF_cg (g := gg.toInt.toNat) hW hL w4 (fun k hk => ?_) cr inn w _ (Nat.le_refl _)
    have x := g3 k (by rw [g1] at hk; omega)
    have y := k3_ k (by rw [hl 0 (by decide)]; rw [g1] at hk; omega)
    exact ⟨x.1.trans ((hl _ (by rw [g1] at hk; omega)).symm.trans y.1.symm), x.2.trans ((hl _ (by rw [g1] at hk; omega)).symm.trans y.2.symm)⟩


def zNF (c : Prop) [Decidable c] (n : Nat) (wy : Int32) : Nat := if c then zFl n wy else n
theorem zNF_y {c : Prop} [Decidable c] {n : Nat} {wy : Int32} (h : c) : zNF c n wy = zFl n wy := if_pos h
theorem zNF_n {c : Prop} [Decidable c] {n : Nat} {wy : Int32} (h : ¬ c) : zNF c n wy = n := if_neg h
set_option maxHeartbeats 4000000 in
set_option maxRecDepth 100000 in
/-- fit -/
theorem c_fit (l : Launch) (T : zTy) (xo : Nat) (t : Nat) (im : Nat) (mk : Nat) (rd : Nat) (po : Nat) (co : Nat) (tr : Nat) (wa : Nat) (wb_ : Nat) (fi : Nat) (cd : Nat) (l0 : Nat) (l1 : Nat) (d0 : Nat) (d1 : Nat) (g0 : Nat) (g1 : Nat) (ln : Int32) (fl : Int32) (pl : Int32) (ft : Nat → Int32) (fk : Nat → Int32) (wt : va_W) (cr0_ : Int32) (inn0_ : Int32) (k10_ : Nat → Int32) (k20_ : Nat → Int32) (k30_ : Nat → Int32) (k40_ : Nat → Int32) (z0_ : va_W) (cr1_ : Int32) (inn1_ : Int32) (k11_ : Nat → Int32) (k21_ : Nat → Int32) (k31_ : Nat → Int32) (k41_ : Nat → Int32) (z1_ : va_W) (gg0_ : Int32) (q10_ : Nat → Int32) (q20_ : Nat → Int32) (wg0_ : va_W) (gg1_ : Int32) (q11_ : Nat → Int32) (q21_ : Nat → Int32) (wg1_ : va_W) (laA : Nat) (mdA : Int32) (wyA : Int32) (pc_A : Int32) (f1A : Nat → Int32) (f2A : Nat → Int32) (f3A : Nat → Int32) (f4A : Nat → Int32) (f5A : Nat → Int32) (f6A : Nat → Int32) (n4A : Nat) (wwA : va_W) (laB : Nat) (mdB : Int32) (wyB : Int32) (pc_B : Int32) (f1B : Nat → Int32) (f2B : Nat → Int32) (f3B : Nat → Int32) (f4B : Nat → Int32) (f5B : Nat → Int32) (f6B : Nat → Int32) (n4B : Nat) (wwB : va_W) (e0f : Int32) (e1f : Int32) (e2f : Int32) (e3f : Int32) (e4f : Int32) (e5f : Int32) (r1f : Nat → Int32) (m1f : Nat) (r2f : Nat → Int32) (wff : va_W) (i1 : Int32) (i2 : Int32) (ht : bTold T t l0 l1 d0 d1 g0 g1 ln fl pl ft fk wt) (hK : zKT fk) (hz0_ : bLand T l0 cr0_ inn0_ k10_ k20_ k30_ k40_ z0_) (hI0_ : zLI cr0_ k10_ k30_) (hz1_ : bLand T l1 cr1_ inn1_ k11_ k21_ k31_ k41_ z1_) (hI1_ : zLI cr1_ k11_ k31_) (hg0_ : bLog T g0 gg0_ q10_ q20_ wg0_) (hg1_ : bLog T g1 gg1_ q11_ q21_ wg1_) (hwwA : bWays T wa laA mdA wyA pc_A f1A f2A f3A f4A f5A f6A n4A wwA) (hpwA : zPw n4A) (hmdA : mdA = 0 ∨ laA = l0) (hwmA : 0 ≤ wyA.toInt ∧ wyA.toInt ≤ 16384) (hwwB : bWays T wb_ laB mdB wyB pc_B f1B f2B f3B f4B f5B f6B n4B wwB) (hpwB : zPw n4B) (hmdB : mdB = 0 ∨ laB = l1) (hwmB : 0 ≤ wyB.toInt ∧ wyB.toInt ≤ 16384) (hwff : bFit T fi e0f e1f e2f e3f e4f e5f r1f m1f r2f wff) (hfw : zFw m1f) (hf3 : 0 ≤ e3f.toInt) (hFI : (¬ e0f = 0 → e1f.toInt = 0 ∧ ¬ mdA = 0 ∨ e1f.toInt = 1 ∧ ¬ mdB = 0)) : zMi l T yX11_fit cX11_fit 5 (some .boolean) 7 4 (6 * (zNA (i1.toInt = 0 ∧ 0 < (fk 0).toInt ∧ (0 ≤ i2.toInt ∧ i2.toInt < (fk 2).toInt ∧ i2.toInt < 2) ∧ (e0f.toInt = 0 ∨ ¬ e1f.toInt = i1.toInt ∨ ¬ e2f.toInt = i2.toInt)) mdA n4A (zPl cr0_ inn0_ k10_) - n4A) + 6 * (zNA (i1.toInt = 1 ∧ 1 < (fk 0).toInt ∧ (0 ≤ i2.toInt ∧ i2.toInt < (fk 2).toInt ∧ i2.toInt < 2) ∧ (e0f.toInt = 0 ∨ ¬ e1f.toInt = i1.toInt ∨ ¬ e2f.toInt = i2.toInt)) mdB n4B (zPl cr1_ inn1_ k11_) - n4B) + 2 * (zNF (i1.toInt = 1 ∧ 1 < (fk 0).toInt ∧ (0 ≤ i2.toInt ∧ i2.toInt < (fk 2).toInt ∧ i2.toInt < 2) ∧ (e0f.toInt = 0 ∨ ¬ e1f.toInt = i1.toInt ∨ ¬ e2f.toInt = i2.toInt)) (zNF (i1.toInt = 0 ∧ 0 < (fk 0).toInt ∧ (0 ≤ i2.toInt ∧ i2.toInt < (fk 2).toInt ∧ i2.toInt < 2) ∧ (e0f.toInt = 0 ∨ ¬ e1f.toInt = i1.toInt ∨ ¬ e2f.toInt = i2.toInt)) m1f (zMw mdA wyA cr0_ inn0_ k10_)) (zMw mdB wyB cr1_ inn1_ k11_) - m1f)) [.ref xo, .int i1, .int i2] [[zO10 xo t im mk rd po co tr wa wb_ fi cd], wt, z0_, z1_, wg0_, wg1_, wwA, wwB, wff] (fun (r : Int32) bs => ∃ (laA_2 : Nat) (mdA_2 : Int32) (wyA_2 : Int32) (pc_A_2 : Int32) (f1A_2 : Nat → Int32) (f2A_2 : Nat → Int32) (f3A_2 : Nat → Int32) (f4A_2 : Nat → Int32) (f5A_2 : Nat → Int32) (f6A_2 : Nat → Int32) (n4A_2 : Nat) (wwA_2 : va_W) (laB_2 : Nat) (mdB_2 : Int32) (wyB_2 : Int32) (pc_B_2 : Int32) (f1B_2 : Nat → Int32) (f2B_2 : Nat → Int32) (f3B_2 : Nat → Int32) (f4B_2 : Nat → Int32) (f5B_2 : Nat → Int32) (f6B_2 : Nat → Int32) (n4B_2 : Nat) (wwB_2 : va_W) (e0f_2 : Int32) (e1f_2 : Int32) (e2f_2 : Int32) (e3f_2 : Int32) (e4f_2 : Int32) (e5f_2 : Int32) (r1f_2 : Nat → Int32) (m1f_2 : Nat) (r2f_2 : Nat → Int32) (wff_2 : va_W), bs = [[zO10 xo t im mk rd po co tr wa wb_ fi cd], wt, z0_, z1_, wg0_, wg1_, wwA_2, wwB_2, wff_2] ∧ bWays T wa laA_2 mdA_2 wyA_2 pc_A_2 f1A_2 f2A_2 f3A_2 f4A_2 f5A_2 f6A_2 n4A_2 wwA_2 ∧ (mdA_2 = 0 ∨ laA_2 = l0) ∧ (0 ≤ wyA_2.toInt ∧ wyA_2.toInt ≤ 16384) ∧ n4A_2 = zNA (i1.toInt = 0 ∧ 0 < (fk 0).toInt ∧ (0 ≤ i2.toInt ∧ i2.toInt < (fk 2).toInt ∧ i2.toInt < 2) ∧ (e0f.toInt = 0 ∨ ¬ e1f.toInt = i1.toInt ∨ ¬ e2f.toInt = i2.toInt)) mdA n4A (zPl cr0_ inn0_ k10_) ∧ zPw n4A_2 ∧ (¬ mdA = 0 → ¬ mdA_2 = 0) ∧ bWays T wb_ laB_2 mdB_2 wyB_2 pc_B_2 f1B_2 f2B_2 f3B_2 f4B_2 f5B_2 f6B_2 n4B_2 wwB_2 ∧ (mdB_2 = 0 ∨ laB_2 = l1) ∧ (0 ≤ wyB_2.toInt ∧ wyB_2.toInt ≤ 16384) ∧ n4B_2 = zNA (i1.toInt = 1 ∧ 1 < (fk 0).toInt ∧ (0 ≤ i2.toInt ∧ i2.toInt < (fk 2).toInt ∧ i2.toInt < 2) ∧ (e0f.toInt = 0 ∨ ¬ e1f.toInt = i1.toInt ∨ ¬ e2f.toInt = i2.toInt)) mdB n4B (zPl cr1_ inn1_ k11_) ∧ zPw n4B_2 ∧ (¬ mdB = 0 → ¬ mdB_2 = 0) ∧ bFit T fi e0f_2 e1f_2 e2f_2 e3f_2 e4f_2 e5f_2 r1f_2 m1f_2 r2f_2 wff_2 ∧ m1f_2 = zNF (i1.toInt = 1 ∧ 1 < (fk 0).toInt ∧ (0 ≤ i2.toInt ∧ i2.toInt < (fk 2).toInt ∧ i2.toInt < 2) ∧ (e0f.toInt = 0 ∨ ¬ e1f.toInt = i1.toInt ∨ ¬ e2f.toInt = i2.toInt)) (zNF (i1.toInt = 0 ∧ 0 < (fk 0).toInt ∧ (0 ≤ i2.toInt ∧ i2.toInt < (fk 2).toInt ∧ i2.toInt < 2) ∧ (e0f.toInt = 0 ∨ ¬ e1f.toInt = i1.toInt ∨ ¬ e2f.toInt = i2.toInt)) m1f (zMw mdA wyA cr0_ inn0_ k10_)) (zMw mdB wyB cr1_ inn1_ k11_) ∧ zFw m1f_2 ∧ 0 ≤ e3f_2.toInt ∧ (r = 0 ∧ ¬ ((0 ≤ i1.toInt ∧ i1.toInt < (fk 0).toInt ∧ i1.toInt < 2) ∧ (0 ≤ i2.toInt ∧ i2.toInt < (fk 2).toInt ∧ i2.toInt < 2)) ∨ r = 1 ∧ ((0 ≤ i1.toInt ∧ i1.toInt < (fk 0).toInt ∧ i1.toInt < 2) ∧ (0 ≤ i2.toInt ∧ i2.toInt < (fk 2).toInt ∧ i2.toInt < 2)) ∧ ¬ e0f_2 = 0 ∧ e1f_2.toInt = i1.toInt) ∧ (¬ e0f_2 = 0 → e1f_2.toInt = 0 ∧ ¬ mdA_2 = 0 ∨ e1f_2.toInt = 1 ∧ ¬ mdB_2 = 0)) := by
  refine zMi_of (own := RX11) (by decide) rfl (Nat.le_of_ble_eq_true rfl) ?_
  intro p e s m args below meth c A ls C hr hlocks hnm hAe G hl
  refine zHide (fun Q9 hQ9 => ?_)
  have hx := C.1
  have hb := C.2.1
  replace hmdA : zHd (mdA = 0 ∨ laA = l0) := hmdA
  replace hmdB : zHd (mdB = 0 ∨ laB = l1) := hmdB
  replace hFI : zHd ((¬ e0f = 0 → e1f.toInt = 0 ∧ ¬ mdA = 0 ∨ e1f.toInt = 1 ∧ ¬ mdB = 0)) := hFI
  have hl : lv_has ls 5 [(0, .ref xo), (1, .int i1), (2, .int i2)] := hl
  refine lv_aload_n hx hb dX11_fit_0 rfl (lv_at hl 0 rfl) ?_
  refine z_get C G clX11 0 rfl 0 (by decide) m_fl_RX11_10 rfl dX11_fit_1 ?_
  refine lv_iload_n hx hb dX11_fit_4 rfl (lv_at hl 1 rfl) ?_
  refine z_Vq (bc := [wt]) (br := [[zO10 xo t im mk rd po co tr wa wb_ fi cd], z0_, z1_, wg0_, wg1_, wwA, wwB, wff]) (As := [.int i1]) (rest := []) C G (c_landAt l T t l0 l1 d0 d1 g0 g1 ln fl pl ft fk wt i1 ht) (kV_RX11_121 C.2.2.2.2 (Nat.le_of_ble_eq_true rfl) (Nat.le_of_ble_eq_true rfl)) [1] [1] rfl rfl (ci := 8) (qc := (RX9, TX9, 8)) rfl rfl (List.mem_flatten.mpr ⟨_, List.mem_of_getElem? (i := 0) rfl, (bTold_mem ht).choose_spec⟩) rfl rfl hl.1 dX11_fit_5 (by show _ + 0 ≤ 4; omega) (by show _ + 0 ≤ 6 * (zNA (i1.toInt = 0 ∧ 0 < (fk 0).toInt ∧ (0 ≤ i2.toInt ∧ i2.toInt < (fk 2).toInt ∧ i2.toInt < 2) ∧ (e0f.toInt = 0 ∨ ¬ e1f.toInt = i1.toInt ∨ ¬ e2f.toInt = i2.toInt)) mdA n4A (zPl cr0_ inn0_ k10_) - n4A) + 6 * (zNA (i1.toInt = 1 ∧ 1 < (fk 0).toInt ∧ (0 ≤ i2.toInt ∧ i2.toInt < (fk 2).toInt ∧ i2.toInt < 2) ∧ (e0f.toInt = 0 ∨ ¬ e1f.toInt = i1.toInt ∨ ¬ e2f.toInt = i2.toInt)) mdB n4B (zPl cr1_ inn1_ k11_) - n4B) + 2 * (zNF (i1.toInt = 1 ∧ 1 < (fk 0).toInt ∧ (0 ≤ i2.toInt ∧ i2.toInt < (fk 2).toInt ∧ i2.toInt < 2) ∧ (e0f.toInt = 0 ∨ ¬ e1f.toInt = i1.toInt ∨ ¬ e2f.toInt = i2.toInt)) (zNF (i1.toInt = 0 ∧ 0 < (fk 0).toInt ∧ (0 ≤ i2.toInt ∧ i2.toInt < (fk 2).toInt ∧ i2.toInt < 2) ∧ (e0f.toInt = 0 ∨ ¬ e1f.toInt = i1.toInt ∨ ¬ e2f.toInt = i2.toInt)) m1f (zMw mdA wyA cr0_ inn0_ k10_)) (zMw mdB wyB cr1_ inn1_ k11_) - m1f); omega) (fun r_2 b1 H locs hw G => ?_)
  refine zAn2 hw ?_
  intro hbs9 hc_1
  clear hw
  subst hbs9
  have G : zS T A s.heap s [[zO10 xo t im mk rd po co tr wa wb_ fi cd], z0_, z1_, wg0_, wg1_, wwA, wwB, wff, wt] _ _ := G
  rcases hc_1 with ⟨rfl, h_3⟩ | ⟨rfl, h_4, h_5⟩ | ⟨rfl, h_6, h_7⟩
  · have h_3 : (i1.toInt < 0 ∨ (fk 0).toInt ≤ i1.toInt ∨ 2 ≤ i1.toInt) := h_3
    refine lv_astore_nN (lv' := [(3, .null), (0, .ref xo), (1, .int i1), (2, .int i2)]) hx hb dX11_fit_8 rfl hl (by decide) rfl (fun ls hl => ?_)
    refine lv_aload_n hx hb dX11_fit_9 rfl (lv_at hl 1 rfl) ?_
    refine z_get C G clX11 0 rfl 0 (by decide) m_fl_RX11_10 rfl dX11_fit_10 ?_
    refine lv_iload_n hx hb dX11_fit_13 rfl (lv_at hl 3 rfl) ?_
    refine z_Vq (bc := [wt]) (br := [[zO10 xo t im mk rd po co tr wa wb_ fi cd], z0_, z1_, wg0_, wg1_, wwA, wwB, wff]) (As := [.int i2]) (rest := []) C G (c_logAt l T t l0 l1 d0 d1 g0 g1 ln fl pl ft fk wt i2 ht) (kV_RX11_138 C.2.2.2.2 (Nat.le_of_ble_eq_true rfl) (Nat.le_of_ble_eq_true rfl)) [8] [8] rfl rfl (ci := 8) (qc := (RX9, TX9, 8)) rfl rfl (List.mem_flatten.mpr ⟨_, List.mem_of_getElem? (i := 0) rfl, (bTold_mem ht).choose_spec⟩) rfl rfl hl.1 dX11_fit_14 (by show _ + 0 ≤ 4; omega) (by show _ + 0 ≤ 6 * (zNA (i1.toInt = 0 ∧ 0 < (fk 0).toInt ∧ (0 ≤ i2.toInt ∧ i2.toInt < (fk 2).toInt ∧ i2.toInt < 2) ∧ (e0f.toInt = 0 ∨ ¬ e1f.toInt = i1.toInt ∨ ¬ e2f.toInt = i2.toInt)) mdA n4A (zPl cr0_ inn0_ k10_) - n4A) + 6 * (zNA (i1.toInt = 1 ∧ 1 < (fk 0).toInt ∧ (0 ≤ i2.toInt ∧ i2.toInt < (fk 2).toInt ∧ i2.toInt < 2) ∧ (e0f.toInt = 0 ∨ ¬ e1f.toInt = i1.toInt ∨ ¬ e2f.toInt = i2.toInt)) mdB n4B (zPl cr1_ inn1_ k11_) - n4B) + 2 * (zNF (i1.toInt = 1 ∧ 1 < (fk 0).toInt ∧ (0 ≤ i2.toInt ∧ i2.toInt < (fk 2).toInt ∧ i2.toInt < 2) ∧ (e0f.toInt = 0 ∨ ¬ e1f.toInt = i1.toInt ∨ ¬ e2f.toInt = i2.toInt)) (zNF (i1.toInt = 0 ∧ 0 < (fk 0).toInt ∧ (0 ≤ i2.toInt ∧ i2.toInt < (fk 2).toInt ∧ i2.toInt < 2) ∧ (e0f.toInt = 0 ∨ ¬ e1f.toInt = i1.toInt ∨ ¬ e2f.toInt = i2.toInt)) m1f (zMw mdA wyA cr0_ inn0_ k10_)) (zMw mdB wyB cr1_ inn1_ k11_) - m1f); omega) (fun r_9 b1 H locs hw G => ?_)
    refine zAn2 hw ?_
    intro hbs9 hc_8
    clear hw
    subst hbs9
    have G : zS T A s.heap s [[zO10 xo t im mk rd po co tr wa wb_ fi cd], z0_, z1_, wg0_, wg1_, wwA, wwB, wff, wt] _ _ := G
    rcases hc_8 with ⟨rfl, h_10⟩ | ⟨rfl, h_11, h_12⟩ | ⟨rfl, h_13, h_14⟩
    · have h_10 : (i2.toInt < 0 ∨ (fk 2).toInt ≤ i2.toInt ∨ 2 ≤ i2.toInt) := h_10
      refine lv_astoreN (lv' := [(4, .null), (3, .null), (0, .ref xo), (1, .int i1), (2, .int i2)]) hx hb dX11_fit_17 hl (by decide) rfl (fun ls hl => ?_)
      refine lv_aload_nN hx hb dX11_fit_19 rfl (lv_at hl 1 rfl) ?_
      refine lv_ifnullN (tgt := 28) hx hb dX11_fit_20 (by decide) ?_
      refine lv_iconst (v := 0) hx hb dX11_fit_28 (by decide) ?_
      have G := G.sub (bs' := [[zO10 xo t im mk rd po co tr wa wb_ fi cd], wt, z0_, z1_, wg0_, wg1_, wwA, wwB, wff]) [0, 8, 1, 2, 3, 4, 5, 6, 7] rfl
      exact z_back hQ9 (z_zret C hr hlocks G (by omega) (by omega) dX11_fit_29 rfl ⟨laA, mdA, wyA, pc_A, f1A, f2A, f3A, f4A, f5A, f6A, n4A, wwA, laB, mdB, wyB, pc_B, f1B, f2B, f3B, f4B, f5B, f6B, n4B, wwB, e0f, e1f, e2f, e3f, e4f, e5f, r1f, m1f, r2f, wff, rfl, hwwA, hmdA, hwmA, (zNA_n (by omega)).symm, hpwA, (fun q => q), hwwB, hmdB, hwmB, (zNA_n (by omega)).symm, hpwB, (fun q => q), hwff, (((zNF_n (c := (i1.toInt = 1 ∧ 1 < (fk 0).toInt ∧ (0 ≤ i2.toInt ∧ i2.toInt < (fk 2).toInt ∧ i2.toInt < 2) ∧ (e0f.toInt = 0 ∨ ¬ e1f.toInt = i1.toInt ∨ ¬ e2f.toInt = i2.toInt))) (by omega)).trans (zNF_n (by omega))).symm), hfw, hf3, (Or.inl ⟨rfl, by omega⟩), hFI⟩)
    · have h_11 : i2.toInt = 0 := h_11
      have h_12 : 0 < (fk 2).toInt := h_12
      refine lv_astore (lv' := [(4, .ref g0), (3, .null), (0, .ref xo), (1, .int i1), (2, .int i2)]) hx hb dX11_fit_17 hl (by decide) rfl (fun ls hl => ?_)
      refine lv_aload_nN hx hb dX11_fit_19 rfl (lv_at hl 1 rfl) ?_
      refine lv_ifnullN (tgt := 28) hx hb dX11_fit_20 (by decide) ?_
      refine lv_iconst (v := 0) hx hb dX11_fit_28 (by decide) ?_
      have G := G.sub (bs' := [[zO10 xo t im mk rd po co tr wa wb_ fi cd], wt, z0_, z1_, wg0_, wg1_, wwA, wwB, wff]) [0, 8, 1, 2, 3, 4, 5, 6, 7] rfl
      exact z_back hQ9 (z_zret C hr hlocks G (by omega) (by omega) dX11_fit_29 rfl ⟨laA, mdA, wyA, pc_A, f1A, f2A, f3A, f4A, f5A, f6A, n4A, wwA, laB, mdB, wyB, pc_B, f1B, f2B, f3B, f4B, f5B, f6B, n4B, wwB, e0f, e1f, e2f, e3f, e4f, e5f, r1f, m1f, r2f, wff, rfl, hwwA, hmdA, hwmA, (zNA_n (by omega)).symm, hpwA, (fun q => q), hwwB, hmdB, hwmB, (zNA_n (by omega)).symm, hpwB, (fun q => q), hwff, (((zNF_n (c := (i1.toInt = 1 ∧ 1 < (fk 0).toInt ∧ (0 ≤ i2.toInt ∧ i2.toInt < (fk 2).toInt ∧ i2.toInt < 2) ∧ (e0f.toInt = 0 ∨ ¬ e1f.toInt = i1.toInt ∨ ¬ e2f.toInt = i2.toInt))) (by omega)).trans (zNF_n (by omega))).symm), hfw, hf3, (Or.inl ⟨rfl, by omega⟩), hFI⟩)
    · have h_13 : i2.toInt = 1 := h_13
      have h_14 : 1 < (fk 2).toInt := h_14
      refine lv_astore (lv' := [(4, .ref g1), (3, .null), (0, .ref xo), (1, .int i1), (2, .int i2)]) hx hb dX11_fit_17 hl (by decide) rfl (fun ls hl => ?_)
      refine lv_aload_nN hx hb dX11_fit_19 rfl (lv_at hl 1 rfl) ?_
      refine lv_ifnullN (tgt := 28) hx hb dX11_fit_20 (by decide) ?_
      refine lv_iconst (v := 0) hx hb dX11_fit_28 (by decide) ?_
      have G := G.sub (bs' := [[zO10 xo t im mk rd po co tr wa wb_ fi cd], wt, z0_, z1_, wg0_, wg1_, wwA, wwB, wff]) [0, 8, 1, 2, 3, 4, 5, 6, 7] rfl
      exact z_back hQ9 (z_zret C hr hlocks G (by omega) (by omega) dX11_fit_29 rfl ⟨laA, mdA, wyA, pc_A, f1A, f2A, f3A, f4A, f5A, f6A, n4A, wwA, laB, mdB, wyB, pc_B, f1B, f2B, f3B, f4B, f5B, f6B, n4B, wwB, e0f, e1f, e2f, e3f, e4f, e5f, r1f, m1f, r2f, wff, rfl, hwwA, hmdA, hwmA, (zNA_n (by omega)).symm, hpwA, (fun q => q), hwwB, hmdB, hwmB, (zNA_n (by omega)).symm, hpwB, (fun q => q), hwff, (((zNF_n (c := (i1.toInt = 1 ∧ 1 < (fk 0).toInt ∧ (0 ≤ i2.toInt ∧ i2.toInt < (fk 2).toInt ∧ i2.toInt < 2) ∧ (e0f.toInt = 0 ∨ ¬ e1f.toInt = i1.toInt ∨ ¬ e2f.toInt = i2.toInt))) (by omega)).trans (zNF_n (by omega))).symm), hfw, hf3, (Or.inl ⟨rfl, by omega⟩), hFI⟩)
  · have h_4 : i1.toInt = 0 := h_4
    have h_5 : 0 < (fk 0).toInt := h_5
    refine lv_astore_n (lv' := [(3, .ref l0), (0, .ref xo), (1, .int i1), (2, .int i2)]) hx hb dX11_fit_8 rfl hl (by decide) rfl (fun ls hl => ?_)
    refine lv_aload_n hx hb dX11_fit_9 rfl (lv_at hl 1 rfl) ?_
    refine z_get C G clX11 0 rfl 0 (by decide) m_fl_RX11_10 rfl dX11_fit_10 ?_
    refine lv_iload_n hx hb dX11_fit_13 rfl (lv_at hl 3 rfl) ?_
    refine z_Vq (bc := [wt]) (br := [[zO10 xo t im mk rd po co tr wa wb_ fi cd], z0_, z1_, wg0_, wg1_, wwA, wwB, wff]) (As := [.int i2]) (rest := []) C G (c_logAt l T t l0 l1 d0 d1 g0 g1 ln fl pl ft fk wt i2 ht) (kV_RX11_138 C.2.2.2.2 (Nat.le_of_ble_eq_true rfl) (Nat.le_of_ble_eq_true rfl)) [8] [8] rfl rfl (ci := 8) (qc := (RX9, TX9, 8)) rfl rfl (List.mem_flatten.mpr ⟨_, List.mem_of_getElem? (i := 0) rfl, (bTold_mem ht).choose_spec⟩) rfl rfl hl.1 dX11_fit_14 (by show _ + 0 ≤ 4; omega) (by show _ + 0 ≤ 6 * (zNA (i1.toInt = 0 ∧ 0 < (fk 0).toInt ∧ (0 ≤ i2.toInt ∧ i2.toInt < (fk 2).toInt ∧ i2.toInt < 2) ∧ (e0f.toInt = 0 ∨ ¬ e1f.toInt = i1.toInt ∨ ¬ e2f.toInt = i2.toInt)) mdA n4A (zPl cr0_ inn0_ k10_) - n4A) + 6 * (zNA (i1.toInt = 1 ∧ 1 < (fk 0).toInt ∧ (0 ≤ i2.toInt ∧ i2.toInt < (fk 2).toInt ∧ i2.toInt < 2) ∧ (e0f.toInt = 0 ∨ ¬ e1f.toInt = i1.toInt ∨ ¬ e2f.toInt = i2.toInt)) mdB n4B (zPl cr1_ inn1_ k11_) - n4B) + 2 * (zNF (i1.toInt = 1 ∧ 1 < (fk 0).toInt ∧ (0 ≤ i2.toInt ∧ i2.toInt < (fk 2).toInt ∧ i2.toInt < 2) ∧ (e0f.toInt = 0 ∨ ¬ e1f.toInt = i1.toInt ∨ ¬ e2f.toInt = i2.toInt)) (zNF (i1.toInt = 0 ∧ 0 < (fk 0).toInt ∧ (0 ≤ i2.toInt ∧ i2.toInt < (fk 2).toInt ∧ i2.toInt < 2) ∧ (e0f.toInt = 0 ∨ ¬ e1f.toInt = i1.toInt ∨ ¬ e2f.toInt = i2.toInt)) m1f (zMw mdA wyA cr0_ inn0_ k10_)) (zMw mdB wyB cr1_ inn1_ k11_) - m1f); omega) (fun r_16 b1 H locs hw G => ?_)
    refine zAn2 hw ?_
    intro hbs9 hc_15
    clear hw
    subst hbs9
    have G : zS T A s.heap s [[zO10 xo t im mk rd po co tr wa wb_ fi cd], z0_, z1_, wg0_, wg1_, wwA, wwB, wff, wt] _ _ := G
    rcases hc_15 with ⟨rfl, h_17⟩ | ⟨rfl, h_18, h_19⟩ | ⟨rfl, h_20, h_21⟩
    · have h_17 : (i2.toInt < 0 ∨ (fk 2).toInt ≤ i2.toInt ∨ 2 ≤ i2.toInt) := h_17
      refine lv_astoreN (lv' := [(4, .null), (3, .ref l0), (0, .ref xo), (1, .int i1), (2, .int i2)]) hx hb dX11_fit_17 hl (by decide) rfl (fun ls hl => ?_)
      refine lv_aload_n hx hb dX11_fit_19 rfl (lv_at hl 1 rfl) ?_
      refine lv_ifnull hx hb dX11_fit_20 ?_
      refine lv_aloadN hx hb dX11_fit_23 (lv_at hl 0 rfl) ?_
      refine lv_ifnonnullN hx hb dX11_fit_25 ?_
      refine lv_iconst (v := 0) hx hb dX11_fit_28 (by decide) ?_
      have G := G.sub (bs' := [[zO10 xo t im mk rd po co tr wa wb_ fi cd], wt, z0_, z1_, wg0_, wg1_, wwA, wwB, wff]) [0, 8, 1, 2, 3, 4, 5, 6, 7] rfl
      exact z_back hQ9 (z_zret C hr hlocks G (by omega) (by omega) dX11_fit_29 rfl ⟨laA, mdA, wyA, pc_A, f1A, f2A, f3A, f4A, f5A, f6A, n4A, wwA, laB, mdB, wyB, pc_B, f1B, f2B, f3B, f4B, f5B, f6B, n4B, wwB, e0f, e1f, e2f, e3f, e4f, e5f, r1f, m1f, r2f, wff, rfl, hwwA, hmdA, hwmA, (zNA_n (by omega)).symm, hpwA, (fun q => q), hwwB, hmdB, hwmB, (zNA_n (by omega)).symm, hpwB, (fun q => q), hwff, (((zNF_n (c := (i1.toInt = 1 ∧ 1 < (fk 0).toInt ∧ (0 ≤ i2.toInt ∧ i2.toInt < (fk 2).toInt ∧ i2.toInt < 2) ∧ (e0f.toInt = 0 ∨ ¬ e1f.toInt = i1.toInt ∨ ¬ e2f.toInt = i2.toInt))) (by omega)).trans (zNF_n (by omega))).symm), hfw, hf3, (Or.inl ⟨rfl, by omega⟩), hFI⟩)
    · have h_18 : i2.toInt = 0 := h_18
      have h_19 : 0 < (fk 2).toInt := h_19
      refine lv_astore (lv' := [(4, .ref g0), (3, .ref l0), (0, .ref xo), (1, .int i1), (2, .int i2)]) hx hb dX11_fit_17 hl (by decide) rfl (fun ls hl => ?_)
      refine lv_aload_n hx hb dX11_fit_19 rfl (lv_at hl 1 rfl) ?_
      refine lv_ifnull hx hb dX11_fit_20 ?_
      refine lv_aload hx hb dX11_fit_23 (lv_at hl 0 rfl) ?_
      refine lv_ifnonnull (tgt := 30) hx hb dX11_fit_25 (by decide) ?_
      refine lv_aload_n hx hb dX11_fit_30 rfl (lv_at hl 2 rfl) ?_
      refine z_get C G clX11 0 rfl 9 (by decide) m_fl_RX11_65 rfl dX11_fit_31 ?_
      refine zEx2 hwff ?_
      intro a1_22 a2_23 hbs9
      clear hwff
      subst hbs9
      have G : zS T A s.heap s [[zO10 xo t im mk rd po co tr wa wb_ fi cd], z0_, z1_, wg0_, wg1_, wwA, wwB, [zO3 fi e0f e1f e2f e3f e4f e5f a1_22 a2_23], [zAr T 0 a1_22 m1f r1f], [zAr T 0 a2_23 7 r2f], wt] _ _ := G.re rfl
      refine z_get C G clX3 7 rfl 0 (by decide) m_fl_RX11_109 rfl dX11_fit_34 ?_
      refine lv_if_eq (tgt := 62) hx hb dX11_fit_37 (by decide) (fun c_24 => ?_) (fun c_24 => ?_)
      · have c_24n : e0f.toInt = (0 : Int) := (fa_eq _ _).mp c_24
        refine lv_aload_n hx hb dX11_fit_62 rfl (lv_at hl 2 rfl) ?_
        refine z_get C G clX11 0 rfl 9 (by decide) m_fl_RX11_65 rfl dX11_fit_63 ?_
        refine lv_aload_n hx hb dX11_fit_66 rfl (lv_at hl 2 rfl) ?_
        refine lv_iload_n hx hb dX11_fit_67 rfl (lv_at hl 3 rfl) ?_
        refine lv_aload_n hx hb dX11_fit_68 rfl (lv_at hl 1 rfl) ?_
        have hcF : (i1.toInt = 0 ∧ 0 < (fk 0).toInt ∧ (0 ≤ i2.toInt ∧ i2.toInt < (fk 2).toInt ∧ i2.toInt < 2) ∧ (e0f.toInt = 0 ∨ ¬ e1f.toInt = i1.toInt ∨ ¬ e2f.toInt = i2.toInt)) := by omega
        have hcN : ¬ (i1.toInt = 1 ∧ 1 < (fk 0).toInt ∧ (0 ≤ i2.toInt ∧ i2.toInt < (fk 2).toInt ∧ i2.toInt < 2) ∧ (e0f.toInt = 0 ∨ ¬ e1f.toInt = i1.toInt ∨ ¬ e2f.toInt = i2.toInt)) := by omega
        have hNAm : zNA (i1.toInt = 0 ∧ 0 < (fk 0).toInt ∧ (0 ≤ i2.toInt ∧ i2.toInt < (fk 2).toInt ∧ i2.toInt < 2) ∧ (e0f.toInt = 0 ∨ ¬ e1f.toInt = i1.toInt ∨ ¬ e2f.toInt = i2.toInt)) mdA n4A (zPl cr0_ inn0_ k10_) = zMk mdA n4A (zPl cr0_ inn0_ k10_) := zNA_y hcF
        have hNAo : zNA (i1.toInt = 1 ∧ 1 < (fk 0).toInt ∧ (0 ≤ i2.toInt ∧ i2.toInt < (fk 2).toInt ∧ i2.toInt < 2) ∧ (e0f.toInt = 0 ∨ ¬ e1f.toInt = i1.toInt ∨ ¬ e2f.toInt = i2.toInt)) mdB n4B (zPl cr1_ inn1_ k11_) = n4B := zNA_n hcN
        have hn9 : zMk mdA n4A (zPl cr0_ inn0_ k10_) ≤ 131072 := zPw_le (zMk_pw hpwA)
        refine z_Vq (bc := [[zO10 xo t im mk rd po co tr wa wb_ fi cd], wwA, z0_]) (br := [z1_, wg0_, wg1_, wwB, [zO3 fi e0f e1f e2f e3f e4f e5f a1_22 a2_23], [zAr T 0 a1_22 m1f r1f], [zAr T 0 a2_23 7 r2f], wt]) (As := [.int i1, .ref l0]) (rest := [.ref fi]) C G (c_waysInA l T xo t im mk rd po co tr wa wb_ fi cd i1 laA mdA wyA pc_A f1A f2A f3A f4A f5A f6A n4A wwA l0 cr0_ inn0_ k10_ k20_ k30_ k40_ z0_ hwwA hz0_ hI0_ hpwA hmdA hwmA (by omega)) (kV_RX11_235 C.2.2.2.2 (Nat.le_of_ble_eq_true rfl) (Nat.le_of_ble_eq_true rfl)) [0, 5, 1] [0, 0, 3] rfl rfl (ci := 10) (qc := (RX11, TX11, 11)) rfl rfl (List.mem_flatten.mpr ⟨_, List.mem_of_getElem? (i := 0) rfl, List.mem_cons_self⟩) rfl rfl hl.1 dX11_fit_69 (by show _ + 3 ≤ 4; omega) (by show _ + (6 * (zMk mdA n4A (zPl cr0_ inn0_ k10_) - n4A)) ≤ 6 * (zNA (i1.toInt = 0 ∧ 0 < (fk 0).toInt ∧ (0 ≤ i2.toInt ∧ i2.toInt < (fk 2).toInt ∧ i2.toInt < 2) ∧ (e0f.toInt = 0 ∨ ¬ e1f.toInt = i1.toInt ∨ ¬ e2f.toInt = i2.toInt)) mdA n4A (zPl cr0_ inn0_ k10_) - n4A) + 6 * (zNA (i1.toInt = 1 ∧ 1 < (fk 0).toInt ∧ (0 ≤ i2.toInt ∧ i2.toInt < (fk 2).toInt ∧ i2.toInt < 2) ∧ (e0f.toInt = 0 ∨ ¬ e1f.toInt = i1.toInt ∨ ¬ e2f.toInt = i2.toInt)) mdB n4B (zPl cr1_ inn1_ k11_) - n4B) + 2 * (zNF (i1.toInt = 1 ∧ 1 < (fk 0).toInt ∧ (0 ≤ i2.toInt ∧ i2.toInt < (fk 2).toInt ∧ i2.toInt < 2) ∧ (e0f.toInt = 0 ∨ ¬ e1f.toInt = i1.toInt ∨ ¬ e2f.toInt = i2.toInt)) (zNF (i1.toInt = 0 ∧ 0 < (fk 0).toInt ∧ (0 ≤ i2.toInt ∧ i2.toInt < (fk 2).toInt ∧ i2.toInt < 2) ∧ (e0f.toInt = 0 ∨ ¬ e1f.toInt = i1.toInt ∨ ¬ e2f.toInt = i2.toInt)) m1f (zMw mdA wyA cr0_ inn0_ k10_)) (zMw mdB wyB cr1_ inn1_ k11_) - m1f); omega) (fun r_39 b1 H locs hw G => ?_)
        refine zEx9 hw ?_
        intro w2_25 m2_26 wy2_27 pc2_28 g1_29 g2_30 g4_31 g5_32 g6_33
        refine zCu6 ?_
        intro hbs9 h_34 h_35 h_36 h_37 h_38
        clear hw
        subst hbs9
        have G : zS T A s.heap s [z1_, wg0_, wg1_, wwB, [zO3 fi e0f e1f e2f e3f e4f e5f a1_22 a2_23], [zAr T 0 a1_22 m1f r1f], [zAr T 0 a2_23 7 r2f], wt, [zO10 xo t im mk rd po co tr wa wb_ fi cd], w2_25, z0_] _ _ := G
        subst h_34
        have hwy9 := h_36
        have hNF : zNF (i1.toInt = 1 ∧ 1 < (fk 0).toInt ∧ (0 ≤ i2.toInt ∧ i2.toInt < (fk 2).toInt ∧ i2.toInt < 2) ∧ (e0f.toInt = 0 ∨ ¬ e1f.toInt = i1.toInt ∨ ¬ e2f.toInt = i2.toInt)) (zNF (i1.toInt = 0 ∧ 0 < (fk 0).toInt ∧ (0 ≤ i2.toInt ∧ i2.toInt < (fk 2).toInt ∧ i2.toInt < 2) ∧ (e0f.toInt = 0 ∨ ¬ e1f.toInt = i1.toInt ∨ ¬ e2f.toInt = i2.toInt)) m1f (zMw mdA wyA cr0_ inn0_ k10_)) (zMw mdB wyB cr1_ inn1_ k11_) = zFl m1f wy2_27 := by rw [zNF_n (c := (i1.toInt = 1 ∧ 1 < (fk 0).toInt ∧ (0 ≤ i2.toInt ∧ i2.toInt < (fk 2).toInt ∧ i2.toInt < 2) ∧ (e0f.toInt = 0 ∨ ¬ e1f.toInt = i1.toInt ∨ ¬ e2f.toInt = i2.toInt))) hcN, zNF_y hcF, h_37]
        have hfw9 := zFl_pw (wy := wy2_27) hfw
        refine lv_aload hx hb dX11_fit_72 (lv_at hl 0 rfl) ?_
        have hw_40 : bFit T fi e0f e1f e2f e3f e4f e5f r1f m1f r2f [zO3 fi e0f e1f e2f e3f e4f e5f a1_22 a2_23, zAr T 0 a1_22 m1f r1f, zAr T 0 a2_23 7 r2f] := ⟨a1_22, a2_23, rfl⟩
        have G : zS T A s.heap s [z1_, wg0_, wg1_, wwB, [zO3 fi e0f e1f e2f e3f e4f e5f a1_22 a2_23, zAr T 0 a1_22 m1f r1f, zAr T 0 a2_23 7 r2f], wt, [zO10 xo t im mk rd po co tr wa wb_ fi cd], w2_25, z0_] _ _ := G.re rfl
        refine z_Vv (bc := [[zO3 fi e0f e1f e2f e3f e4f e5f a1_22 a2_23, zAr T 0 a1_22 m1f r1f, zAr T 0 a2_23 7 r2f], w2_25, z0_, wg0_]) (br := [z1_, wg1_, wwB, wt, [zO10 xo t im mk rd po co tr wa wb_ fi cd]]) (As := [.ref wa, .ref g0]) (rest := []) C G (c_find l T fi e0f e1f e2f e3f e4f e5f r1f m1f r2f ([zO3 fi e0f e1f e2f e3f e4f e5f a1_22 a2_23, zAr T 0 a1_22 m1f r1f, zAr T 0 a2_23 7 r2f]) wa l0 m2_26 wy2_27 pc2_28 g1_29 g2_30 f3A g4_31 g5_32 g6_33 (zMk mdA n4A (zPl cr0_ inn0_ k10_)) w2_25 cr0_ inn0_ k10_ k20_ k30_ k40_ z0_ g0 gg0_ q10_ q20_ wg0_ hw_40 h_35 hz0_ hg0_ hn9 hfw hwy9) (kV_RX11_298 C.2.2.2.2 (Nat.le_of_ble_eq_true rfl) (Nat.le_of_ble_eq_true rfl)) [4, 7, 8, 1] [1, 2, 2, 0] rfl rfl (ci := 3) (qc := (RX3, TX3, 8)) rfl rfl (List.mem_flatten.mpr ⟨_, List.mem_of_getElem? (i := 0) rfl, (bFit_mem hw_40).choose_spec⟩) rfl rfl hl.1 dX11_fit_74 (by show _ + 1 ≤ 4; omega) (by show _ + (2 * (zFl m1f wy2_27 - m1f)) ≤ 6 * (zNA (i1.toInt = 0 ∧ 0 < (fk 0).toInt ∧ (0 ≤ i2.toInt ∧ i2.toInt < (fk 2).toInt ∧ i2.toInt < 2) ∧ (e0f.toInt = 0 ∨ ¬ e1f.toInt = i1.toInt ∨ ¬ e2f.toInt = i2.toInt)) mdA n4A (zPl cr0_ inn0_ k10_) - n4A) + 6 * (zNA (i1.toInt = 1 ∧ 1 < (fk 0).toInt ∧ (0 ≤ i2.toInt ∧ i2.toInt < (fk 2).toInt ∧ i2.toInt < 2) ∧ (e0f.toInt = 0 ∨ ¬ e1f.toInt = i1.toInt ∨ ¬ e2f.toInt = i2.toInt)) mdB n4B (zPl cr1_ inn1_ k11_) - n4B) + 2 * (zNF (i1.toInt = 1 ∧ 1 < (fk 0).toInt ∧ (0 ≤ i2.toInt ∧ i2.toInt < (fk 2).toInt ∧ i2.toInt < 2) ∧ (e0f.toInt = 0 ∨ ¬ e1f.toInt = i1.toInt ∨ ¬ e2f.toInt = i2.toInt)) (zNF (i1.toInt = 0 ∧ 0 < (fk 0).toInt ∧ (0 ≤ i2.toInt ∧ i2.toInt < (fk 2).toInt ∧ i2.toInt < 2) ∧ (e0f.toInt = 0 ∨ ¬ e1f.toInt = i1.toInt ∨ ¬ e2f.toInt = i2.toInt)) m1f (zMw mdA wyA cr0_ inn0_ k10_)) (zMw mdB wyB cr1_ inn1_ k11_) - m1f); omega) (fun b1 H locs hw G => ?_)
        refine zEx5 hw ?_
        intro w2_41 s3_42 s4_43 s5_44 g1_45
        refine zCu3 ?_
        intro hbs9 h_46 h_47
        clear hw
        subst hbs9
        have G : zS T A s.heap s [z1_, wg1_, wwB, wt, [zO10 xo t im mk rd po co tr wa wb_ fi cd], w2_41, w2_25, z0_, wg0_] _ _ := G
        have h39 := h_47
        refine lv_aload_n hx hb dX11_fit_77 rfl (lv_at hl 2 rfl) ?_
        refine z_get C G clX11 4 rfl 9 (by decide) m_fl_RX11_65 rfl dX11_fit_78 ?_
        refine lv_iload_n hx hb dX11_fit_81 rfl (lv_at hl 3 rfl) ?_
        refine zEx2 h_46 ?_
        intro a1_49 a2_50 hbs9
        clear h_46
        subst hbs9
        have G : zS T A s.heap s [z1_, wg1_, wwB, wt, [zO10 xo t im mk rd po co tr wa wb_ fi cd], [zO3 fi e0f e1f e2f s3_42 s4_43 s5_44 a1_49 a2_50], [zAr T 0 a1_49 (zFl m1f wy2_27) g1_45], [zAr T 0 a2_50 7 r2f], w2_25, z0_, wg0_] _ _ := G.re rfl
        refine z_put C G clX3 5 rfl 1 (by decide) m_fl_RX11_292 rfl rfl rfl (Nat.le_of_ble_eq_true rfl) dX11_fit_82 (fun H locs G => ?_)
        have G : zS T A s.heap s [z1_, wg1_, wwB, wt, [zO10 xo t im mk rd po co tr wa wb_ fi cd], [zO3 fi e0f i1 e2f s3_42 s4_43 s5_44 a1_49 a2_50], [zAr T 0 a1_49 (zFl m1f wy2_27) g1_45], [zAr T 0 a2_50 7 r2f], w2_25, z0_, wg0_] _ _ := G
        refine lv_aload_n hx hb dX11_fit_85 rfl (lv_at hl 2 rfl) ?_
        refine z_get C G clX11 4 rfl 9 (by decide) m_fl_RX11_65 rfl dX11_fit_86 ?_
        refine lv_iload_n hx hb dX11_fit_89 rfl (lv_at hl 4 rfl) ?_
        refine z_put C G clX3 5 rfl 2 (by decide) m_fl_RX11_295 rfl rfl rfl (Nat.le_of_ble_eq_true rfl) dX11_fit_90 (fun H locs G => ?_)
        have G : zS T A s.heap s [z1_, wg1_, wwB, wt, [zO10 xo t im mk rd po co tr wa wb_ fi cd], [zO3 fi e0f i1 i2 s3_42 s4_43 s5_44 a1_49 a2_50], [zAr T 0 a1_49 (zFl m1f wy2_27) g1_45], [zAr T 0 a2_50 7 r2f], w2_25, z0_, wg0_] _ _ := G
        refine lv_aload_n hx hb dX11_fit_93 rfl (lv_at hl 2 rfl) ?_
        refine z_get C G clX11 4 rfl 9 (by decide) m_fl_RX11_65 rfl dX11_fit_94 ?_
        refine lv_iconst (v := 1) hx hb dX11_fit_97 (by decide) ?_
        refine z_put C G clX3 5 rfl 0 (by decide) m_fl_RX11_109 rfl rfl rfl (Nat.le_of_ble_eq_true rfl) dX11_fit_98 (fun H locs G => ?_)
        have G : zS T A s.heap s [z1_, wg1_, wwB, wt, [zO10 xo t im mk rd po co tr wa wb_ fi cd], [zO3 fi 1 i1 i2 s3_42 s4_43 s5_44 a1_49 a2_50], [zAr T 0 a1_49 (zFl m1f wy2_27) g1_45], [zAr T 0 a2_50 7 r2f], w2_25, z0_, wg0_] _ _ := G
        refine lv_iconst (v := 1) hx hb dX11_fit_101 (by decide) ?_
        have hw_51 : bFit T fi 1 i1 i2 s3_42 s4_43 s5_44 g1_45 (zFl m1f wy2_27) r2f [zO3 fi 1 i1 i2 s3_42 s4_43 s5_44 a1_49 a2_50, zAr T 0 a1_49 (zFl m1f wy2_27) g1_45, zAr T 0 a2_50 7 r2f] := ⟨a1_49, a2_50, rfl⟩
        have G : zS T A s.heap s [z1_, wg1_, wwB, wt, [zO10 xo t im mk rd po co tr wa wb_ fi cd], [zO3 fi 1 i1 i2 s3_42 s4_43 s5_44 a1_49 a2_50, zAr T 0 a1_49 (zFl m1f wy2_27) g1_45, zAr T 0 a2_50 7 r2f], w2_25, z0_, wg0_] _ _ := G.re rfl
        have G := G.sub (bs' := [[zO10 xo t im mk rd po co tr wa wb_ fi cd], wt, z0_, z1_, wg0_, wg1_, w2_25, wwB, [zO3 fi 1 i1 i2 s3_42 s4_43 s5_44 a1_49 a2_50, zAr T 0 a1_49 (zFl m1f wy2_27) g1_45, zAr T 0 a2_50 7 r2f]]) [4, 3, 7, 0, 8, 1, 6, 2, 5] rfl
        exact z_back hQ9 (z_zret C hr hlocks G (by omega) (by omega) dX11_fit_102 rfl ⟨l0, m2_26, wy2_27, pc2_28, g1_29, g2_30, f3A, g4_31, g5_32, g6_33, (zMk mdA n4A (zPl cr0_ inn0_ k10_)), w2_25, laB, mdB, wyB, pc_B, f1B, f2B, f3B, f4B, f5B, f6B, n4B, wwB, 1, i1, i2, s3_42, s4_43, s5_44, g1_45, (zFl m1f wy2_27), r2f, ([zO3 fi 1 i1 i2 s3_42 s4_43 s5_44 a1_49 a2_50, zAr T 0 a1_49 (zFl m1f wy2_27) g1_45, zAr T 0 a2_50 7 r2f]), rfl, h_35, (Or.inr rfl), hwy9, hNAm.symm, (zMk_pw hpwA), (fun _ => h_38), hwwB, hmdB, hwmB, (zNA_n (by omega)).symm, hpwB, (fun q => q), hw_51, hNF.symm, hfw9, h39, (Or.inr ⟨rfl, by omega, by decide, rfl⟩), (fun _ => Or.inl ⟨by omega, h_38⟩)⟩)
      · have c_24n : ¬ e0f.toInt = (0 : Int) := fun q => c_24 ((fa_eq _ _).mpr q)
        refine lv_aload_n hx hb dX11_fit_40 rfl (lv_at hl 2 rfl) ?_
        refine z_get C G clX11 0 rfl 9 (by decide) m_fl_RX11_65 rfl dX11_fit_41 ?_
        refine z_get C G clX3 7 rfl 1 (by decide) m_fl_RX11_292 rfl dX11_fit_44 ?_
        refine lv_iload_n hx hb dX11_fit_47 rfl (lv_at hl 3 rfl) ?_
        refine lv_icmp_ne (tgt := 62) hx hb dX11_fit_48 (by decide) (fun c_52 => ?_) (fun c_52 => ?_)
        · have c_52n : ¬ e1f.toInt = i1.toInt := fun q => c_52 ((fa_eq _ _).mpr q)
          refine lv_aload_n hx hb dX11_fit_62 rfl (lv_at hl 2 rfl) ?_
          refine z_get C G clX11 0 rfl 9 (by decide) m_fl_RX11_65 rfl dX11_fit_63 ?_
          refine lv_aload_n hx hb dX11_fit_66 rfl (lv_at hl 2 rfl) ?_
          refine lv_iload_n hx hb dX11_fit_67 rfl (lv_at hl 3 rfl) ?_
          refine lv_aload_n hx hb dX11_fit_68 rfl (lv_at hl 1 rfl) ?_
          have hcF : (i1.toInt = 0 ∧ 0 < (fk 0).toInt ∧ (0 ≤ i2.toInt ∧ i2.toInt < (fk 2).toInt ∧ i2.toInt < 2) ∧ (e0f.toInt = 0 ∨ ¬ e1f.toInt = i1.toInt ∨ ¬ e2f.toInt = i2.toInt)) := by omega
          have hcN : ¬ (i1.toInt = 1 ∧ 1 < (fk 0).toInt ∧ (0 ≤ i2.toInt ∧ i2.toInt < (fk 2).toInt ∧ i2.toInt < 2) ∧ (e0f.toInt = 0 ∨ ¬ e1f.toInt = i1.toInt ∨ ¬ e2f.toInt = i2.toInt)) := by omega
          have hNAm : zNA (i1.toInt = 0 ∧ 0 < (fk 0).toInt ∧ (0 ≤ i2.toInt ∧ i2.toInt < (fk 2).toInt ∧ i2.toInt < 2) ∧ (e0f.toInt = 0 ∨ ¬ e1f.toInt = i1.toInt ∨ ¬ e2f.toInt = i2.toInt)) mdA n4A (zPl cr0_ inn0_ k10_) = zMk mdA n4A (zPl cr0_ inn0_ k10_) := zNA_y hcF
          have hNAo : zNA (i1.toInt = 1 ∧ 1 < (fk 0).toInt ∧ (0 ≤ i2.toInt ∧ i2.toInt < (fk 2).toInt ∧ i2.toInt < 2) ∧ (e0f.toInt = 0 ∨ ¬ e1f.toInt = i1.toInt ∨ ¬ e2f.toInt = i2.toInt)) mdB n4B (zPl cr1_ inn1_ k11_) = n4B := zNA_n hcN
          have hn9 : zMk mdA n4A (zPl cr0_ inn0_ k10_) ≤ 131072 := zPw_le (zMk_pw hpwA)
          refine z_Vq (bc := [[zO10 xo t im mk rd po co tr wa wb_ fi cd], wwA, z0_]) (br := [z1_, wg0_, wg1_, wwB, [zO3 fi e0f e1f e2f e3f e4f e5f a1_22 a2_23], [zAr T 0 a1_22 m1f r1f], [zAr T 0 a2_23 7 r2f], wt]) (As := [.int i1, .ref l0]) (rest := [.ref fi]) C G (c_waysInA l T xo t im mk rd po co tr wa wb_ fi cd i1 laA mdA wyA pc_A f1A f2A f3A f4A f5A f6A n4A wwA l0 cr0_ inn0_ k10_ k20_ k30_ k40_ z0_ hwwA hz0_ hI0_ hpwA hmdA hwmA (by omega)) (kV_RX11_235 C.2.2.2.2 (Nat.le_of_ble_eq_true rfl) (Nat.le_of_ble_eq_true rfl)) [0, 5, 1] [0, 0, 3] rfl rfl (ci := 10) (qc := (RX11, TX11, 11)) rfl rfl (List.mem_flatten.mpr ⟨_, List.mem_of_getElem? (i := 0) rfl, List.mem_cons_self⟩) rfl rfl hl.1 dX11_fit_69 (by show _ + 3 ≤ 4; omega) (by show _ + (6 * (zMk mdA n4A (zPl cr0_ inn0_ k10_) - n4A)) ≤ 6 * (zNA (i1.toInt = 0 ∧ 0 < (fk 0).toInt ∧ (0 ≤ i2.toInt ∧ i2.toInt < (fk 2).toInt ∧ i2.toInt < 2) ∧ (e0f.toInt = 0 ∨ ¬ e1f.toInt = i1.toInt ∨ ¬ e2f.toInt = i2.toInt)) mdA n4A (zPl cr0_ inn0_ k10_) - n4A) + 6 * (zNA (i1.toInt = 1 ∧ 1 < (fk 0).toInt ∧ (0 ≤ i2.toInt ∧ i2.toInt < (fk 2).toInt ∧ i2.toInt < 2) ∧ (e0f.toInt = 0 ∨ ¬ e1f.toInt = i1.toInt ∨ ¬ e2f.toInt = i2.toInt)) mdB n4B (zPl cr1_ inn1_ k11_) - n4B) + 2 * (zNF (i1.toInt = 1 ∧ 1 < (fk 0).toInt ∧ (0 ≤ i2.toInt ∧ i2.toInt < (fk 2).toInt ∧ i2.toInt < 2) ∧ (e0f.toInt = 0 ∨ ¬ e1f.toInt = i1.toInt ∨ ¬ e2f.toInt = i2.toInt)) (zNF (i1.toInt = 0 ∧ 0 < (fk 0).toInt ∧ (0 ≤ i2.toInt ∧ i2.toInt < (fk 2).toInt ∧ i2.toInt < 2) ∧ (e0f.toInt = 0 ∨ ¬ e1f.toInt = i1.toInt ∨ ¬ e2f.toInt = i2.toInt)) m1f (zMw mdA wyA cr0_ inn0_ k10_)) (zMw mdB wyB cr1_ inn1_ k11_) - m1f); omega) (fun r_67 b1 H locs hw G => ?_)
          refine zEx9 hw ?_
          intro w2_53 m2_54 wy2_55 pc2_56 g1_57 g2_58 g4_59 g5_60 g6_61
          refine zCu6 ?_
          intro hbs9 h_62 h_63 h_64 h_65 h_66
          clear hw
          subst hbs9
          have G : zS T A s.heap s [z1_, wg0_, wg1_, wwB, [zO3 fi e0f e1f e2f e3f e4f e5f a1_22 a2_23], [zAr T 0 a1_22 m1f r1f], [zAr T 0 a2_23 7 r2f], wt, [zO10 xo t im mk rd po co tr wa wb_ fi cd], w2_53, z0_] _ _ := G
          subst h_62
          have hwy9 := h_64
          have hNF : zNF (i1.toInt = 1 ∧ 1 < (fk 0).toInt ∧ (0 ≤ i2.toInt ∧ i2.toInt < (fk 2).toInt ∧ i2.toInt < 2) ∧ (e0f.toInt = 0 ∨ ¬ e1f.toInt = i1.toInt ∨ ¬ e2f.toInt = i2.toInt)) (zNF (i1.toInt = 0 ∧ 0 < (fk 0).toInt ∧ (0 ≤ i2.toInt ∧ i2.toInt < (fk 2).toInt ∧ i2.toInt < 2) ∧ (e0f.toInt = 0 ∨ ¬ e1f.toInt = i1.toInt ∨ ¬ e2f.toInt = i2.toInt)) m1f (zMw mdA wyA cr0_ inn0_ k10_)) (zMw mdB wyB cr1_ inn1_ k11_) = zFl m1f wy2_55 := by rw [zNF_n (c := (i1.toInt = 1 ∧ 1 < (fk 0).toInt ∧ (0 ≤ i2.toInt ∧ i2.toInt < (fk 2).toInt ∧ i2.toInt < 2) ∧ (e0f.toInt = 0 ∨ ¬ e1f.toInt = i1.toInt ∨ ¬ e2f.toInt = i2.toInt))) hcN, zNF_y hcF, h_65]
          have hfw9 := zFl_pw (wy := wy2_55) hfw
          refine lv_aload hx hb dX11_fit_72 (lv_at hl 0 rfl) ?_
          have hw_68 : bFit T fi e0f e1f e2f e3f e4f e5f r1f m1f r2f [zO3 fi e0f e1f e2f e3f e4f e5f a1_22 a2_23, zAr T 0 a1_22 m1f r1f, zAr T 0 a2_23 7 r2f] := ⟨a1_22, a2_23, rfl⟩
          have G : zS T A s.heap s [z1_, wg0_, wg1_, wwB, [zO3 fi e0f e1f e2f e3f e4f e5f a1_22 a2_23, zAr T 0 a1_22 m1f r1f, zAr T 0 a2_23 7 r2f], wt, [zO10 xo t im mk rd po co tr wa wb_ fi cd], w2_53, z0_] _ _ := G.re rfl
          refine z_Vv (bc := [[zO3 fi e0f e1f e2f e3f e4f e5f a1_22 a2_23, zAr T 0 a1_22 m1f r1f, zAr T 0 a2_23 7 r2f], w2_53, z0_, wg0_]) (br := [z1_, wg1_, wwB, wt, [zO10 xo t im mk rd po co tr wa wb_ fi cd]]) (As := [.ref wa, .ref g0]) (rest := []) C G (c_find l T fi e0f e1f e2f e3f e4f e5f r1f m1f r2f ([zO3 fi e0f e1f e2f e3f e4f e5f a1_22 a2_23, zAr T 0 a1_22 m1f r1f, zAr T 0 a2_23 7 r2f]) wa l0 m2_54 wy2_55 pc2_56 g1_57 g2_58 f3A g4_59 g5_60 g6_61 (zMk mdA n4A (zPl cr0_ inn0_ k10_)) w2_53 cr0_ inn0_ k10_ k20_ k30_ k40_ z0_ g0 gg0_ q10_ q20_ wg0_ hw_68 h_63 hz0_ hg0_ hn9 hfw hwy9) (kV_RX11_298 C.2.2.2.2 (Nat.le_of_ble_eq_true rfl) (Nat.le_of_ble_eq_true rfl)) [4, 7, 8, 1] [1, 2, 2, 0] rfl rfl (ci := 3) (qc := (RX3, TX3, 8)) rfl rfl (List.mem_flatten.mpr ⟨_, List.mem_of_getElem? (i := 0) rfl, (bFit_mem hw_68).choose_spec⟩) rfl rfl hl.1 dX11_fit_74 (by show _ + 1 ≤ 4; omega) (by show _ + (2 * (zFl m1f wy2_55 - m1f)) ≤ 6 * (zNA (i1.toInt = 0 ∧ 0 < (fk 0).toInt ∧ (0 ≤ i2.toInt ∧ i2.toInt < (fk 2).toInt ∧ i2.toInt < 2) ∧ (e0f.toInt = 0 ∨ ¬ e1f.toInt = i1.toInt ∨ ¬ e2f.toInt = i2.toInt)) mdA n4A (zPl cr0_ inn0_ k10_) - n4A) + 6 * (zNA (i1.toInt = 1 ∧ 1 < (fk 0).toInt ∧ (0 ≤ i2.toInt ∧ i2.toInt < (fk 2).toInt ∧ i2.toInt < 2) ∧ (e0f.toInt = 0 ∨ ¬ e1f.toInt = i1.toInt ∨ ¬ e2f.toInt = i2.toInt)) mdB n4B (zPl cr1_ inn1_ k11_) - n4B) + 2 * (zNF (i1.toInt = 1 ∧ 1 < (fk 0).toInt ∧ (0 ≤ i2.toInt ∧ i2.toInt < (fk 2).toInt ∧ i2.toInt < 2) ∧ (e0f.toInt = 0 ∨ ¬ e1f.toInt = i1.toInt ∨ ¬ e2f.toInt = i2.toInt)) (zNF (i1.toInt = 0 ∧ 0 < (fk 0).toInt ∧ (0 ≤ i2.toInt ∧ i2.toInt < (fk 2).toInt ∧ i2.toInt < 2) ∧ (e0f.toInt = 0 ∨ ¬ e1f.toInt = i1.toInt ∨ ¬ e2f.toInt = i2.toInt)) m1f (zMw mdA wyA cr0_ inn0_ k10_)) (zMw mdB wyB cr1_ inn1_ k11_) - m1f); omega) (fun b1 H locs hw G => ?_)
          refine zEx5 hw ?_
          intro w2_69 s3_70 s4_71 s5_72 g1_73
          refine zCu3 ?_
          intro hbs9 h_74 h_75
          clear hw
          subst hbs9
          have G : zS T A s.heap s [z1_, wg1_, wwB, wt, [zO10 xo t im mk rd po co tr wa wb_ fi cd], w2_69, w2_53, z0_, wg0_] _ _ := G
          have h39 := h_75
          refine lv_aload_n hx hb dX11_fit_77 rfl (lv_at hl 2 rfl) ?_
          refine z_get C G clX11 4 rfl 9 (by decide) m_fl_RX11_65 rfl dX11_fit_78 ?_
          refine lv_iload_n hx hb dX11_fit_81 rfl (lv_at hl 3 rfl) ?_
          refine zEx2 h_74 ?_
          intro a1_77 a2_78 hbs9
          clear h_74
          subst hbs9
          have G : zS T A s.heap s [z1_, wg1_, wwB, wt, [zO10 xo t im mk rd po co tr wa wb_ fi cd], [zO3 fi e0f e1f e2f s3_70 s4_71 s5_72 a1_77 a2_78], [zAr T 0 a1_77 (zFl m1f wy2_55) g1_73], [zAr T 0 a2_78 7 r2f], w2_53, z0_, wg0_] _ _ := G.re rfl
          refine z_put C G clX3 5 rfl 1 (by decide) m_fl_RX11_292 rfl rfl rfl (Nat.le_of_ble_eq_true rfl) dX11_fit_82 (fun H locs G => ?_)
          have G : zS T A s.heap s [z1_, wg1_, wwB, wt, [zO10 xo t im mk rd po co tr wa wb_ fi cd], [zO3 fi e0f i1 e2f s3_70 s4_71 s5_72 a1_77 a2_78], [zAr T 0 a1_77 (zFl m1f wy2_55) g1_73], [zAr T 0 a2_78 7 r2f], w2_53, z0_, wg0_] _ _ := G
          refine lv_aload_n hx hb dX11_fit_85 rfl (lv_at hl 2 rfl) ?_
          refine z_get C G clX11 4 rfl 9 (by decide) m_fl_RX11_65 rfl dX11_fit_86 ?_
          refine lv_iload_n hx hb dX11_fit_89 rfl (lv_at hl 4 rfl) ?_
          refine z_put C G clX3 5 rfl 2 (by decide) m_fl_RX11_295 rfl rfl rfl (Nat.le_of_ble_eq_true rfl) dX11_fit_90 (fun H locs G => ?_)
          have G : zS T A s.heap s [z1_, wg1_, wwB, wt, [zO10 xo t im mk rd po co tr wa wb_ fi cd], [zO3 fi e0f i1 i2 s3_70 s4_71 s5_72 a1_77 a2_78], [zAr T 0 a1_77 (zFl m1f wy2_55) g1_73], [zAr T 0 a2_78 7 r2f], w2_53, z0_, wg0_] _ _ := G
          refine lv_aload_n hx hb dX11_fit_93 rfl (lv_at hl 2 rfl) ?_
          refine z_get C G clX11 4 rfl 9 (by decide) m_fl_RX11_65 rfl dX11_fit_94 ?_
          refine lv_iconst (v := 1) hx hb dX11_fit_97 (by decide) ?_
          refine z_put C G clX3 5 rfl 0 (by decide) m_fl_RX11_109 rfl rfl rfl (Nat.le_of_ble_eq_true rfl) dX11_fit_98 (fun H locs G => ?_)
          have G : zS T A s.heap s [z1_, wg1_, wwB, wt, [zO10 xo t im mk rd po co tr wa wb_ fi cd], [zO3 fi 1 i1 i2 s3_70 s4_71 s5_72 a1_77 a2_78], [zAr T 0 a1_77 (zFl m1f wy2_55) g1_73], [zAr T 0 a2_78 7 r2f], w2_53, z0_, wg0_] _ _ := G
          refine lv_iconst (v := 1) hx hb dX11_fit_101 (by decide) ?_
          have hw_79 : bFit T fi 1 i1 i2 s3_70 s4_71 s5_72 g1_73 (zFl m1f wy2_55) r2f [zO3 fi 1 i1 i2 s3_70 s4_71 s5_72 a1_77 a2_78, zAr T 0 a1_77 (zFl m1f wy2_55) g1_73, zAr T 0 a2_78 7 r2f] := ⟨a1_77, a2_78, rfl⟩
          have G : zS T A s.heap s [z1_, wg1_, wwB, wt, [zO10 xo t im mk rd po co tr wa wb_ fi cd], [zO3 fi 1 i1 i2 s3_70 s4_71 s5_72 a1_77 a2_78, zAr T 0 a1_77 (zFl m1f wy2_55) g1_73, zAr T 0 a2_78 7 r2f], w2_53, z0_, wg0_] _ _ := G.re rfl
          have G := G.sub (bs' := [[zO10 xo t im mk rd po co tr wa wb_ fi cd], wt, z0_, z1_, wg0_, wg1_, w2_53, wwB, [zO3 fi 1 i1 i2 s3_70 s4_71 s5_72 a1_77 a2_78, zAr T 0 a1_77 (zFl m1f wy2_55) g1_73, zAr T 0 a2_78 7 r2f]]) [4, 3, 7, 0, 8, 1, 6, 2, 5] rfl
          exact z_back hQ9 (z_zret C hr hlocks G (by omega) (by omega) dX11_fit_102 rfl ⟨l0, m2_54, wy2_55, pc2_56, g1_57, g2_58, f3A, g4_59, g5_60, g6_61, (zMk mdA n4A (zPl cr0_ inn0_ k10_)), w2_53, laB, mdB, wyB, pc_B, f1B, f2B, f3B, f4B, f5B, f6B, n4B, wwB, 1, i1, i2, s3_70, s4_71, s5_72, g1_73, (zFl m1f wy2_55), r2f, ([zO3 fi 1 i1 i2 s3_70 s4_71 s5_72 a1_77 a2_78, zAr T 0 a1_77 (zFl m1f wy2_55) g1_73, zAr T 0 a2_78 7 r2f]), rfl, h_63, (Or.inr rfl), hwy9, hNAm.symm, (zMk_pw hpwA), (fun _ => h_66), hwwB, hmdB, hwmB, (zNA_n (by omega)).symm, hpwB, (fun q => q), hw_79, hNF.symm, hfw9, h39, (Or.inr ⟨rfl, by omega, by decide, rfl⟩), (fun _ => Or.inl ⟨by omega, h_66⟩)⟩)
        · have c_52n : e1f.toInt = i1.toInt := (fa_eq _ _).mp c_52
          refine lv_aload_n hx hb dX11_fit_51 rfl (lv_at hl 2 rfl) ?_
          refine z_get C G clX11 0 rfl 9 (by decide) m_fl_RX11_65 rfl dX11_fit_52 ?_
          refine z_get C G clX3 7 rfl 2 (by decide) m_fl_RX11_295 rfl dX11_fit_55 ?_
          refine lv_iload_n hx hb dX11_fit_58 rfl (lv_at hl 4 rfl) ?_
          refine lv_icmp_eq (tgt := 101) hx hb dX11_fit_59 (by decide) (fun c_80 => ?_) (fun c_80 => ?_)
          · have c_80n : e2f.toInt = i2.toInt := (fa_eq _ _).mp c_80
            refine lv_iconst (v := 1) hx hb dX11_fit_101 (by decide) ?_
            have hw_81 : bFit T fi e0f e1f e2f e3f e4f e5f r1f m1f r2f [zO3 fi e0f e1f e2f e3f e4f e5f a1_22 a2_23, zAr T 0 a1_22 m1f r1f, zAr T 0 a2_23 7 r2f] := ⟨a1_22, a2_23, rfl⟩
            have G : zS T A s.heap s [[zO10 xo t im mk rd po co tr wa wb_ fi cd], z0_, z1_, wg0_, wg1_, wwA, wwB, [zO3 fi e0f e1f e2f e3f e4f e5f a1_22 a2_23, zAr T 0 a1_22 m1f r1f, zAr T 0 a2_23 7 r2f], wt] _ _ := G.re rfl
            have G := G.sub (bs' := [[zO10 xo t im mk rd po co tr wa wb_ fi cd], wt, z0_, z1_, wg0_, wg1_, wwA, wwB, [zO3 fi e0f e1f e2f e3f e4f e5f a1_22 a2_23, zAr T 0 a1_22 m1f r1f, zAr T 0 a2_23 7 r2f]]) [0, 8, 1, 2, 3, 4, 5, 6, 7] rfl
            exact z_back hQ9 (z_zret C hr hlocks G (by omega) (by omega) dX11_fit_102 rfl ⟨laA, mdA, wyA, pc_A, f1A, f2A, f3A, f4A, f5A, f6A, n4A, wwA, laB, mdB, wyB, pc_B, f1B, f2B, f3B, f4B, f5B, f6B, n4B, wwB, e0f, e1f, e2f, e3f, e4f, e5f, r1f, m1f, r2f, ([zO3 fi e0f e1f e2f e3f e4f e5f a1_22 a2_23, zAr T 0 a1_22 m1f r1f, zAr T 0 a2_23 7 r2f]), rfl, hwwA, hmdA, hwmA, (zNA_n (by omega)).symm, hpwA, (fun q => q), hwwB, hmdB, hwmB, (zNA_n (by omega)).symm, hpwB, (fun q => q), hw_81, (((zNF_n (c := (i1.toInt = 1 ∧ 1 < (fk 0).toInt ∧ (0 ≤ i2.toInt ∧ i2.toInt < (fk 2).toInt ∧ i2.toInt < 2) ∧ (e0f.toInt = 0 ∨ ¬ e1f.toInt = i1.toInt ∨ ¬ e2f.toInt = i2.toInt))) (by omega)).trans (zNF_n (by omega))).symm), hfw, hf3, (Or.inr ⟨rfl, by omega, (fun q => absurd (congrArg Int32.toInt q) (by show ¬ _ = (0 : Int); omega)), by omega⟩), hFI⟩)
          · have c_80n : ¬ e2f.toInt = i2.toInt := fun q => c_80 ((fa_eq _ _).mpr q)
            refine lv_aload_n hx hb dX11_fit_62 rfl (lv_at hl 2 rfl) ?_
            refine z_get C G clX11 0 rfl 9 (by decide) m_fl_RX11_65 rfl dX11_fit_63 ?_
            refine lv_aload_n hx hb dX11_fit_66 rfl (lv_at hl 2 rfl) ?_
            refine lv_iload_n hx hb dX11_fit_67 rfl (lv_at hl 3 rfl) ?_
            refine lv_aload_n hx hb dX11_fit_68 rfl (lv_at hl 1 rfl) ?_
            have hcF : (i1.toInt = 0 ∧ 0 < (fk 0).toInt ∧ (0 ≤ i2.toInt ∧ i2.toInt < (fk 2).toInt ∧ i2.toInt < 2) ∧ (e0f.toInt = 0 ∨ ¬ e1f.toInt = i1.toInt ∨ ¬ e2f.toInt = i2.toInt)) := by omega
            have hcN : ¬ (i1.toInt = 1 ∧ 1 < (fk 0).toInt ∧ (0 ≤ i2.toInt ∧ i2.toInt < (fk 2).toInt ∧ i2.toInt < 2) ∧ (e0f.toInt = 0 ∨ ¬ e1f.toInt = i1.toInt ∨ ¬ e2f.toInt = i2.toInt)) := by omega
            have hNAm : zNA (i1.toInt = 0 ∧ 0 < (fk 0).toInt ∧ (0 ≤ i2.toInt ∧ i2.toInt < (fk 2).toInt ∧ i2.toInt < 2) ∧ (e0f.toInt = 0 ∨ ¬ e1f.toInt = i1.toInt ∨ ¬ e2f.toInt = i2.toInt)) mdA n4A (zPl cr0_ inn0_ k10_) = zMk mdA n4A (zPl cr0_ inn0_ k10_) := zNA_y hcF
            have hNAo : zNA (i1.toInt = 1 ∧ 1 < (fk 0).toInt ∧ (0 ≤ i2.toInt ∧ i2.toInt < (fk 2).toInt ∧ i2.toInt < 2) ∧ (e0f.toInt = 0 ∨ ¬ e1f.toInt = i1.toInt ∨ ¬ e2f.toInt = i2.toInt)) mdB n4B (zPl cr1_ inn1_ k11_) = n4B := zNA_n hcN
            have hn9 : zMk mdA n4A (zPl cr0_ inn0_ k10_) ≤ 131072 := zPw_le (zMk_pw hpwA)
            refine z_Vq (bc := [[zO10 xo t im mk rd po co tr wa wb_ fi cd], wwA, z0_]) (br := [z1_, wg0_, wg1_, wwB, [zO3 fi e0f e1f e2f e3f e4f e5f a1_22 a2_23], [zAr T 0 a1_22 m1f r1f], [zAr T 0 a2_23 7 r2f], wt]) (As := [.int i1, .ref l0]) (rest := [.ref fi]) C G (c_waysInA l T xo t im mk rd po co tr wa wb_ fi cd i1 laA mdA wyA pc_A f1A f2A f3A f4A f5A f6A n4A wwA l0 cr0_ inn0_ k10_ k20_ k30_ k40_ z0_ hwwA hz0_ hI0_ hpwA hmdA hwmA (by omega)) (kV_RX11_235 C.2.2.2.2 (Nat.le_of_ble_eq_true rfl) (Nat.le_of_ble_eq_true rfl)) [0, 5, 1] [0, 0, 3] rfl rfl (ci := 10) (qc := (RX11, TX11, 11)) rfl rfl (List.mem_flatten.mpr ⟨_, List.mem_of_getElem? (i := 0) rfl, List.mem_cons_self⟩) rfl rfl hl.1 dX11_fit_69 (by show _ + 3 ≤ 4; omega) (by show _ + (6 * (zMk mdA n4A (zPl cr0_ inn0_ k10_) - n4A)) ≤ 6 * (zNA (i1.toInt = 0 ∧ 0 < (fk 0).toInt ∧ (0 ≤ i2.toInt ∧ i2.toInt < (fk 2).toInt ∧ i2.toInt < 2) ∧ (e0f.toInt = 0 ∨ ¬ e1f.toInt = i1.toInt ∨ ¬ e2f.toInt = i2.toInt)) mdA n4A (zPl cr0_ inn0_ k10_) - n4A) + 6 * (zNA (i1.toInt = 1 ∧ 1 < (fk 0).toInt ∧ (0 ≤ i2.toInt ∧ i2.toInt < (fk 2).toInt ∧ i2.toInt < 2) ∧ (e0f.toInt = 0 ∨ ¬ e1f.toInt = i1.toInt ∨ ¬ e2f.toInt = i2.toInt)) mdB n4B (zPl cr1_ inn1_ k11_) - n4B) + 2 * (zNF (i1.toInt = 1 ∧ 1 < (fk 0).toInt ∧ (0 ≤ i2.toInt ∧ i2.toInt < (fk 2).toInt ∧ i2.toInt < 2) ∧ (e0f.toInt = 0 ∨ ¬ e1f.toInt = i1.toInt ∨ ¬ e2f.toInt = i2.toInt)) (zNF (i1.toInt = 0 ∧ 0 < (fk 0).toInt ∧ (0 ≤ i2.toInt ∧ i2.toInt < (fk 2).toInt ∧ i2.toInt < 2) ∧ (e0f.toInt = 0 ∨ ¬ e1f.toInt = i1.toInt ∨ ¬ e2f.toInt = i2.toInt)) m1f (zMw mdA wyA cr0_ inn0_ k10_)) (zMw mdB wyB cr1_ inn1_ k11_) - m1f); omega) (fun r_96 b1 H locs hw G => ?_)
            refine zEx9 hw ?_
            intro w2_82 m2_83 wy2_84 pc2_85 g1_86 g2_87 g4_88 g5_89 g6_90
            refine zCu6 ?_
            intro hbs9 h_91 h_92 h_93 h_94 h_95
            clear hw
            subst hbs9
            have G : zS T A s.heap s [z1_, wg0_, wg1_, wwB, [zO3 fi e0f e1f e2f e3f e4f e5f a1_22 a2_23], [zAr T 0 a1_22 m1f r1f], [zAr T 0 a2_23 7 r2f], wt, [zO10 xo t im mk rd po co tr wa wb_ fi cd], w2_82, z0_] _ _ := G
            subst h_91
            have hwy9 := h_93
            have hNF : zNF (i1.toInt = 1 ∧ 1 < (fk 0).toInt ∧ (0 ≤ i2.toInt ∧ i2.toInt < (fk 2).toInt ∧ i2.toInt < 2) ∧ (e0f.toInt = 0 ∨ ¬ e1f.toInt = i1.toInt ∨ ¬ e2f.toInt = i2.toInt)) (zNF (i1.toInt = 0 ∧ 0 < (fk 0).toInt ∧ (0 ≤ i2.toInt ∧ i2.toInt < (fk 2).toInt ∧ i2.toInt < 2) ∧ (e0f.toInt = 0 ∨ ¬ e1f.toInt = i1.toInt ∨ ¬ e2f.toInt = i2.toInt)) m1f (zMw mdA wyA cr0_ inn0_ k10_)) (zMw mdB wyB cr1_ inn1_ k11_) = zFl m1f wy2_84 := by rw [zNF_n (c := (i1.toInt = 1 ∧ 1 < (fk 0).toInt ∧ (0 ≤ i2.toInt ∧ i2.toInt < (fk 2).toInt ∧ i2.toInt < 2) ∧ (e0f.toInt = 0 ∨ ¬ e1f.toInt = i1.toInt ∨ ¬ e2f.toInt = i2.toInt))) hcN, zNF_y hcF, h_94]
            have hfw9 := zFl_pw (wy := wy2_84) hfw
            refine lv_aload hx hb dX11_fit_72 (lv_at hl 0 rfl) ?_
            have hw_97 : bFit T fi e0f e1f e2f e3f e4f e5f r1f m1f r2f [zO3 fi e0f e1f e2f e3f e4f e5f a1_22 a2_23, zAr T 0 a1_22 m1f r1f, zAr T 0 a2_23 7 r2f] := ⟨a1_22, a2_23, rfl⟩
            have G : zS T A s.heap s [z1_, wg0_, wg1_, wwB, [zO3 fi e0f e1f e2f e3f e4f e5f a1_22 a2_23, zAr T 0 a1_22 m1f r1f, zAr T 0 a2_23 7 r2f], wt, [zO10 xo t im mk rd po co tr wa wb_ fi cd], w2_82, z0_] _ _ := G.re rfl
            refine z_Vv (bc := [[zO3 fi e0f e1f e2f e3f e4f e5f a1_22 a2_23, zAr T 0 a1_22 m1f r1f, zAr T 0 a2_23 7 r2f], w2_82, z0_, wg0_]) (br := [z1_, wg1_, wwB, wt, [zO10 xo t im mk rd po co tr wa wb_ fi cd]]) (As := [.ref wa, .ref g0]) (rest := []) C G (c_find l T fi e0f e1f e2f e3f e4f e5f r1f m1f r2f ([zO3 fi e0f e1f e2f e3f e4f e5f a1_22 a2_23, zAr T 0 a1_22 m1f r1f, zAr T 0 a2_23 7 r2f]) wa l0 m2_83 wy2_84 pc2_85 g1_86 g2_87 f3A g4_88 g5_89 g6_90 (zMk mdA n4A (zPl cr0_ inn0_ k10_)) w2_82 cr0_ inn0_ k10_ k20_ k30_ k40_ z0_ g0 gg0_ q10_ q20_ wg0_ hw_97 h_92 hz0_ hg0_ hn9 hfw hwy9) (kV_RX11_298 C.2.2.2.2 (Nat.le_of_ble_eq_true rfl) (Nat.le_of_ble_eq_true rfl)) [4, 7, 8, 1] [1, 2, 2, 0] rfl rfl (ci := 3) (qc := (RX3, TX3, 8)) rfl rfl (List.mem_flatten.mpr ⟨_, List.mem_of_getElem? (i := 0) rfl, (bFit_mem hw_97).choose_spec⟩) rfl rfl hl.1 dX11_fit_74 (by show _ + 1 ≤ 4; omega) (by show _ + (2 * (zFl m1f wy2_84 - m1f)) ≤ 6 * (zNA (i1.toInt = 0 ∧ 0 < (fk 0).toInt ∧ (0 ≤ i2.toInt ∧ i2.toInt < (fk 2).toInt ∧ i2.toInt < 2) ∧ (e0f.toInt = 0 ∨ ¬ e1f.toInt = i1.toInt ∨ ¬ e2f.toInt = i2.toInt)) mdA n4A (zPl cr0_ inn0_ k10_) - n4A) + 6 * (zNA (i1.toInt = 1 ∧ 1 < (fk 0).toInt ∧ (0 ≤ i2.toInt ∧ i2.toInt < (fk 2).toInt ∧ i2.toInt < 2) ∧ (e0f.toInt = 0 ∨ ¬ e1f.toInt = i1.toInt ∨ ¬ e2f.toInt = i2.toInt)) mdB n4B (zPl cr1_ inn1_ k11_) - n4B) + 2 * (zNF (i1.toInt = 1 ∧ 1 < (fk 0).toInt ∧ (0 ≤ i2.toInt ∧ i2.toInt < (fk 2).toInt ∧ i2.toInt < 2) ∧ (e0f.toInt = 0 ∨ ¬ e1f.toInt = i1.toInt ∨ ¬ e2f.toInt = i2.toInt)) (zNF (i1.toInt = 0 ∧ 0 < (fk 0).toInt ∧ (0 ≤ i2.toInt ∧ i2.toInt < (fk 2).toInt ∧ i2.toInt < 2) ∧ (e0f.toInt = 0 ∨ ¬ e1f.toInt = i1.toInt ∨ ¬ e2f.toInt = i2.toInt)) m1f (zMw mdA wyA cr0_ inn0_ k10_)) (zMw mdB wyB cr1_ inn1_ k11_) - m1f); omega) (fun b1 H locs hw G => ?_)
            refine zEx5 hw ?_
            intro w2_98 s3_99 s4_100 s5_101 g1_102
            refine zCu3 ?_
            intro hbs9 h_103 h_104
            clear hw
            subst hbs9
            have G : zS T A s.heap s [z1_, wg1_, wwB, wt, [zO10 xo t im mk rd po co tr wa wb_ fi cd], w2_98, w2_82, z0_, wg0_] _ _ := G
            have h39 := h_104
            refine lv_aload_n hx hb dX11_fit_77 rfl (lv_at hl 2 rfl) ?_
            refine z_get C G clX11 4 rfl 9 (by decide) m_fl_RX11_65 rfl dX11_fit_78 ?_
            refine lv_iload_n hx hb dX11_fit_81 rfl (lv_at hl 3 rfl) ?_
            refine zEx2 h_103 ?_
            intro a1_106 a2_107 hbs9
            clear h_103
            subst hbs9
            have G : zS T A s.heap s [z1_, wg1_, wwB, wt, [zO10 xo t im mk rd po co tr wa wb_ fi cd], [zO3 fi e0f e1f e2f s3_99 s4_100 s5_101 a1_106 a2_107], [zAr T 0 a1_106 (zFl m1f wy2_84) g1_102], [zAr T 0 a2_107 7 r2f], w2_82, z0_, wg0_] _ _ := G.re rfl
            refine z_put C G clX3 5 rfl 1 (by decide) m_fl_RX11_292 rfl rfl rfl (Nat.le_of_ble_eq_true rfl) dX11_fit_82 (fun H locs G => ?_)
            have G : zS T A s.heap s [z1_, wg1_, wwB, wt, [zO10 xo t im mk rd po co tr wa wb_ fi cd], [zO3 fi e0f i1 e2f s3_99 s4_100 s5_101 a1_106 a2_107], [zAr T 0 a1_106 (zFl m1f wy2_84) g1_102], [zAr T 0 a2_107 7 r2f], w2_82, z0_, wg0_] _ _ := G
            refine lv_aload_n hx hb dX11_fit_85 rfl (lv_at hl 2 rfl) ?_
            refine z_get C G clX11 4 rfl 9 (by decide) m_fl_RX11_65 rfl dX11_fit_86 ?_
            refine lv_iload_n hx hb dX11_fit_89 rfl (lv_at hl 4 rfl) ?_
            refine z_put C G clX3 5 rfl 2 (by decide) m_fl_RX11_295 rfl rfl rfl (Nat.le_of_ble_eq_true rfl) dX11_fit_90 (fun H locs G => ?_)
            have G : zS T A s.heap s [z1_, wg1_, wwB, wt, [zO10 xo t im mk rd po co tr wa wb_ fi cd], [zO3 fi e0f i1 i2 s3_99 s4_100 s5_101 a1_106 a2_107], [zAr T 0 a1_106 (zFl m1f wy2_84) g1_102], [zAr T 0 a2_107 7 r2f], w2_82, z0_, wg0_] _ _ := G
            refine lv_aload_n hx hb dX11_fit_93 rfl (lv_at hl 2 rfl) ?_
            refine z_get C G clX11 4 rfl 9 (by decide) m_fl_RX11_65 rfl dX11_fit_94 ?_
            refine lv_iconst (v := 1) hx hb dX11_fit_97 (by decide) ?_
            refine z_put C G clX3 5 rfl 0 (by decide) m_fl_RX11_109 rfl rfl rfl (Nat.le_of_ble_eq_true rfl) dX11_fit_98 (fun H locs G => ?_)
            have G : zS T A s.heap s [z1_, wg1_, wwB, wt, [zO10 xo t im mk rd po co tr wa wb_ fi cd], [zO3 fi 1 i1 i2 s3_99 s4_100 s5_101 a1_106 a2_107], [zAr T 0 a1_106 (zFl m1f wy2_84) g1_102], [zAr T 0 a2_107 7 r2f], w2_82, z0_, wg0_] _ _ := G
            refine lv_iconst (v := 1) hx hb dX11_fit_101 (by decide) ?_
            have hw_108 : bFit T fi 1 i1 i2 s3_99 s4_100 s5_101 g1_102 (zFl m1f wy2_84) r2f [zO3 fi 1 i1 i2 s3_99 s4_100 s5_101 a1_106 a2_107, zAr T 0 a1_106 (zFl m1f wy2_84) g1_102, zAr T 0 a2_107 7 r2f] := ⟨a1_106, a2_107, rfl⟩
            have G : zS T A s.heap s [z1_, wg1_, wwB, wt, [zO10 xo t im mk rd po co tr wa wb_ fi cd], [zO3 fi 1 i1 i2 s3_99 s4_100 s5_101 a1_106 a2_107, zAr T 0 a1_106 (zFl m1f wy2_84) g1_102, zAr T 0 a2_107 7 r2f], w2_82, z0_, wg0_] _ _ := G.re rfl
            have G := G.sub (bs' := [[zO10 xo t im mk rd po co tr wa wb_ fi cd], wt, z0_, z1_, wg0_, wg1_, w2_82, wwB, [zO3 fi 1 i1 i2 s3_99 s4_100 s5_101 a1_106 a2_107, zAr T 0 a1_106 (zFl m1f wy2_84) g1_102, zAr T 0 a2_107 7 r2f]]) [4, 3, 7, 0, 8, 1, 6, 2, 5] rfl
            exact z_back hQ9 (z_zret C hr hlocks G (by omega) (by omega) dX11_fit_102 rfl ⟨l0, m2_83, wy2_84, pc2_85, g1_86, g2_87, f3A, g4_88, g5_89, g6_90, (zMk mdA n4A (zPl cr0_ inn0_ k10_)), w2_82, laB, mdB, wyB, pc_B, f1B, f2B, f3B, f4B, f5B, f6B, n4B, wwB, 1, i1, i2, s3_99, s4_100, s5_101, g1_102, (zFl m1f wy2_84), r2f, ([zO3 fi 1 i1 i2 s3_99 s4_100 s5_101 a1_106 a2_107, zAr T 0 a1_106 (zFl m1f wy2_84) g1_102, zAr T 0 a2_107 7 r2f]), rfl, h_92, (Or.inr rfl), hwy9, hNAm.symm, (zMk_pw hpwA), (fun _ => h_95), hwwB, hmdB, hwmB, (zNA_n (by omega)).symm, hpwB, (fun q => q), hw_108, hNF.symm, hfw9, h39, (Or.inr ⟨rfl, by omega, by decide, rfl⟩), (fun _ => Or.inl ⟨by omega, h_95⟩)⟩)
    · have h_20 : i2.toInt = 1 := h_20
      have h_21 : 1 < (fk 2).toInt := h_21
      refine lv_astore (lv' := [(4, .ref g1), (3, .ref l0), (0, .ref xo), (1, .int i1), (2, .int i2)]) hx hb dX11_fit_17 hl (by decide) rfl (fun ls hl => ?_)
      refine lv_aload_n hx hb dX11_fit_19 rfl (lv_at hl 1 rfl) ?_
      refine lv_ifnull hx hb dX11_fit_20 ?_
      refine lv_aload hx hb dX11_fit_23 (lv_at hl 0 rfl) ?_
      refine lv_ifnonnull (tgt := 30) hx hb dX11_fit_25 (by decide) ?_
      refine lv_aload_n hx hb dX11_fit_30 rfl (lv_at hl 2 rfl) ?_
      refine z_get C G clX11 0 rfl 9 (by decide) m_fl_RX11_65 rfl dX11_fit_31 ?_
      refine zEx2 hwff ?_
      intro a1_109 a2_110 hbs9
      clear hwff
      subst hbs9
      have G : zS T A s.heap s [[zO10 xo t im mk rd po co tr wa wb_ fi cd], z0_, z1_, wg0_, wg1_, wwA, wwB, [zO3 fi e0f e1f e2f e3f e4f e5f a1_109 a2_110], [zAr T 0 a1_109 m1f r1f], [zAr T 0 a2_110 7 r2f], wt] _ _ := G.re rfl
      refine z_get C G clX3 7 rfl 0 (by decide) m_fl_RX11_109 rfl dX11_fit_34 ?_
      refine lv_if_eq (tgt := 62) hx hb dX11_fit_37 (by decide) (fun c_111 => ?_) (fun c_111 => ?_)
      · have c_111n : e0f.toInt = (0 : Int) := (fa_eq _ _).mp c_111
        refine lv_aload_n hx hb dX11_fit_62 rfl (lv_at hl 2 rfl) ?_
        refine z_get C G clX11 0 rfl 9 (by decide) m_fl_RX11_65 rfl dX11_fit_63 ?_
        refine lv_aload_n hx hb dX11_fit_66 rfl (lv_at hl 2 rfl) ?_
        refine lv_iload_n hx hb dX11_fit_67 rfl (lv_at hl 3 rfl) ?_
        refine lv_aload_n hx hb dX11_fit_68 rfl (lv_at hl 1 rfl) ?_
        have hcF : (i1.toInt = 0 ∧ 0 < (fk 0).toInt ∧ (0 ≤ i2.toInt ∧ i2.toInt < (fk 2).toInt ∧ i2.toInt < 2) ∧ (e0f.toInt = 0 ∨ ¬ e1f.toInt = i1.toInt ∨ ¬ e2f.toInt = i2.toInt)) := by omega
        have hcN : ¬ (i1.toInt = 1 ∧ 1 < (fk 0).toInt ∧ (0 ≤ i2.toInt ∧ i2.toInt < (fk 2).toInt ∧ i2.toInt < 2) ∧ (e0f.toInt = 0 ∨ ¬ e1f.toInt = i1.toInt ∨ ¬ e2f.toInt = i2.toInt)) := by omega
        have hNAm : zNA (i1.toInt = 0 ∧ 0 < (fk 0).toInt ∧ (0 ≤ i2.toInt ∧ i2.toInt < (fk 2).toInt ∧ i2.toInt < 2) ∧ (e0f.toInt = 0 ∨ ¬ e1f.toInt = i1.toInt ∨ ¬ e2f.toInt = i2.toInt)) mdA n4A (zPl cr0_ inn0_ k10_) = zMk mdA n4A (zPl cr0_ inn0_ k10_) := zNA_y hcF
        have hNAo : zNA (i1.toInt = 1 ∧ 1 < (fk 0).toInt ∧ (0 ≤ i2.toInt ∧ i2.toInt < (fk 2).toInt ∧ i2.toInt < 2) ∧ (e0f.toInt = 0 ∨ ¬ e1f.toInt = i1.toInt ∨ ¬ e2f.toInt = i2.toInt)) mdB n4B (zPl cr1_ inn1_ k11_) = n4B := zNA_n hcN
        have hn9 : zMk mdA n4A (zPl cr0_ inn0_ k10_) ≤ 131072 := zPw_le (zMk_pw hpwA)
        refine z_Vq (bc := [[zO10 xo t im mk rd po co tr wa wb_ fi cd], wwA, z0_]) (br := [z1_, wg0_, wg1_, wwB, [zO3 fi e0f e1f e2f e3f e4f e5f a1_109 a2_110], [zAr T 0 a1_109 m1f r1f], [zAr T 0 a2_110 7 r2f], wt]) (As := [.int i1, .ref l0]) (rest := [.ref fi]) C G (c_waysInA l T xo t im mk rd po co tr wa wb_ fi cd i1 laA mdA wyA pc_A f1A f2A f3A f4A f5A f6A n4A wwA l0 cr0_ inn0_ k10_ k20_ k30_ k40_ z0_ hwwA hz0_ hI0_ hpwA hmdA hwmA (by omega)) (kV_RX11_235 C.2.2.2.2 (Nat.le_of_ble_eq_true rfl) (Nat.le_of_ble_eq_true rfl)) [0, 5, 1] [0, 0, 3] rfl rfl (ci := 10) (qc := (RX11, TX11, 11)) rfl rfl (List.mem_flatten.mpr ⟨_, List.mem_of_getElem? (i := 0) rfl, List.mem_cons_self⟩) rfl rfl hl.1 dX11_fit_69 (by show _ + 3 ≤ 4; omega) (by show _ + (6 * (zMk mdA n4A (zPl cr0_ inn0_ k10_) - n4A)) ≤ 6 * (zNA (i1.toInt = 0 ∧ 0 < (fk 0).toInt ∧ (0 ≤ i2.toInt ∧ i2.toInt < (fk 2).toInt ∧ i2.toInt < 2) ∧ (e0f.toInt = 0 ∨ ¬ e1f.toInt = i1.toInt ∨ ¬ e2f.toInt = i2.toInt)) mdA n4A (zPl cr0_ inn0_ k10_) - n4A) + 6 * (zNA (i1.toInt = 1 ∧ 1 < (fk 0).toInt ∧ (0 ≤ i2.toInt ∧ i2.toInt < (fk 2).toInt ∧ i2.toInt < 2) ∧ (e0f.toInt = 0 ∨ ¬ e1f.toInt = i1.toInt ∨ ¬ e2f.toInt = i2.toInt)) mdB n4B (zPl cr1_ inn1_ k11_) - n4B) + 2 * (zNF (i1.toInt = 1 ∧ 1 < (fk 0).toInt ∧ (0 ≤ i2.toInt ∧ i2.toInt < (fk 2).toInt ∧ i2.toInt < 2) ∧ (e0f.toInt = 0 ∨ ¬ e1f.toInt = i1.toInt ∨ ¬ e2f.toInt = i2.toInt)) (zNF (i1.toInt = 0 ∧ 0 < (fk 0).toInt ∧ (0 ≤ i2.toInt ∧ i2.toInt < (fk 2).toInt ∧ i2.toInt < 2) ∧ (e0f.toInt = 0 ∨ ¬ e1f.toInt = i1.toInt ∨ ¬ e2f.toInt = i2.toInt)) m1f (zMw mdA wyA cr0_ inn0_ k10_)) (zMw mdB wyB cr1_ inn1_ k11_) - m1f); omega) (fun r_126 b1 H locs hw G => ?_)
        refine zEx9 hw ?_
        intro w2_112 m2_113 wy2_114 pc2_115 g1_116 g2_117 g4_118 g5_119 g6_120
        refine zCu6 ?_
        intro hbs9 h_121 h_122 h_123 h_124 h_125
        clear hw
        subst hbs9
        have G : zS T A s.heap s [z1_, wg0_, wg1_, wwB, [zO3 fi e0f e1f e2f e3f e4f e5f a1_109 a2_110], [zAr T 0 a1_109 m1f r1f], [zAr T 0 a2_110 7 r2f], wt, [zO10 xo t im mk rd po co tr wa wb_ fi cd], w2_112, z0_] _ _ := G
        subst h_121
        have hwy9 := h_123
        have hNF : zNF (i1.toInt = 1 ∧ 1 < (fk 0).toInt ∧ (0 ≤ i2.toInt ∧ i2.toInt < (fk 2).toInt ∧ i2.toInt < 2) ∧ (e0f.toInt = 0 ∨ ¬ e1f.toInt = i1.toInt ∨ ¬ e2f.toInt = i2.toInt)) (zNF (i1.toInt = 0 ∧ 0 < (fk 0).toInt ∧ (0 ≤ i2.toInt ∧ i2.toInt < (fk 2).toInt ∧ i2.toInt < 2) ∧ (e0f.toInt = 0 ∨ ¬ e1f.toInt = i1.toInt ∨ ¬ e2f.toInt = i2.toInt)) m1f (zMw mdA wyA cr0_ inn0_ k10_)) (zMw mdB wyB cr1_ inn1_ k11_) = zFl m1f wy2_114 := by rw [zNF_n (c := (i1.toInt = 1 ∧ 1 < (fk 0).toInt ∧ (0 ≤ i2.toInt ∧ i2.toInt < (fk 2).toInt ∧ i2.toInt < 2) ∧ (e0f.toInt = 0 ∨ ¬ e1f.toInt = i1.toInt ∨ ¬ e2f.toInt = i2.toInt))) hcN, zNF_y hcF, h_124]
        have hfw9 := zFl_pw (wy := wy2_114) hfw
        refine lv_aload hx hb dX11_fit_72 (lv_at hl 0 rfl) ?_
        have hw_127 : bFit T fi e0f e1f e2f e3f e4f e5f r1f m1f r2f [zO3 fi e0f e1f e2f e3f e4f e5f a1_109 a2_110, zAr T 0 a1_109 m1f r1f, zAr T 0 a2_110 7 r2f] := ⟨a1_109, a2_110, rfl⟩
        have G : zS T A s.heap s [z1_, wg0_, wg1_, wwB, [zO3 fi e0f e1f e2f e3f e4f e5f a1_109 a2_110, zAr T 0 a1_109 m1f r1f, zAr T 0 a2_110 7 r2f], wt, [zO10 xo t im mk rd po co tr wa wb_ fi cd], w2_112, z0_] _ _ := G.re rfl
        refine z_Vv (bc := [[zO3 fi e0f e1f e2f e3f e4f e5f a1_109 a2_110, zAr T 0 a1_109 m1f r1f, zAr T 0 a2_110 7 r2f], w2_112, z0_, wg1_]) (br := [z1_, wg0_, wwB, wt, [zO10 xo t im mk rd po co tr wa wb_ fi cd]]) (As := [.ref wa, .ref g1]) (rest := []) C G (c_find l T fi e0f e1f e2f e3f e4f e5f r1f m1f r2f ([zO3 fi e0f e1f e2f e3f e4f e5f a1_109 a2_110, zAr T 0 a1_109 m1f r1f, zAr T 0 a2_110 7 r2f]) wa l0 m2_113 wy2_114 pc2_115 g1_116 g2_117 f3A g4_118 g5_119 g6_120 (zMk mdA n4A (zPl cr0_ inn0_ k10_)) w2_112 cr0_ inn0_ k10_ k20_ k30_ k40_ z0_ g1 gg1_ q11_ q21_ wg1_ hw_127 h_122 hz0_ hg1_ hn9 hfw hwy9) (kV_RX11_298 C.2.2.2.2 (Nat.le_of_ble_eq_true rfl) (Nat.le_of_ble_eq_true rfl)) [4, 7, 8, 2] [2, 1, 2, 0] rfl rfl (ci := 3) (qc := (RX3, TX3, 8)) rfl rfl (List.mem_flatten.mpr ⟨_, List.mem_of_getElem? (i := 0) rfl, (bFit_mem hw_127).choose_spec⟩) rfl rfl hl.1 dX11_fit_74 (by show _ + 1 ≤ 4; omega) (by show _ + (2 * (zFl m1f wy2_114 - m1f)) ≤ 6 * (zNA (i1.toInt = 0 ∧ 0 < (fk 0).toInt ∧ (0 ≤ i2.toInt ∧ i2.toInt < (fk 2).toInt ∧ i2.toInt < 2) ∧ (e0f.toInt = 0 ∨ ¬ e1f.toInt = i1.toInt ∨ ¬ e2f.toInt = i2.toInt)) mdA n4A (zPl cr0_ inn0_ k10_) - n4A) + 6 * (zNA (i1.toInt = 1 ∧ 1 < (fk 0).toInt ∧ (0 ≤ i2.toInt ∧ i2.toInt < (fk 2).toInt ∧ i2.toInt < 2) ∧ (e0f.toInt = 0 ∨ ¬ e1f.toInt = i1.toInt ∨ ¬ e2f.toInt = i2.toInt)) mdB n4B (zPl cr1_ inn1_ k11_) - n4B) + 2 * (zNF (i1.toInt = 1 ∧ 1 < (fk 0).toInt ∧ (0 ≤ i2.toInt ∧ i2.toInt < (fk 2).toInt ∧ i2.toInt < 2) ∧ (e0f.toInt = 0 ∨ ¬ e1f.toInt = i1.toInt ∨ ¬ e2f.toInt = i2.toInt)) (zNF (i1.toInt = 0 ∧ 0 < (fk 0).toInt ∧ (0 ≤ i2.toInt ∧ i2.toInt < (fk 2).toInt ∧ i2.toInt < 2) ∧ (e0f.toInt = 0 ∨ ¬ e1f.toInt = i1.toInt ∨ ¬ e2f.toInt = i2.toInt)) m1f (zMw mdA wyA cr0_ inn0_ k10_)) (zMw mdB wyB cr1_ inn1_ k11_) - m1f); omega) (fun b1 H locs hw G => ?_)
        refine zEx5 hw ?_
        intro w2_128 s3_129 s4_130 s5_131 g1_132
        refine zCu3 ?_
        intro hbs9 h_133 h_134
        clear hw
        subst hbs9
        have G : zS T A s.heap s [z1_, wg0_, wwB, wt, [zO10 xo t im mk rd po co tr wa wb_ fi cd], w2_128, w2_112, z0_, wg1_] _ _ := G
        have h39 := h_134
        refine lv_aload_n hx hb dX11_fit_77 rfl (lv_at hl 2 rfl) ?_
        refine z_get C G clX11 4 rfl 9 (by decide) m_fl_RX11_65 rfl dX11_fit_78 ?_
        refine lv_iload_n hx hb dX11_fit_81 rfl (lv_at hl 3 rfl) ?_
        refine zEx2 h_133 ?_
        intro a1_136 a2_137 hbs9
        clear h_133
        subst hbs9
        have G : zS T A s.heap s [z1_, wg0_, wwB, wt, [zO10 xo t im mk rd po co tr wa wb_ fi cd], [zO3 fi e0f e1f e2f s3_129 s4_130 s5_131 a1_136 a2_137], [zAr T 0 a1_136 (zFl m1f wy2_114) g1_132], [zAr T 0 a2_137 7 r2f], w2_112, z0_, wg1_] _ _ := G.re rfl
        refine z_put C G clX3 5 rfl 1 (by decide) m_fl_RX11_292 rfl rfl rfl (Nat.le_of_ble_eq_true rfl) dX11_fit_82 (fun H locs G => ?_)
        have G : zS T A s.heap s [z1_, wg0_, wwB, wt, [zO10 xo t im mk rd po co tr wa wb_ fi cd], [zO3 fi e0f i1 e2f s3_129 s4_130 s5_131 a1_136 a2_137], [zAr T 0 a1_136 (zFl m1f wy2_114) g1_132], [zAr T 0 a2_137 7 r2f], w2_112, z0_, wg1_] _ _ := G
        refine lv_aload_n hx hb dX11_fit_85 rfl (lv_at hl 2 rfl) ?_
        refine z_get C G clX11 4 rfl 9 (by decide) m_fl_RX11_65 rfl dX11_fit_86 ?_
        refine lv_iload_n hx hb dX11_fit_89 rfl (lv_at hl 4 rfl) ?_
        refine z_put C G clX3 5 rfl 2 (by decide) m_fl_RX11_295 rfl rfl rfl (Nat.le_of_ble_eq_true rfl) dX11_fit_90 (fun H locs G => ?_)
        have G : zS T A s.heap s [z1_, wg0_, wwB, wt, [zO10 xo t im mk rd po co tr wa wb_ fi cd], [zO3 fi e0f i1 i2 s3_129 s4_130 s5_131 a1_136 a2_137], [zAr T 0 a1_136 (zFl m1f wy2_114) g1_132], [zAr T 0 a2_137 7 r2f], w2_112, z0_, wg1_] _ _ := G
        refine lv_aload_n hx hb dX11_fit_93 rfl (lv_at hl 2 rfl) ?_
        refine z_get C G clX11 4 rfl 9 (by decide) m_fl_RX11_65 rfl dX11_fit_94 ?_
        refine lv_iconst (v := 1) hx hb dX11_fit_97 (by decide) ?_
        refine z_put C G clX3 5 rfl 0 (by decide) m_fl_RX11_109 rfl rfl rfl (Nat.le_of_ble_eq_true rfl) dX11_fit_98 (fun H locs G => ?_)
        have G : zS T A s.heap s [z1_, wg0_, wwB, wt, [zO10 xo t im mk rd po co tr wa wb_ fi cd], [zO3 fi 1 i1 i2 s3_129 s4_130 s5_131 a1_136 a2_137], [zAr T 0 a1_136 (zFl m1f wy2_114) g1_132], [zAr T 0 a2_137 7 r2f], w2_112, z0_, wg1_] _ _ := G
        refine lv_iconst (v := 1) hx hb dX11_fit_101 (by decide) ?_
        have hw_138 : bFit T fi 1 i1 i2 s3_129 s4_130 s5_131 g1_132 (zFl m1f wy2_114) r2f [zO3 fi 1 i1 i2 s3_129 s4_130 s5_131 a1_136 a2_137, zAr T 0 a1_136 (zFl m1f wy2_114) g1_132, zAr T 0 a2_137 7 r2f] := ⟨a1_136, a2_137, rfl⟩
        have G : zS T A s.heap s [z1_, wg0_, wwB, wt, [zO10 xo t im mk rd po co tr wa wb_ fi cd], [zO3 fi 1 i1 i2 s3_129 s4_130 s5_131 a1_136 a2_137, zAr T 0 a1_136 (zFl m1f wy2_114) g1_132, zAr T 0 a2_137 7 r2f], w2_112, z0_, wg1_] _ _ := G.re rfl
        have G := G.sub (bs' := [[zO10 xo t im mk rd po co tr wa wb_ fi cd], wt, z0_, z1_, wg0_, wg1_, w2_112, wwB, [zO3 fi 1 i1 i2 s3_129 s4_130 s5_131 a1_136 a2_137, zAr T 0 a1_136 (zFl m1f wy2_114) g1_132, zAr T 0 a2_137 7 r2f]]) [4, 3, 7, 0, 1, 8, 6, 2, 5] rfl
        exact z_back hQ9 (z_zret C hr hlocks G (by omega) (by omega) dX11_fit_102 rfl ⟨l0, m2_113, wy2_114, pc2_115, g1_116, g2_117, f3A, g4_118, g5_119, g6_120, (zMk mdA n4A (zPl cr0_ inn0_ k10_)), w2_112, laB, mdB, wyB, pc_B, f1B, f2B, f3B, f4B, f5B, f6B, n4B, wwB, 1, i1, i2, s3_129, s4_130, s5_131, g1_132, (zFl m1f wy2_114), r2f, ([zO3 fi 1 i1 i2 s3_129 s4_130 s5_131 a1_136 a2_137, zAr T 0 a1_136 (zFl m1f wy2_114) g1_132, zAr T 0 a2_137 7 r2f]), rfl, h_122, (Or.inr rfl), hwy9, hNAm.symm, (zMk_pw hpwA), (fun _ => h_125), hwwB, hmdB, hwmB, (zNA_n (by omega)).symm, hpwB, (fun q => q), hw_138, hNF.symm, hfw9, h39, (Or.inr ⟨rfl, by omega, by decide, rfl⟩), (fun _ => Or.inl ⟨by omega, h_125⟩)⟩)
      · have c_111n : ¬ e0f.toInt = (0 : Int) := fun q => c_111 ((fa_eq _ _).mpr q)
        refine lv_aload_n hx hb dX11_fit_40 rfl (lv_at hl 2 rfl) ?_
        refine z_get C G clX11 0 rfl 9 (by decide) m_fl_RX11_65 rfl dX11_fit_41 ?_
        refine z_get C G clX3 7 rfl 1 (by decide) m_fl_RX11_292 rfl dX11_fit_44 ?_
        refine lv_iload_n hx hb dX11_fit_47 rfl (lv_at hl 3 rfl) ?_
        refine lv_icmp_ne (tgt := 62) hx hb dX11_fit_48 (by decide) (fun c_139 => ?_) (fun c_139 => ?_)
        · have c_139n : ¬ e1f.toInt = i1.toInt := fun q => c_139 ((fa_eq _ _).mpr q)
          refine lv_aload_n hx hb dX11_fit_62 rfl (lv_at hl 2 rfl) ?_
          refine z_get C G clX11 0 rfl 9 (by decide) m_fl_RX11_65 rfl dX11_fit_63 ?_
          refine lv_aload_n hx hb dX11_fit_66 rfl (lv_at hl 2 rfl) ?_
          refine lv_iload_n hx hb dX11_fit_67 rfl (lv_at hl 3 rfl) ?_
          refine lv_aload_n hx hb dX11_fit_68 rfl (lv_at hl 1 rfl) ?_
          have hcF : (i1.toInt = 0 ∧ 0 < (fk 0).toInt ∧ (0 ≤ i2.toInt ∧ i2.toInt < (fk 2).toInt ∧ i2.toInt < 2) ∧ (e0f.toInt = 0 ∨ ¬ e1f.toInt = i1.toInt ∨ ¬ e2f.toInt = i2.toInt)) := by omega
          have hcN : ¬ (i1.toInt = 1 ∧ 1 < (fk 0).toInt ∧ (0 ≤ i2.toInt ∧ i2.toInt < (fk 2).toInt ∧ i2.toInt < 2) ∧ (e0f.toInt = 0 ∨ ¬ e1f.toInt = i1.toInt ∨ ¬ e2f.toInt = i2.toInt)) := by omega
          have hNAm : zNA (i1.toInt = 0 ∧ 0 < (fk 0).toInt ∧ (0 ≤ i2.toInt ∧ i2.toInt < (fk 2).toInt ∧ i2.toInt < 2) ∧ (e0f.toInt = 0 ∨ ¬ e1f.toInt = i1.toInt ∨ ¬ e2f.toInt = i2.toInt)) mdA n4A (zPl cr0_ inn0_ k10_) = zMk mdA n4A (zPl cr0_ inn0_ k10_) := zNA_y hcF
          have hNAo : zNA (i1.toInt = 1 ∧ 1 < (fk 0).toInt ∧ (0 ≤ i2.toInt ∧ i2.toInt < (fk 2).toInt ∧ i2.toInt < 2) ∧ (e0f.toInt = 0 ∨ ¬ e1f.toInt = i1.toInt ∨ ¬ e2f.toInt = i2.toInt)) mdB n4B (zPl cr1_ inn1_ k11_) = n4B := zNA_n hcN
          have hn9 : zMk mdA n4A (zPl cr0_ inn0_ k10_) ≤ 131072 := zPw_le (zMk_pw hpwA)
          refine z_Vq (bc := [[zO10 xo t im mk rd po co tr wa wb_ fi cd], wwA, z0_]) (br := [z1_, wg0_, wg1_, wwB, [zO3 fi e0f e1f e2f e3f e4f e5f a1_109 a2_110], [zAr T 0 a1_109 m1f r1f], [zAr T 0 a2_110 7 r2f], wt]) (As := [.int i1, .ref l0]) (rest := [.ref fi]) C G (c_waysInA l T xo t im mk rd po co tr wa wb_ fi cd i1 laA mdA wyA pc_A f1A f2A f3A f4A f5A f6A n4A wwA l0 cr0_ inn0_ k10_ k20_ k30_ k40_ z0_ hwwA hz0_ hI0_ hpwA hmdA hwmA (by omega)) (kV_RX11_235 C.2.2.2.2 (Nat.le_of_ble_eq_true rfl) (Nat.le_of_ble_eq_true rfl)) [0, 5, 1] [0, 0, 3] rfl rfl (ci := 10) (qc := (RX11, TX11, 11)) rfl rfl (List.mem_flatten.mpr ⟨_, List.mem_of_getElem? (i := 0) rfl, List.mem_cons_self⟩) rfl rfl hl.1 dX11_fit_69 (by show _ + 3 ≤ 4; omega) (by show _ + (6 * (zMk mdA n4A (zPl cr0_ inn0_ k10_) - n4A)) ≤ 6 * (zNA (i1.toInt = 0 ∧ 0 < (fk 0).toInt ∧ (0 ≤ i2.toInt ∧ i2.toInt < (fk 2).toInt ∧ i2.toInt < 2) ∧ (e0f.toInt = 0 ∨ ¬ e1f.toInt = i1.toInt ∨ ¬ e2f.toInt = i2.toInt)) mdA n4A (zPl cr0_ inn0_ k10_) - n4A) + 6 * (zNA (i1.toInt = 1 ∧ 1 < (fk 0).toInt ∧ (0 ≤ i2.toInt ∧ i2.toInt < (fk 2).toInt ∧ i2.toInt < 2) ∧ (e0f.toInt = 0 ∨ ¬ e1f.toInt = i1.toInt ∨ ¬ e2f.toInt = i2.toInt)) mdB n4B (zPl cr1_ inn1_ k11_) - n4B) + 2 * (zNF (i1.toInt = 1 ∧ 1 < (fk 0).toInt ∧ (0 ≤ i2.toInt ∧ i2.toInt < (fk 2).toInt ∧ i2.toInt < 2) ∧ (e0f.toInt = 0 ∨ ¬ e1f.toInt = i1.toInt ∨ ¬ e2f.toInt = i2.toInt)) (zNF (i1.toInt = 0 ∧ 0 < (fk 0).toInt ∧ (0 ≤ i2.toInt ∧ i2.toInt < (fk 2).toInt ∧ i2.toInt < 2) ∧ (e0f.toInt = 0 ∨ ¬ e1f.toInt = i1.toInt ∨ ¬ e2f.toInt = i2.toInt)) m1f (zMw mdA wyA cr0_ inn0_ k10_)) (zMw mdB wyB cr1_ inn1_ k11_) - m1f); omega) (fun r_154 b1 H locs hw G => ?_)
          refine zEx9 hw ?_
          intro w2_140 m2_141 wy2_142 pc2_143 g1_144 g2_145 g4_146 g5_147 g6_148
          refine zCu6 ?_
          intro hbs9 h_149 h_150 h_151 h_152 h_153
          clear hw
          subst hbs9
          have G : zS T A s.heap s [z1_, wg0_, wg1_, wwB, [zO3 fi e0f e1f e2f e3f e4f e5f a1_109 a2_110], [zAr T 0 a1_109 m1f r1f], [zAr T 0 a2_110 7 r2f], wt, [zO10 xo t im mk rd po co tr wa wb_ fi cd], w2_140, z0_] _ _ := G
          subst h_149
          have hwy9 := h_151
          have hNF : zNF (i1.toInt = 1 ∧ 1 < (fk 0).toInt ∧ (0 ≤ i2.toInt ∧ i2.toInt < (fk 2).toInt ∧ i2.toInt < 2) ∧ (e0f.toInt = 0 ∨ ¬ e1f.toInt = i1.toInt ∨ ¬ e2f.toInt = i2.toInt)) (zNF (i1.toInt = 0 ∧ 0 < (fk 0).toInt ∧ (0 ≤ i2.toInt ∧ i2.toInt < (fk 2).toInt ∧ i2.toInt < 2) ∧ (e0f.toInt = 0 ∨ ¬ e1f.toInt = i1.toInt ∨ ¬ e2f.toInt = i2.toInt)) m1f (zMw mdA wyA cr0_ inn0_ k10_)) (zMw mdB wyB cr1_ inn1_ k11_) = zFl m1f wy2_142 := by rw [zNF_n (c := (i1.toInt = 1 ∧ 1 < (fk 0).toInt ∧ (0 ≤ i2.toInt ∧ i2.toInt < (fk 2).toInt ∧ i2.toInt < 2) ∧ (e0f.toInt = 0 ∨ ¬ e1f.toInt = i1.toInt ∨ ¬ e2f.toInt = i2.toInt))) hcN, zNF_y hcF, h_152]
          have hfw9 := zFl_pw (wy := wy2_142) hfw
          refine lv_aload hx hb dX11_fit_72 (lv_at hl 0 rfl) ?_
          have hw_155 : bFit T fi e0f e1f e2f e3f e4f e5f r1f m1f r2f [zO3 fi e0f e1f e2f e3f e4f e5f a1_109 a2_110, zAr T 0 a1_109 m1f r1f, zAr T 0 a2_110 7 r2f] := ⟨a1_109, a2_110, rfl⟩
          have G : zS T A s.heap s [z1_, wg0_, wg1_, wwB, [zO3 fi e0f e1f e2f e3f e4f e5f a1_109 a2_110, zAr T 0 a1_109 m1f r1f, zAr T 0 a2_110 7 r2f], wt, [zO10 xo t im mk rd po co tr wa wb_ fi cd], w2_140, z0_] _ _ := G.re rfl
          refine z_Vv (bc := [[zO3 fi e0f e1f e2f e3f e4f e5f a1_109 a2_110, zAr T 0 a1_109 m1f r1f, zAr T 0 a2_110 7 r2f], w2_140, z0_, wg1_]) (br := [z1_, wg0_, wwB, wt, [zO10 xo t im mk rd po co tr wa wb_ fi cd]]) (As := [.ref wa, .ref g1]) (rest := []) C G (c_find l T fi e0f e1f e2f e3f e4f e5f r1f m1f r2f ([zO3 fi e0f e1f e2f e3f e4f e5f a1_109 a2_110, zAr T 0 a1_109 m1f r1f, zAr T 0 a2_110 7 r2f]) wa l0 m2_141 wy2_142 pc2_143 g1_144 g2_145 f3A g4_146 g5_147 g6_148 (zMk mdA n4A (zPl cr0_ inn0_ k10_)) w2_140 cr0_ inn0_ k10_ k20_ k30_ k40_ z0_ g1 gg1_ q11_ q21_ wg1_ hw_155 h_150 hz0_ hg1_ hn9 hfw hwy9) (kV_RX11_298 C.2.2.2.2 (Nat.le_of_ble_eq_true rfl) (Nat.le_of_ble_eq_true rfl)) [4, 7, 8, 2] [2, 1, 2, 0] rfl rfl (ci := 3) (qc := (RX3, TX3, 8)) rfl rfl (List.mem_flatten.mpr ⟨_, List.mem_of_getElem? (i := 0) rfl, (bFit_mem hw_155).choose_spec⟩) rfl rfl hl.1 dX11_fit_74 (by show _ + 1 ≤ 4; omega) (by show _ + (2 * (zFl m1f wy2_142 - m1f)) ≤ 6 * (zNA (i1.toInt = 0 ∧ 0 < (fk 0).toInt ∧ (0 ≤ i2.toInt ∧ i2.toInt < (fk 2).toInt ∧ i2.toInt < 2) ∧ (e0f.toInt = 0 ∨ ¬ e1f.toInt = i1.toInt ∨ ¬ e2f.toInt = i2.toInt)) mdA n4A (zPl cr0_ inn0_ k10_) - n4A) + 6 * (zNA (i1.toInt = 1 ∧ 1 < (fk 0).toInt ∧ (0 ≤ i2.toInt ∧ i2.toInt < (fk 2).toInt ∧ i2.toInt < 2) ∧ (e0f.toInt = 0 ∨ ¬ e1f.toInt = i1.toInt ∨ ¬ e2f.toInt = i2.toInt)) mdB n4B (zPl cr1_ inn1_ k11_) - n4B) + 2 * (zNF (i1.toInt = 1 ∧ 1 < (fk 0).toInt ∧ (0 ≤ i2.toInt ∧ i2.toInt < (fk 2).toInt ∧ i2.toInt < 2) ∧ (e0f.toInt = 0 ∨ ¬ e1f.toInt = i1.toInt ∨ ¬ e2f.toInt = i2.toInt)) (zNF (i1.toInt = 0 ∧ 0 < (fk 0).toInt ∧ (0 ≤ i2.toInt ∧ i2.toInt < (fk 2).toInt ∧ i2.toInt < 2) ∧ (e0f.toInt = 0 ∨ ¬ e1f.toInt = i1.toInt ∨ ¬ e2f.toInt = i2.toInt)) m1f (zMw mdA wyA cr0_ inn0_ k10_)) (zMw mdB wyB cr1_ inn1_ k11_) - m1f); omega) (fun b1 H locs hw G => ?_)
          refine zEx5 hw ?_
          intro w2_156 s3_157 s4_158 s5_159 g1_160
          refine zCu3 ?_
          intro hbs9 h_161 h_162
          clear hw
          subst hbs9
          have G : zS T A s.heap s [z1_, wg0_, wwB, wt, [zO10 xo t im mk rd po co tr wa wb_ fi cd], w2_156, w2_140, z0_, wg1_] _ _ := G
          have h39 := h_162
          refine lv_aload_n hx hb dX11_fit_77 rfl (lv_at hl 2 rfl) ?_
          refine z_get C G clX11 4 rfl 9 (by decide) m_fl_RX11_65 rfl dX11_fit_78 ?_
          refine lv_iload_n hx hb dX11_fit_81 rfl (lv_at hl 3 rfl) ?_
          refine zEx2 h_161 ?_
          intro a1_164 a2_165 hbs9
          clear h_161
          subst hbs9
          have G : zS T A s.heap s [z1_, wg0_, wwB, wt, [zO10 xo t im mk rd po co tr wa wb_ fi cd], [zO3 fi e0f e1f e2f s3_157 s4_158 s5_159 a1_164 a2_165], [zAr T 0 a1_164 (zFl m1f wy2_142) g1_160], [zAr T 0 a2_165 7 r2f], w2_140, z0_, wg1_] _ _ := G.re rfl
          refine z_put C G clX3 5 rfl 1 (by decide) m_fl_RX11_292 rfl rfl rfl (Nat.le_of_ble_eq_true rfl) dX11_fit_82 (fun H locs G => ?_)
          have G : zS T A s.heap s [z1_, wg0_, wwB, wt, [zO10 xo t im mk rd po co tr wa wb_ fi cd], [zO3 fi e0f i1 e2f s3_157 s4_158 s5_159 a1_164 a2_165], [zAr T 0 a1_164 (zFl m1f wy2_142) g1_160], [zAr T 0 a2_165 7 r2f], w2_140, z0_, wg1_] _ _ := G
          refine lv_aload_n hx hb dX11_fit_85 rfl (lv_at hl 2 rfl) ?_
          refine z_get C G clX11 4 rfl 9 (by decide) m_fl_RX11_65 rfl dX11_fit_86 ?_
          refine lv_iload_n hx hb dX11_fit_89 rfl (lv_at hl 4 rfl) ?_
          refine z_put C G clX3 5 rfl 2 (by decide) m_fl_RX11_295 rfl rfl rfl (Nat.le_of_ble_eq_true rfl) dX11_fit_90 (fun H locs G => ?_)
          have G : zS T A s.heap s [z1_, wg0_, wwB, wt, [zO10 xo t im mk rd po co tr wa wb_ fi cd], [zO3 fi e0f i1 i2 s3_157 s4_158 s5_159 a1_164 a2_165], [zAr T 0 a1_164 (zFl m1f wy2_142) g1_160], [zAr T 0 a2_165 7 r2f], w2_140, z0_, wg1_] _ _ := G
          refine lv_aload_n hx hb dX11_fit_93 rfl (lv_at hl 2 rfl) ?_
          refine z_get C G clX11 4 rfl 9 (by decide) m_fl_RX11_65 rfl dX11_fit_94 ?_
          refine lv_iconst (v := 1) hx hb dX11_fit_97 (by decide) ?_
          refine z_put C G clX3 5 rfl 0 (by decide) m_fl_RX11_109 rfl rfl rfl (Nat.le_of_ble_eq_true rfl) dX11_fit_98 (fun H locs G => ?_)
          have G : zS T A s.heap s [z1_, wg0_, wwB, wt, [zO10 xo t im mk rd po co tr wa wb_ fi cd], [zO3 fi 1 i1 i2 s3_157 s4_158 s5_159 a1_164 a2_165], [zAr T 0 a1_164 (zFl m1f wy2_142) g1_160], [zAr T 0 a2_165 7 r2f], w2_140, z0_, wg1_] _ _ := G
          refine lv_iconst (v := 1) hx hb dX11_fit_101 (by decide) ?_
          have hw_166 : bFit T fi 1 i1 i2 s3_157 s4_158 s5_159 g1_160 (zFl m1f wy2_142) r2f [zO3 fi 1 i1 i2 s3_157 s4_158 s5_159 a1_164 a2_165, zAr T 0 a1_164 (zFl m1f wy2_142) g1_160, zAr T 0 a2_165 7 r2f] := ⟨a1_164, a2_165, rfl⟩
          have G : zS T A s.heap s [z1_, wg0_, wwB, wt, [zO10 xo t im mk rd po co tr wa wb_ fi cd], [zO3 fi 1 i1 i2 s3_157 s4_158 s5_159 a1_164 a2_165, zAr T 0 a1_164 (zFl m1f wy2_142) g1_160, zAr T 0 a2_165 7 r2f], w2_140, z0_, wg1_] _ _ := G.re rfl
          have G := G.sub (bs' := [[zO10 xo t im mk rd po co tr wa wb_ fi cd], wt, z0_, z1_, wg0_, wg1_, w2_140, wwB, [zO3 fi 1 i1 i2 s3_157 s4_158 s5_159 a1_164 a2_165, zAr T 0 a1_164 (zFl m1f wy2_142) g1_160, zAr T 0 a2_165 7 r2f]]) [4, 3, 7, 0, 1, 8, 6, 2, 5] rfl
          exact z_back hQ9 (z_zret C hr hlocks G (by omega) (by omega) dX11_fit_102 rfl ⟨l0, m2_141, wy2_142, pc2_143, g1_144, g2_145, f3A, g4_146, g5_147, g6_148, (zMk mdA n4A (zPl cr0_ inn0_ k10_)), w2_140, laB, mdB, wyB, pc_B, f1B, f2B, f3B, f4B, f5B, f6B, n4B, wwB, 1, i1, i2, s3_157, s4_158, s5_159, g1_160, (zFl m1f wy2_142), r2f, ([zO3 fi 1 i1 i2 s3_157 s4_158 s5_159 a1_164 a2_165, zAr T 0 a1_164 (zFl m1f wy2_142) g1_160, zAr T 0 a2_165 7 r2f]), rfl, h_150, (Or.inr rfl), hwy9, hNAm.symm, (zMk_pw hpwA), (fun _ => h_153), hwwB, hmdB, hwmB, (zNA_n (by omega)).symm, hpwB, (fun q => q), hw_166, hNF.symm, hfw9, h39, (Or.inr ⟨rfl, by omega, by decide, rfl⟩), (fun _ => Or.inl ⟨by omega, h_153⟩)⟩)
        · have c_139n : e1f.toInt = i1.toInt := (fa_eq _ _).mp c_139
          refine lv_aload_n hx hb dX11_fit_51 rfl (lv_at hl 2 rfl) ?_
          refine z_get C G clX11 0 rfl 9 (by decide) m_fl_RX11_65 rfl dX11_fit_52 ?_
          refine z_get C G clX3 7 rfl 2 (by decide) m_fl_RX11_295 rfl dX11_fit_55 ?_
          refine lv_iload_n hx hb dX11_fit_58 rfl (lv_at hl 4 rfl) ?_
          refine lv_icmp_eq (tgt := 101) hx hb dX11_fit_59 (by decide) (fun c_167 => ?_) (fun c_167 => ?_)
          · have c_167n : e2f.toInt = i2.toInt := (fa_eq _ _).mp c_167
            refine lv_iconst (v := 1) hx hb dX11_fit_101 (by decide) ?_
            have hw_168 : bFit T fi e0f e1f e2f e3f e4f e5f r1f m1f r2f [zO3 fi e0f e1f e2f e3f e4f e5f a1_109 a2_110, zAr T 0 a1_109 m1f r1f, zAr T 0 a2_110 7 r2f] := ⟨a1_109, a2_110, rfl⟩
            have G : zS T A s.heap s [[zO10 xo t im mk rd po co tr wa wb_ fi cd], z0_, z1_, wg0_, wg1_, wwA, wwB, [zO3 fi e0f e1f e2f e3f e4f e5f a1_109 a2_110, zAr T 0 a1_109 m1f r1f, zAr T 0 a2_110 7 r2f], wt] _ _ := G.re rfl
            have G := G.sub (bs' := [[zO10 xo t im mk rd po co tr wa wb_ fi cd], wt, z0_, z1_, wg0_, wg1_, wwA, wwB, [zO3 fi e0f e1f e2f e3f e4f e5f a1_109 a2_110, zAr T 0 a1_109 m1f r1f, zAr T 0 a2_110 7 r2f]]) [0, 8, 1, 2, 3, 4, 5, 6, 7] rfl
            exact z_back hQ9 (z_zret C hr hlocks G (by omega) (by omega) dX11_fit_102 rfl ⟨laA, mdA, wyA, pc_A, f1A, f2A, f3A, f4A, f5A, f6A, n4A, wwA, laB, mdB, wyB, pc_B, f1B, f2B, f3B, f4B, f5B, f6B, n4B, wwB, e0f, e1f, e2f, e3f, e4f, e5f, r1f, m1f, r2f, ([zO3 fi e0f e1f e2f e3f e4f e5f a1_109 a2_110, zAr T 0 a1_109 m1f r1f, zAr T 0 a2_110 7 r2f]), rfl, hwwA, hmdA, hwmA, (zNA_n (by omega)).symm, hpwA, (fun q => q), hwwB, hmdB, hwmB, (zNA_n (by omega)).symm, hpwB, (fun q => q), hw_168, (((zNF_n (c := (i1.toInt = 1 ∧ 1 < (fk 0).toInt ∧ (0 ≤ i2.toInt ∧ i2.toInt < (fk 2).toInt ∧ i2.toInt < 2) ∧ (e0f.toInt = 0 ∨ ¬ e1f.toInt = i1.toInt ∨ ¬ e2f.toInt = i2.toInt))) (by omega)).trans (zNF_n (by omega))).symm), hfw, hf3, (Or.inr ⟨rfl, by omega, (fun q => absurd (congrArg Int32.toInt q) (by show ¬ _ = (0 : Int); omega)), by omega⟩), hFI⟩)
          · have c_167n : ¬ e2f.toInt = i2.toInt := fun q => c_167 ((fa_eq _ _).mpr q)
            refine lv_aload_n hx hb dX11_fit_62 rfl (lv_at hl 2 rfl) ?_
            refine z_get C G clX11 0 rfl 9 (by decide) m_fl_RX11_65 rfl dX11_fit_63 ?_
            refine lv_aload_n hx hb dX11_fit_66 rfl (lv_at hl 2 rfl) ?_
            refine lv_iload_n hx hb dX11_fit_67 rfl (lv_at hl 3 rfl) ?_
            refine lv_aload_n hx hb dX11_fit_68 rfl (lv_at hl 1 rfl) ?_
            have hcF : (i1.toInt = 0 ∧ 0 < (fk 0).toInt ∧ (0 ≤ i2.toInt ∧ i2.toInt < (fk 2).toInt ∧ i2.toInt < 2) ∧ (e0f.toInt = 0 ∨ ¬ e1f.toInt = i1.toInt ∨ ¬ e2f.toInt = i2.toInt)) := by omega
            have hcN : ¬ (i1.toInt = 1 ∧ 1 < (fk 0).toInt ∧ (0 ≤ i2.toInt ∧ i2.toInt < (fk 2).toInt ∧ i2.toInt < 2) ∧ (e0f.toInt = 0 ∨ ¬ e1f.toInt = i1.toInt ∨ ¬ e2f.toInt = i2.toInt)) := by omega
            have hNAm : zNA (i1.toInt = 0 ∧ 0 < (fk 0).toInt ∧ (0 ≤ i2.toInt ∧ i2.toInt < (fk 2).toInt ∧ i2.toInt < 2) ∧ (e0f.toInt = 0 ∨ ¬ e1f.toInt = i1.toInt ∨ ¬ e2f.toInt = i2.toInt)) mdA n4A (zPl cr0_ inn0_ k10_) = zMk mdA n4A (zPl cr0_ inn0_ k10_) := zNA_y hcF
            have hNAo : zNA (i1.toInt = 1 ∧ 1 < (fk 0).toInt ∧ (0 ≤ i2.toInt ∧ i2.toInt < (fk 2).toInt ∧ i2.toInt < 2) ∧ (e0f.toInt = 0 ∨ ¬ e1f.toInt = i1.toInt ∨ ¬ e2f.toInt = i2.toInt)) mdB n4B (zPl cr1_ inn1_ k11_) = n4B := zNA_n hcN
            have hn9 : zMk mdA n4A (zPl cr0_ inn0_ k10_) ≤ 131072 := zPw_le (zMk_pw hpwA)
            refine z_Vq (bc := [[zO10 xo t im mk rd po co tr wa wb_ fi cd], wwA, z0_]) (br := [z1_, wg0_, wg1_, wwB, [zO3 fi e0f e1f e2f e3f e4f e5f a1_109 a2_110], [zAr T 0 a1_109 m1f r1f], [zAr T 0 a2_110 7 r2f], wt]) (As := [.int i1, .ref l0]) (rest := [.ref fi]) C G (c_waysInA l T xo t im mk rd po co tr wa wb_ fi cd i1 laA mdA wyA pc_A f1A f2A f3A f4A f5A f6A n4A wwA l0 cr0_ inn0_ k10_ k20_ k30_ k40_ z0_ hwwA hz0_ hI0_ hpwA hmdA hwmA (by omega)) (kV_RX11_235 C.2.2.2.2 (Nat.le_of_ble_eq_true rfl) (Nat.le_of_ble_eq_true rfl)) [0, 5, 1] [0, 0, 3] rfl rfl (ci := 10) (qc := (RX11, TX11, 11)) rfl rfl (List.mem_flatten.mpr ⟨_, List.mem_of_getElem? (i := 0) rfl, List.mem_cons_self⟩) rfl rfl hl.1 dX11_fit_69 (by show _ + 3 ≤ 4; omega) (by show _ + (6 * (zMk mdA n4A (zPl cr0_ inn0_ k10_) - n4A)) ≤ 6 * (zNA (i1.toInt = 0 ∧ 0 < (fk 0).toInt ∧ (0 ≤ i2.toInt ∧ i2.toInt < (fk 2).toInt ∧ i2.toInt < 2) ∧ (e0f.toInt = 0 ∨ ¬ e1f.toInt = i1.toInt ∨ ¬ e2f.toInt = i2.toInt)) mdA n4A (zPl cr0_ inn0_ k10_) - n4A) + 6 * (zNA (i1.toInt = 1 ∧ 1 < (fk 0).toInt ∧ (0 ≤ i2.toInt ∧ i2.toInt < (fk 2).toInt ∧ i2.toInt < 2) ∧ (e0f.toInt = 0 ∨ ¬ e1f.toInt = i1.toInt ∨ ¬ e2f.toInt = i2.toInt)) mdB n4B (zPl cr1_ inn1_ k11_) - n4B) + 2 * (zNF (i1.toInt = 1 ∧ 1 < (fk 0).toInt ∧ (0 ≤ i2.toInt ∧ i2.toInt < (fk 2).toInt ∧ i2.toInt < 2) ∧ (e0f.toInt = 0 ∨ ¬ e1f.toInt = i1.toInt ∨ ¬ e2f.toInt = i2.toInt)) (zNF (i1.toInt = 0 ∧ 0 < (fk 0).toInt ∧ (0 ≤ i2.toInt ∧ i2.toInt < (fk 2).toInt ∧ i2.toInt < 2) ∧ (e0f.toInt = 0 ∨ ¬ e1f.toInt = i1.toInt ∨ ¬ e2f.toInt = i2.toInt)) m1f (zMw mdA wyA cr0_ inn0_ k10_)) (zMw mdB wyB cr1_ inn1_ k11_) - m1f); omega) (fun r_183 b1 H locs hw G => ?_)
            refine zEx9 hw ?_
            intro w2_169 m2_170 wy2_171 pc2_172 g1_173 g2_174 g4_175 g5_176 g6_177
            refine zCu6 ?_
            intro hbs9 h_178 h_179 h_180 h_181 h_182
            clear hw
            subst hbs9
            have G : zS T A s.heap s [z1_, wg0_, wg1_, wwB, [zO3 fi e0f e1f e2f e3f e4f e5f a1_109 a2_110], [zAr T 0 a1_109 m1f r1f], [zAr T 0 a2_110 7 r2f], wt, [zO10 xo t im mk rd po co tr wa wb_ fi cd], w2_169, z0_] _ _ := G
            subst h_178
            have hwy9 := h_180
            have hNF : zNF (i1.toInt = 1 ∧ 1 < (fk 0).toInt ∧ (0 ≤ i2.toInt ∧ i2.toInt < (fk 2).toInt ∧ i2.toInt < 2) ∧ (e0f.toInt = 0 ∨ ¬ e1f.toInt = i1.toInt ∨ ¬ e2f.toInt = i2.toInt)) (zNF (i1.toInt = 0 ∧ 0 < (fk 0).toInt ∧ (0 ≤ i2.toInt ∧ i2.toInt < (fk 2).toInt ∧ i2.toInt < 2) ∧ (e0f.toInt = 0 ∨ ¬ e1f.toInt = i1.toInt ∨ ¬ e2f.toInt = i2.toInt)) m1f (zMw mdA wyA cr0_ inn0_ k10_)) (zMw mdB wyB cr1_ inn1_ k11_) = zFl m1f wy2_171 := by rw [zNF_n (c := (i1.toInt = 1 ∧ 1 < (fk 0).toInt ∧ (0 ≤ i2.toInt ∧ i2.toInt < (fk 2).toInt ∧ i2.toInt < 2) ∧ (e0f.toInt = 0 ∨ ¬ e1f.toInt = i1.toInt ∨ ¬ e2f.toInt = i2.toInt))) hcN, zNF_y hcF, h_181]
            have hfw9 := zFl_pw (wy := wy2_171) hfw
            refine lv_aload hx hb dX11_fit_72 (lv_at hl 0 rfl) ?_
            have hw_184 : bFit T fi e0f e1f e2f e3f e4f e5f r1f m1f r2f [zO3 fi e0f e1f e2f e3f e4f e5f a1_109 a2_110, zAr T 0 a1_109 m1f r1f, zAr T 0 a2_110 7 r2f] := ⟨a1_109, a2_110, rfl⟩
            have G : zS T A s.heap s [z1_, wg0_, wg1_, wwB, [zO3 fi e0f e1f e2f e3f e4f e5f a1_109 a2_110, zAr T 0 a1_109 m1f r1f, zAr T 0 a2_110 7 r2f], wt, [zO10 xo t im mk rd po co tr wa wb_ fi cd], w2_169, z0_] _ _ := G.re rfl
            refine z_Vv (bc := [[zO3 fi e0f e1f e2f e3f e4f e5f a1_109 a2_110, zAr T 0 a1_109 m1f r1f, zAr T 0 a2_110 7 r2f], w2_169, z0_, wg1_]) (br := [z1_, wg0_, wwB, wt, [zO10 xo t im mk rd po co tr wa wb_ fi cd]]) (As := [.ref wa, .ref g1]) (rest := []) C G (c_find l T fi e0f e1f e2f e3f e4f e5f r1f m1f r2f ([zO3 fi e0f e1f e2f e3f e4f e5f a1_109 a2_110, zAr T 0 a1_109 m1f r1f, zAr T 0 a2_110 7 r2f]) wa l0 m2_170 wy2_171 pc2_172 g1_173 g2_174 f3A g4_175 g5_176 g6_177 (zMk mdA n4A (zPl cr0_ inn0_ k10_)) w2_169 cr0_ inn0_ k10_ k20_ k30_ k40_ z0_ g1 gg1_ q11_ q21_ wg1_ hw_184 h_179 hz0_ hg1_ hn9 hfw hwy9) (kV_RX11_298 C.2.2.2.2 (Nat.le_of_ble_eq_true rfl) (Nat.le_of_ble_eq_true rfl)) [4, 7, 8, 2] [2, 1, 2, 0] rfl rfl (ci := 3) (qc := (RX3, TX3, 8)) rfl rfl (List.mem_flatten.mpr ⟨_, List.mem_of_getElem? (i := 0) rfl, (bFit_mem hw_184).choose_spec⟩) rfl rfl hl.1 dX11_fit_74 (by show _ + 1 ≤ 4; omega) (by show _ + (2 * (zFl m1f wy2_171 - m1f)) ≤ 6 * (zNA (i1.toInt = 0 ∧ 0 < (fk 0).toInt ∧ (0 ≤ i2.toInt ∧ i2.toInt < (fk 2).toInt ∧ i2.toInt < 2) ∧ (e0f.toInt = 0 ∨ ¬ e1f.toInt = i1.toInt ∨ ¬ e2f.toInt = i2.toInt)) mdA n4A (zPl cr0_ inn0_ k10_) - n4A) + 6 * (zNA (i1.toInt = 1 ∧ 1 < (fk 0).toInt ∧ (0 ≤ i2.toInt ∧ i2.toInt < (fk 2).toInt ∧ i2.toInt < 2) ∧ (e0f.toInt = 0 ∨ ¬ e1f.toInt = i1.toInt ∨ ¬ e2f.toInt = i2.toInt)) mdB n4B (zPl cr1_ inn1_ k11_) - n4B) + 2 * (zNF (i1.toInt = 1 ∧ 1 < (fk 0).toInt ∧ (0 ≤ i2.toInt ∧ i2.toInt < (fk 2).toInt ∧ i2.toInt < 2) ∧ (e0f.toInt = 0 ∨ ¬ e1f.toInt = i1.toInt ∨ ¬ e2f.toInt = i2.toInt)) (zNF (i1.toInt = 0 ∧ 0 < (fk 0).toInt ∧ (0 ≤ i2.toInt ∧ i2.toInt < (fk 2).toInt ∧ i2.toInt < 2) ∧ (e0f.toInt = 0 ∨ ¬ e1f.toInt = i1.toInt ∨ ¬ e2f.toInt = i2.toInt)) m1f (zMw mdA wyA cr0_ inn0_ k10_)) (zMw mdB wyB cr1_ inn1_ k11_) - m1f); omega) (fun b1 H locs hw G => ?_)
            refine zEx5 hw ?_
            intro w2_185 s3_186 s4_187 s5_188 g1_189
            refine zCu3 ?_
            intro hbs9 h_190 h_191
            clear hw
            subst hbs9
            have G : zS T A s.heap s [z1_, wg0_, wwB, wt, [zO10 xo t im mk rd po co tr wa wb_ fi cd], w2_185, w2_169, z0_, wg1_] _ _ := G
            have h39 := h_191
            refine lv_aload_n hx hb dX11_fit_77 rfl (lv_at hl 2 rfl) ?_
            refine z_get C G clX11 4 rfl 9 (by decide) m_fl_RX11_65 rfl dX11_fit_78 ?_
            refine lv_iload_n hx hb dX11_fit_81 rfl (lv_at hl 3 rfl) ?_
            refine zEx2 h_190 ?_
            intro a1_193 a2_194 hbs9
            clear h_190
            subst hbs9
            have G : zS T A s.heap s [z1_, wg0_, wwB, wt, [zO10 xo t im mk rd po co tr wa wb_ fi cd], [zO3 fi e0f e1f e2f s3_186 s4_187 s5_188 a1_193 a2_194], [zAr T 0 a1_193 (zFl m1f wy2_171) g1_189], [zAr T 0 a2_194 7 r2f], w2_169, z0_, wg1_] _ _ := G.re rfl
            refine z_put C G clX3 5 rfl 1 (by decide) m_fl_RX11_292 rfl rfl rfl (Nat.le_of_ble_eq_true rfl) dX11_fit_82 (fun H locs G => ?_)
            have G : zS T A s.heap s [z1_, wg0_, wwB, wt, [zO10 xo t im mk rd po co tr wa wb_ fi cd], [zO3 fi e0f i1 e2f s3_186 s4_187 s5_188 a1_193 a2_194], [zAr T 0 a1_193 (zFl m1f wy2_171) g1_189], [zAr T 0 a2_194 7 r2f], w2_169, z0_, wg1_] _ _ := G
            refine lv_aload_n hx hb dX11_fit_85 rfl (lv_at hl 2 rfl) ?_
            refine z_get C G clX11 4 rfl 9 (by decide) m_fl_RX11_65 rfl dX11_fit_86 ?_
            refine lv_iload_n hx hb dX11_fit_89 rfl (lv_at hl 4 rfl) ?_
            refine z_put C G clX3 5 rfl 2 (by decide) m_fl_RX11_295 rfl rfl rfl (Nat.le_of_ble_eq_true rfl) dX11_fit_90 (fun H locs G => ?_)
            have G : zS T A s.heap s [z1_, wg0_, wwB, wt, [zO10 xo t im mk rd po co tr wa wb_ fi cd], [zO3 fi e0f i1 i2 s3_186 s4_187 s5_188 a1_193 a2_194], [zAr T 0 a1_193 (zFl m1f wy2_171) g1_189], [zAr T 0 a2_194 7 r2f], w2_169, z0_, wg1_] _ _ := G
            refine lv_aload_n hx hb dX11_fit_93 rfl (lv_at hl 2 rfl) ?_
            refine z_get C G clX11 4 rfl 9 (by decide) m_fl_RX11_65 rfl dX11_fit_94 ?_
            refine lv_iconst (v := 1) hx hb dX11_fit_97 (by decide) ?_
            refine z_put C G clX3 5 rfl 0 (by decide) m_fl_RX11_109 rfl rfl rfl (Nat.le_of_ble_eq_true rfl) dX11_fit_98 (fun H locs G => ?_)
            have G : zS T A s.heap s [z1_, wg0_, wwB, wt, [zO10 xo t im mk rd po co tr wa wb_ fi cd], [zO3 fi 1 i1 i2 s3_186 s4_187 s5_188 a1_193 a2_194], [zAr T 0 a1_193 (zFl m1f wy2_171) g1_189], [zAr T 0 a2_194 7 r2f], w2_169, z0_, wg1_] _ _ := G
            refine lv_iconst (v := 1) hx hb dX11_fit_101 (by decide) ?_
            have hw_195 : bFit T fi 1 i1 i2 s3_186 s4_187 s5_188 g1_189 (zFl m1f wy2_171) r2f [zO3 fi 1 i1 i2 s3_186 s4_187 s5_188 a1_193 a2_194, zAr T 0 a1_193 (zFl m1f wy2_171) g1_189, zAr T 0 a2_194 7 r2f] := ⟨a1_193, a2_194, rfl⟩
            have G : zS T A s.heap s [z1_, wg0_, wwB, wt, [zO10 xo t im mk rd po co tr wa wb_ fi cd], [zO3 fi 1 i1 i2 s3_186 s4_187 s5_188 a1_193 a2_194, zAr T 0 a1_193 (zFl m1f wy2_171) g1_189, zAr T 0 a2_194 7 r2f], w2_169, z0_, wg1_] _ _ := G.re rfl
            have G := G.sub (bs' := [[zO10 xo t im mk rd po co tr wa wb_ fi cd], wt, z0_, z1_, wg0_, wg1_, w2_169, wwB, [zO3 fi 1 i1 i2 s3_186 s4_187 s5_188 a1_193 a2_194, zAr T 0 a1_193 (zFl m1f wy2_171) g1_189, zAr T 0 a2_194 7 r2f]]) [4, 3, 7, 0, 1, 8, 6, 2, 5] rfl
            exact z_back hQ9 (z_zret C hr hlocks G (by omega) (by omega) dX11_fit_102 rfl ⟨l0, m2_170, wy2_171, pc2_172, g1_173, g2_174, f3A, g4_175, g5_176, g6_177, (zMk mdA n4A (zPl cr0_ inn0_ k10_)), w2_169, laB, mdB, wyB, pc_B, f1B, f2B, f3B, f4B, f5B, f6B, n4B, wwB, 1, i1, i2, s3_186, s4_187, s5_188, g1_189, (zFl m1f wy2_171), r2f, ([zO3 fi 1 i1 i2 s3_186 s4_187 s5_188 a1_193 a2_194, zAr T 0 a1_193 (zFl m1f wy2_171) g1_189, zAr T 0 a2_194 7 r2f]), rfl, h_179, (Or.inr rfl), hwy9, hNAm.symm, (zMk_pw hpwA), (fun _ => h_182), hwwB, hmdB, hwmB, (zNA_n (by omega)).symm, hpwB, (fun q => q), hw_195, hNF.symm, hfw9, h39, (Or.inr ⟨rfl, by omega, by decide, rfl⟩), (fun _ => Or.inl ⟨by omega, h_182⟩)⟩)
  · have h_6 : i1.toInt = 1 := h_6
    have h_7 : 1 < (fk 0).toInt := h_7
    refine lv_astore_n (lv' := [(3, .ref l1), (0, .ref xo), (1, .int i1), (2, .int i2)]) hx hb dX11_fit_8 rfl hl (by decide) rfl (fun ls hl => ?_)
    refine lv_aload_n hx hb dX11_fit_9 rfl (lv_at hl 1 rfl) ?_
    refine z_get C G clX11 0 rfl 0 (by decide) m_fl_RX11_10 rfl dX11_fit_10 ?_
    refine lv_iload_n hx hb dX11_fit_13 rfl (lv_at hl 3 rfl) ?_
    refine z_Vq (bc := [wt]) (br := [[zO10 xo t im mk rd po co tr wa wb_ fi cd], z0_, z1_, wg0_, wg1_, wwA, wwB, wff]) (As := [.int i2]) (rest := []) C G (c_logAt l T t l0 l1 d0 d1 g0 g1 ln fl pl ft fk wt i2 ht) (kV_RX11_138 C.2.2.2.2 (Nat.le_of_ble_eq_true rfl) (Nat.le_of_ble_eq_true rfl)) [8] [8] rfl rfl (ci := 8) (qc := (RX9, TX9, 8)) rfl rfl (List.mem_flatten.mpr ⟨_, List.mem_of_getElem? (i := 0) rfl, (bTold_mem ht).choose_spec⟩) rfl rfl hl.1 dX11_fit_14 (by show _ + 0 ≤ 4; omega) (by show _ + 0 ≤ 6 * (zNA (i1.toInt = 0 ∧ 0 < (fk 0).toInt ∧ (0 ≤ i2.toInt ∧ i2.toInt < (fk 2).toInt ∧ i2.toInt < 2) ∧ (e0f.toInt = 0 ∨ ¬ e1f.toInt = i1.toInt ∨ ¬ e2f.toInt = i2.toInt)) mdA n4A (zPl cr0_ inn0_ k10_) - n4A) + 6 * (zNA (i1.toInt = 1 ∧ 1 < (fk 0).toInt ∧ (0 ≤ i2.toInt ∧ i2.toInt < (fk 2).toInt ∧ i2.toInt < 2) ∧ (e0f.toInt = 0 ∨ ¬ e1f.toInt = i1.toInt ∨ ¬ e2f.toInt = i2.toInt)) mdB n4B (zPl cr1_ inn1_ k11_) - n4B) + 2 * (zNF (i1.toInt = 1 ∧ 1 < (fk 0).toInt ∧ (0 ≤ i2.toInt ∧ i2.toInt < (fk 2).toInt ∧ i2.toInt < 2) ∧ (e0f.toInt = 0 ∨ ¬ e1f.toInt = i1.toInt ∨ ¬ e2f.toInt = i2.toInt)) (zNF (i1.toInt = 0 ∧ 0 < (fk 0).toInt ∧ (0 ≤ i2.toInt ∧ i2.toInt < (fk 2).toInt ∧ i2.toInt < 2) ∧ (e0f.toInt = 0 ∨ ¬ e1f.toInt = i1.toInt ∨ ¬ e2f.toInt = i2.toInt)) m1f (zMw mdA wyA cr0_ inn0_ k10_)) (zMw mdB wyB cr1_ inn1_ k11_) - m1f); omega) (fun r_197 b1 H locs hw G => ?_)
    refine zAn2 hw ?_
    intro hbs9 hc_196
    clear hw
    subst hbs9
    have G : zS T A s.heap s [[zO10 xo t im mk rd po co tr wa wb_ fi cd], z0_, z1_, wg0_, wg1_, wwA, wwB, wff, wt] _ _ := G
    rcases hc_196 with ⟨rfl, h_198⟩ | ⟨rfl, h_199, h_200⟩ | ⟨rfl, h_201, h_202⟩
    · have h_198 : (i2.toInt < 0 ∨ (fk 2).toInt ≤ i2.toInt ∨ 2 ≤ i2.toInt) := h_198
      refine lv_astoreN (lv' := [(4, .null), (3, .ref l1), (0, .ref xo), (1, .int i1), (2, .int i2)]) hx hb dX11_fit_17 hl (by decide) rfl (fun ls hl => ?_)
      refine lv_aload_n hx hb dX11_fit_19 rfl (lv_at hl 1 rfl) ?_
      refine lv_ifnull hx hb dX11_fit_20 ?_
      refine lv_aloadN hx hb dX11_fit_23 (lv_at hl 0 rfl) ?_
      refine lv_ifnonnullN hx hb dX11_fit_25 ?_
      refine lv_iconst (v := 0) hx hb dX11_fit_28 (by decide) ?_
      have G := G.sub (bs' := [[zO10 xo t im mk rd po co tr wa wb_ fi cd], wt, z0_, z1_, wg0_, wg1_, wwA, wwB, wff]) [0, 8, 1, 2, 3, 4, 5, 6, 7] rfl
      exact z_back hQ9 (z_zret C hr hlocks G (by omega) (by omega) dX11_fit_29 rfl ⟨laA, mdA, wyA, pc_A, f1A, f2A, f3A, f4A, f5A, f6A, n4A, wwA, laB, mdB, wyB, pc_B, f1B, f2B, f3B, f4B, f5B, f6B, n4B, wwB, e0f, e1f, e2f, e3f, e4f, e5f, r1f, m1f, r2f, wff, rfl, hwwA, hmdA, hwmA, (zNA_n (by omega)).symm, hpwA, (fun q => q), hwwB, hmdB, hwmB, (zNA_n (by omega)).symm, hpwB, (fun q => q), hwff, (((zNF_n (c := (i1.toInt = 1 ∧ 1 < (fk 0).toInt ∧ (0 ≤ i2.toInt ∧ i2.toInt < (fk 2).toInt ∧ i2.toInt < 2) ∧ (e0f.toInt = 0 ∨ ¬ e1f.toInt = i1.toInt ∨ ¬ e2f.toInt = i2.toInt))) (by omega)).trans (zNF_n (by omega))).symm), hfw, hf3, (Or.inl ⟨rfl, by omega⟩), hFI⟩)
    · have h_199 : i2.toInt = 0 := h_199
      have h_200 : 0 < (fk 2).toInt := h_200
      refine lv_astore (lv' := [(4, .ref g0), (3, .ref l1), (0, .ref xo), (1, .int i1), (2, .int i2)]) hx hb dX11_fit_17 hl (by decide) rfl (fun ls hl => ?_)
      refine lv_aload_n hx hb dX11_fit_19 rfl (lv_at hl 1 rfl) ?_
      refine lv_ifnull hx hb dX11_fit_20 ?_
      refine lv_aload hx hb dX11_fit_23 (lv_at hl 0 rfl) ?_
      refine lv_ifnonnull (tgt := 30) hx hb dX11_fit_25 (by decide) ?_
      refine lv_aload_n hx hb dX11_fit_30 rfl (lv_at hl 2 rfl) ?_
      refine z_get C G clX11 0 rfl 9 (by decide) m_fl_RX11_65 rfl dX11_fit_31 ?_
      refine zEx2 hwff ?_
      intro a1_203 a2_204 hbs9
      clear hwff
      subst hbs9
      have G : zS T A s.heap s [[zO10 xo t im mk rd po co tr wa wb_ fi cd], z0_, z1_, wg0_, wg1_, wwA, wwB, [zO3 fi e0f e1f e2f e3f e4f e5f a1_203 a2_204], [zAr T 0 a1_203 m1f r1f], [zAr T 0 a2_204 7 r2f], wt] _ _ := G.re rfl
      refine z_get C G clX3 7 rfl 0 (by decide) m_fl_RX11_109 rfl dX11_fit_34 ?_
      refine lv_if_eq (tgt := 62) hx hb dX11_fit_37 (by decide) (fun c_205 => ?_) (fun c_205 => ?_)
      · have c_205n : e0f.toInt = (0 : Int) := (fa_eq _ _).mp c_205
        refine lv_aload_n hx hb dX11_fit_62 rfl (lv_at hl 2 rfl) ?_
        refine z_get C G clX11 0 rfl 9 (by decide) m_fl_RX11_65 rfl dX11_fit_63 ?_
        refine lv_aload_n hx hb dX11_fit_66 rfl (lv_at hl 2 rfl) ?_
        refine lv_iload_n hx hb dX11_fit_67 rfl (lv_at hl 3 rfl) ?_
        refine lv_aload_n hx hb dX11_fit_68 rfl (lv_at hl 1 rfl) ?_
        have hcF : (i1.toInt = 1 ∧ 1 < (fk 0).toInt ∧ (0 ≤ i2.toInt ∧ i2.toInt < (fk 2).toInt ∧ i2.toInt < 2) ∧ (e0f.toInt = 0 ∨ ¬ e1f.toInt = i1.toInt ∨ ¬ e2f.toInt = i2.toInt)) := by omega
        have hcN : ¬ (i1.toInt = 0 ∧ 0 < (fk 0).toInt ∧ (0 ≤ i2.toInt ∧ i2.toInt < (fk 2).toInt ∧ i2.toInt < 2) ∧ (e0f.toInt = 0 ∨ ¬ e1f.toInt = i1.toInt ∨ ¬ e2f.toInt = i2.toInt)) := by omega
        have hNAm : zNA (i1.toInt = 1 ∧ 1 < (fk 0).toInt ∧ (0 ≤ i2.toInt ∧ i2.toInt < (fk 2).toInt ∧ i2.toInt < 2) ∧ (e0f.toInt = 0 ∨ ¬ e1f.toInt = i1.toInt ∨ ¬ e2f.toInt = i2.toInt)) mdB n4B (zPl cr1_ inn1_ k11_) = zMk mdB n4B (zPl cr1_ inn1_ k11_) := zNA_y hcF
        have hNAo : zNA (i1.toInt = 0 ∧ 0 < (fk 0).toInt ∧ (0 ≤ i2.toInt ∧ i2.toInt < (fk 2).toInt ∧ i2.toInt < 2) ∧ (e0f.toInt = 0 ∨ ¬ e1f.toInt = i1.toInt ∨ ¬ e2f.toInt = i2.toInt)) mdA n4A (zPl cr0_ inn0_ k10_) = n4A := zNA_n hcN
        have hn9 : zMk mdB n4B (zPl cr1_ inn1_ k11_) ≤ 131072 := zPw_le (zMk_pw hpwB)
        refine z_Vq (bc := [[zO10 xo t im mk rd po co tr wa wb_ fi cd], wwB, z1_]) (br := [z0_, wg0_, wg1_, wwA, [zO3 fi e0f e1f e2f e3f e4f e5f a1_203 a2_204], [zAr T 0 a1_203 m1f r1f], [zAr T 0 a2_204 7 r2f], wt]) (As := [.int i1, .ref l1]) (rest := [.ref fi]) C G (c_waysInB l T xo t im mk rd po co tr wa wb_ fi cd i1 laB mdB wyB pc_B f1B f2B f3B f4B f5B f6B n4B wwB l1 cr1_ inn1_ k11_ k21_ k31_ k41_ z1_ hwwB hz1_ hI1_ hpwB hmdB hwmB (by omega)) (kV_RX11_235 C.2.2.2.2 (Nat.le_of_ble_eq_true rfl) (Nat.le_of_ble_eq_true rfl)) [0, 6, 2] [0, 1, 3] rfl rfl (ci := 10) (qc := (RX11, TX11, 11)) rfl rfl (List.mem_flatten.mpr ⟨_, List.mem_of_getElem? (i := 0) rfl, List.mem_cons_self⟩) rfl rfl hl.1 dX11_fit_69 (by show _ + 3 ≤ 4; omega) (by show _ + (6 * (zMk mdB n4B (zPl cr1_ inn1_ k11_) - n4B)) ≤ 6 * (zNA (i1.toInt = 0 ∧ 0 < (fk 0).toInt ∧ (0 ≤ i2.toInt ∧ i2.toInt < (fk 2).toInt ∧ i2.toInt < 2) ∧ (e0f.toInt = 0 ∨ ¬ e1f.toInt = i1.toInt ∨ ¬ e2f.toInt = i2.toInt)) mdA n4A (zPl cr0_ inn0_ k10_) - n4A) + 6 * (zNA (i1.toInt = 1 ∧ 1 < (fk 0).toInt ∧ (0 ≤ i2.toInt ∧ i2.toInt < (fk 2).toInt ∧ i2.toInt < 2) ∧ (e0f.toInt = 0 ∨ ¬ e1f.toInt = i1.toInt ∨ ¬ e2f.toInt = i2.toInt)) mdB n4B (zPl cr1_ inn1_ k11_) - n4B) + 2 * (zNF (i1.toInt = 1 ∧ 1 < (fk 0).toInt ∧ (0 ≤ i2.toInt ∧ i2.toInt < (fk 2).toInt ∧ i2.toInt < 2) ∧ (e0f.toInt = 0 ∨ ¬ e1f.toInt = i1.toInt ∨ ¬ e2f.toInt = i2.toInt)) (zNF (i1.toInt = 0 ∧ 0 < (fk 0).toInt ∧ (0 ≤ i2.toInt ∧ i2.toInt < (fk 2).toInt ∧ i2.toInt < 2) ∧ (e0f.toInt = 0 ∨ ¬ e1f.toInt = i1.toInt ∨ ¬ e2f.toInt = i2.toInt)) m1f (zMw mdA wyA cr0_ inn0_ k10_)) (zMw mdB wyB cr1_ inn1_ k11_) - m1f); omega) (fun r_220 b1 H locs hw G => ?_)
        refine zEx9 hw ?_
        intro w2_206 m2_207 wy2_208 pc2_209 g1_210 g2_211 g4_212 g5_213 g6_214
        refine zCu6 ?_
        intro hbs9 h_215 h_216 h_217 h_218 h_219
        clear hw
        subst hbs9
        have G : zS T A s.heap s [z0_, wg0_, wg1_, wwA, [zO3 fi e0f e1f e2f e3f e4f e5f a1_203 a2_204], [zAr T 0 a1_203 m1f r1f], [zAr T 0 a2_204 7 r2f], wt, [zO10 xo t im mk rd po co tr wa wb_ fi cd], w2_206, z1_] _ _ := G
        subst h_215
        have hwy9 := h_217
        have hNF : zNF (i1.toInt = 1 ∧ 1 < (fk 0).toInt ∧ (0 ≤ i2.toInt ∧ i2.toInt < (fk 2).toInt ∧ i2.toInt < 2) ∧ (e0f.toInt = 0 ∨ ¬ e1f.toInt = i1.toInt ∨ ¬ e2f.toInt = i2.toInt)) (zNF (i1.toInt = 0 ∧ 0 < (fk 0).toInt ∧ (0 ≤ i2.toInt ∧ i2.toInt < (fk 2).toInt ∧ i2.toInt < 2) ∧ (e0f.toInt = 0 ∨ ¬ e1f.toInt = i1.toInt ∨ ¬ e2f.toInt = i2.toInt)) m1f (zMw mdA wyA cr0_ inn0_ k10_)) (zMw mdB wyB cr1_ inn1_ k11_) = zFl m1f wy2_208 := by rw [zNF_y (c := (i1.toInt = 1 ∧ 1 < (fk 0).toInt ∧ (0 ≤ i2.toInt ∧ i2.toInt < (fk 2).toInt ∧ i2.toInt < 2) ∧ (e0f.toInt = 0 ∨ ¬ e1f.toInt = i1.toInt ∨ ¬ e2f.toInt = i2.toInt))) hcF, zNF_n (c := (i1.toInt = 0 ∧ 0 < (fk 0).toInt ∧ (0 ≤ i2.toInt ∧ i2.toInt < (fk 2).toInt ∧ i2.toInt < 2) ∧ (e0f.toInt = 0 ∨ ¬ e1f.toInt = i1.toInt ∨ ¬ e2f.toInt = i2.toInt))) hcN, h_218]
        have hfw9 := zFl_pw (wy := wy2_208) hfw
        refine lv_aload hx hb dX11_fit_72 (lv_at hl 0 rfl) ?_
        have hw_221 : bFit T fi e0f e1f e2f e3f e4f e5f r1f m1f r2f [zO3 fi e0f e1f e2f e3f e4f e5f a1_203 a2_204, zAr T 0 a1_203 m1f r1f, zAr T 0 a2_204 7 r2f] := ⟨a1_203, a2_204, rfl⟩
        have G : zS T A s.heap s [z0_, wg0_, wg1_, wwA, [zO3 fi e0f e1f e2f e3f e4f e5f a1_203 a2_204, zAr T 0 a1_203 m1f r1f, zAr T 0 a2_204 7 r2f], wt, [zO10 xo t im mk rd po co tr wa wb_ fi cd], w2_206, z1_] _ _ := G.re rfl
        refine z_Vv (bc := [[zO3 fi e0f e1f e2f e3f e4f e5f a1_203 a2_204, zAr T 0 a1_203 m1f r1f, zAr T 0 a2_204 7 r2f], w2_206, z1_, wg0_]) (br := [z0_, wg1_, wwA, wt, [zO10 xo t im mk rd po co tr wa wb_ fi cd]]) (As := [.ref wb_, .ref g0]) (rest := []) C G (c_find l T fi e0f e1f e2f e3f e4f e5f r1f m1f r2f ([zO3 fi e0f e1f e2f e3f e4f e5f a1_203 a2_204, zAr T 0 a1_203 m1f r1f, zAr T 0 a2_204 7 r2f]) wb_ l1 m2_207 wy2_208 pc2_209 g1_210 g2_211 f3B g4_212 g5_213 g6_214 (zMk mdB n4B (zPl cr1_ inn1_ k11_)) w2_206 cr1_ inn1_ k11_ k21_ k31_ k41_ z1_ g0 gg0_ q10_ q20_ wg0_ hw_221 h_216 hz1_ hg0_ hn9 hfw hwy9) (kV_RX11_298 C.2.2.2.2 (Nat.le_of_ble_eq_true rfl) (Nat.le_of_ble_eq_true rfl)) [4, 7, 8, 1] [1, 2, 2, 0] rfl rfl (ci := 3) (qc := (RX3, TX3, 8)) rfl rfl (List.mem_flatten.mpr ⟨_, List.mem_of_getElem? (i := 0) rfl, (bFit_mem hw_221).choose_spec⟩) rfl rfl hl.1 dX11_fit_74 (by show _ + 1 ≤ 4; omega) (by show _ + (2 * (zFl m1f wy2_208 - m1f)) ≤ 6 * (zNA (i1.toInt = 0 ∧ 0 < (fk 0).toInt ∧ (0 ≤ i2.toInt ∧ i2.toInt < (fk 2).toInt ∧ i2.toInt < 2) ∧ (e0f.toInt = 0 ∨ ¬ e1f.toInt = i1.toInt ∨ ¬ e2f.toInt = i2.toInt)) mdA n4A (zPl cr0_ inn0_ k10_) - n4A) + 6 * (zNA (i1.toInt = 1 ∧ 1 < (fk 0).toInt ∧ (0 ≤ i2.toInt ∧ i2.toInt < (fk 2).toInt ∧ i2.toInt < 2) ∧ (e0f.toInt = 0 ∨ ¬ e1f.toInt = i1.toInt ∨ ¬ e2f.toInt = i2.toInt)) mdB n4B (zPl cr1_ inn1_ k11_) - n4B) + 2 * (zNF (i1.toInt = 1 ∧ 1 < (fk 0).toInt ∧ (0 ≤ i2.toInt ∧ i2.toInt < (fk 2).toInt ∧ i2.toInt < 2) ∧ (e0f.toInt = 0 ∨ ¬ e1f.toInt = i1.toInt ∨ ¬ e2f.toInt = i2.toInt)) (zNF (i1.toInt = 0 ∧ 0 < (fk 0).toInt ∧ (0 ≤ i2.toInt ∧ i2.toInt < (fk 2).toInt ∧ i2.toInt < 2) ∧ (e0f.toInt = 0 ∨ ¬ e1f.toInt = i1.toInt ∨ ¬ e2f.toInt = i2.toInt)) m1f (zMw mdA wyA cr0_ inn0_ k10_)) (zMw mdB wyB cr1_ inn1_ k11_) - m1f); omega) (fun b1 H locs hw G => ?_)
        refine zEx5 hw ?_
        intro w2_222 s3_223 s4_224 s5_225 g1_226
        refine zCu3 ?_
        intro hbs9 h_227 h_228
        clear hw
        subst hbs9
        have G : zS T A s.heap s [z0_, wg1_, wwA, wt, [zO10 xo t im mk rd po co tr wa wb_ fi cd], w2_222, w2_206, z1_, wg0_] _ _ := G
        have h39 := h_228
        refine lv_aload_n hx hb dX11_fit_77 rfl (lv_at hl 2 rfl) ?_
        refine z_get C G clX11 4 rfl 9 (by decide) m_fl_RX11_65 rfl dX11_fit_78 ?_
        refine lv_iload_n hx hb dX11_fit_81 rfl (lv_at hl 3 rfl) ?_
        refine zEx2 h_227 ?_
        intro a1_230 a2_231 hbs9
        clear h_227
        subst hbs9
        have G : zS T A s.heap s [z0_, wg1_, wwA, wt, [zO10 xo t im mk rd po co tr wa wb_ fi cd], [zO3 fi e0f e1f e2f s3_223 s4_224 s5_225 a1_230 a2_231], [zAr T 0 a1_230 (zFl m1f wy2_208) g1_226], [zAr T 0 a2_231 7 r2f], w2_206, z1_, wg0_] _ _ := G.re rfl
        refine z_put C G clX3 5 rfl 1 (by decide) m_fl_RX11_292 rfl rfl rfl (Nat.le_of_ble_eq_true rfl) dX11_fit_82 (fun H locs G => ?_)
        have G : zS T A s.heap s [z0_, wg1_, wwA, wt, [zO10 xo t im mk rd po co tr wa wb_ fi cd], [zO3 fi e0f i1 e2f s3_223 s4_224 s5_225 a1_230 a2_231], [zAr T 0 a1_230 (zFl m1f wy2_208) g1_226], [zAr T 0 a2_231 7 r2f], w2_206, z1_, wg0_] _ _ := G
        refine lv_aload_n hx hb dX11_fit_85 rfl (lv_at hl 2 rfl) ?_
        refine z_get C G clX11 4 rfl 9 (by decide) m_fl_RX11_65 rfl dX11_fit_86 ?_
        refine lv_iload_n hx hb dX11_fit_89 rfl (lv_at hl 4 rfl) ?_
        refine z_put C G clX3 5 rfl 2 (by decide) m_fl_RX11_295 rfl rfl rfl (Nat.le_of_ble_eq_true rfl) dX11_fit_90 (fun H locs G => ?_)
        have G : zS T A s.heap s [z0_, wg1_, wwA, wt, [zO10 xo t im mk rd po co tr wa wb_ fi cd], [zO3 fi e0f i1 i2 s3_223 s4_224 s5_225 a1_230 a2_231], [zAr T 0 a1_230 (zFl m1f wy2_208) g1_226], [zAr T 0 a2_231 7 r2f], w2_206, z1_, wg0_] _ _ := G
        refine lv_aload_n hx hb dX11_fit_93 rfl (lv_at hl 2 rfl) ?_
        refine z_get C G clX11 4 rfl 9 (by decide) m_fl_RX11_65 rfl dX11_fit_94 ?_
        refine lv_iconst (v := 1) hx hb dX11_fit_97 (by decide) ?_
        refine z_put C G clX3 5 rfl 0 (by decide) m_fl_RX11_109 rfl rfl rfl (Nat.le_of_ble_eq_true rfl) dX11_fit_98 (fun H locs G => ?_)
        have G : zS T A s.heap s [z0_, wg1_, wwA, wt, [zO10 xo t im mk rd po co tr wa wb_ fi cd], [zO3 fi 1 i1 i2 s3_223 s4_224 s5_225 a1_230 a2_231], [zAr T 0 a1_230 (zFl m1f wy2_208) g1_226], [zAr T 0 a2_231 7 r2f], w2_206, z1_, wg0_] _ _ := G
        refine lv_iconst (v := 1) hx hb dX11_fit_101 (by decide) ?_
        have hw_232 : bFit T fi 1 i1 i2 s3_223 s4_224 s5_225 g1_226 (zFl m1f wy2_208) r2f [zO3 fi 1 i1 i2 s3_223 s4_224 s5_225 a1_230 a2_231, zAr T 0 a1_230 (zFl m1f wy2_208) g1_226, zAr T 0 a2_231 7 r2f] := ⟨a1_230, a2_231, rfl⟩
        have G : zS T A s.heap s [z0_, wg1_, wwA, wt, [zO10 xo t im mk rd po co tr wa wb_ fi cd], [zO3 fi 1 i1 i2 s3_223 s4_224 s5_225 a1_230 a2_231, zAr T 0 a1_230 (zFl m1f wy2_208) g1_226, zAr T 0 a2_231 7 r2f], w2_206, z1_, wg0_] _ _ := G.re rfl
        have G := G.sub (bs' := [[zO10 xo t im mk rd po co tr wa wb_ fi cd], wt, z0_, z1_, wg0_, wg1_, wwA, w2_206, [zO3 fi 1 i1 i2 s3_223 s4_224 s5_225 a1_230 a2_231, zAr T 0 a1_230 (zFl m1f wy2_208) g1_226, zAr T 0 a2_231 7 r2f]]) [4, 3, 0, 7, 8, 1, 2, 6, 5] rfl
        exact z_back hQ9 (z_zret C hr hlocks G (by omega) (by omega) dX11_fit_102 rfl ⟨laA, mdA, wyA, pc_A, f1A, f2A, f3A, f4A, f5A, f6A, n4A, wwA, l1, m2_207, wy2_208, pc2_209, g1_210, g2_211, f3B, g4_212, g5_213, g6_214, (zMk mdB n4B (zPl cr1_ inn1_ k11_)), w2_206, 1, i1, i2, s3_223, s4_224, s5_225, g1_226, (zFl m1f wy2_208), r2f, ([zO3 fi 1 i1 i2 s3_223 s4_224 s5_225 a1_230 a2_231, zAr T 0 a1_230 (zFl m1f wy2_208) g1_226, zAr T 0 a2_231 7 r2f]), rfl, hwwA, hmdA, hwmA, (zNA_n (by omega)).symm, hpwA, (fun q => q), h_216, (Or.inr rfl), hwy9, hNAm.symm, (zMk_pw hpwB), (fun _ => h_219), hw_232, hNF.symm, hfw9, h39, (Or.inr ⟨rfl, by omega, by decide, rfl⟩), (fun _ => Or.inr ⟨by omega, h_219⟩)⟩)
      · have c_205n : ¬ e0f.toInt = (0 : Int) := fun q => c_205 ((fa_eq _ _).mpr q)
        refine lv_aload_n hx hb dX11_fit_40 rfl (lv_at hl 2 rfl) ?_
        refine z_get C G clX11 0 rfl 9 (by decide) m_fl_RX11_65 rfl dX11_fit_41 ?_
        refine z_get C G clX3 7 rfl 1 (by decide) m_fl_RX11_292 rfl dX11_fit_44 ?_
        refine lv_iload_n hx hb dX11_fit_47 rfl (lv_at hl 3 rfl) ?_
        refine lv_icmp_ne (tgt := 62) hx hb dX11_fit_48 (by decide) (fun c_233 => ?_) (fun c_233 => ?_)
        · have c_233n : ¬ e1f.toInt = i1.toInt := fun q => c_233 ((fa_eq _ _).mpr q)
          refine lv_aload_n hx hb dX11_fit_62 rfl (lv_at hl 2 rfl) ?_
          refine z_get C G clX11 0 rfl 9 (by decide) m_fl_RX11_65 rfl dX11_fit_63 ?_
          refine lv_aload_n hx hb dX11_fit_66 rfl (lv_at hl 2 rfl) ?_
          refine lv_iload_n hx hb dX11_fit_67 rfl (lv_at hl 3 rfl) ?_
          refine lv_aload_n hx hb dX11_fit_68 rfl (lv_at hl 1 rfl) ?_
          have hcF : (i1.toInt = 1 ∧ 1 < (fk 0).toInt ∧ (0 ≤ i2.toInt ∧ i2.toInt < (fk 2).toInt ∧ i2.toInt < 2) ∧ (e0f.toInt = 0 ∨ ¬ e1f.toInt = i1.toInt ∨ ¬ e2f.toInt = i2.toInt)) := by omega
          have hcN : ¬ (i1.toInt = 0 ∧ 0 < (fk 0).toInt ∧ (0 ≤ i2.toInt ∧ i2.toInt < (fk 2).toInt ∧ i2.toInt < 2) ∧ (e0f.toInt = 0 ∨ ¬ e1f.toInt = i1.toInt ∨ ¬ e2f.toInt = i2.toInt)) := by omega
          have hNAm : zNA (i1.toInt = 1 ∧ 1 < (fk 0).toInt ∧ (0 ≤ i2.toInt ∧ i2.toInt < (fk 2).toInt ∧ i2.toInt < 2) ∧ (e0f.toInt = 0 ∨ ¬ e1f.toInt = i1.toInt ∨ ¬ e2f.toInt = i2.toInt)) mdB n4B (zPl cr1_ inn1_ k11_) = zMk mdB n4B (zPl cr1_ inn1_ k11_) := zNA_y hcF
          have hNAo : zNA (i1.toInt = 0 ∧ 0 < (fk 0).toInt ∧ (0 ≤ i2.toInt ∧ i2.toInt < (fk 2).toInt ∧ i2.toInt < 2) ∧ (e0f.toInt = 0 ∨ ¬ e1f.toInt = i1.toInt ∨ ¬ e2f.toInt = i2.toInt)) mdA n4A (zPl cr0_ inn0_ k10_) = n4A := zNA_n hcN
          have hn9 : zMk mdB n4B (zPl cr1_ inn1_ k11_) ≤ 131072 := zPw_le (zMk_pw hpwB)
          refine z_Vq (bc := [[zO10 xo t im mk rd po co tr wa wb_ fi cd], wwB, z1_]) (br := [z0_, wg0_, wg1_, wwA, [zO3 fi e0f e1f e2f e3f e4f e5f a1_203 a2_204], [zAr T 0 a1_203 m1f r1f], [zAr T 0 a2_204 7 r2f], wt]) (As := [.int i1, .ref l1]) (rest := [.ref fi]) C G (c_waysInB l T xo t im mk rd po co tr wa wb_ fi cd i1 laB mdB wyB pc_B f1B f2B f3B f4B f5B f6B n4B wwB l1 cr1_ inn1_ k11_ k21_ k31_ k41_ z1_ hwwB hz1_ hI1_ hpwB hmdB hwmB (by omega)) (kV_RX11_235 C.2.2.2.2 (Nat.le_of_ble_eq_true rfl) (Nat.le_of_ble_eq_true rfl)) [0, 6, 2] [0, 1, 3] rfl rfl (ci := 10) (qc := (RX11, TX11, 11)) rfl rfl (List.mem_flatten.mpr ⟨_, List.mem_of_getElem? (i := 0) rfl, List.mem_cons_self⟩) rfl rfl hl.1 dX11_fit_69 (by show _ + 3 ≤ 4; omega) (by show _ + (6 * (zMk mdB n4B (zPl cr1_ inn1_ k11_) - n4B)) ≤ 6 * (zNA (i1.toInt = 0 ∧ 0 < (fk 0).toInt ∧ (0 ≤ i2.toInt ∧ i2.toInt < (fk 2).toInt ∧ i2.toInt < 2) ∧ (e0f.toInt = 0 ∨ ¬ e1f.toInt = i1.toInt ∨ ¬ e2f.toInt = i2.toInt)) mdA n4A (zPl cr0_ inn0_ k10_) - n4A) + 6 * (zNA (i1.toInt = 1 ∧ 1 < (fk 0).toInt ∧ (0 ≤ i2.toInt ∧ i2.toInt < (fk 2).toInt ∧ i2.toInt < 2) ∧ (e0f.toInt = 0 ∨ ¬ e1f.toInt = i1.toInt ∨ ¬ e2f.toInt = i2.toInt)) mdB n4B (zPl cr1_ inn1_ k11_) - n4B) + 2 * (zNF (i1.toInt = 1 ∧ 1 < (fk 0).toInt ∧ (0 ≤ i2.toInt ∧ i2.toInt < (fk 2).toInt ∧ i2.toInt < 2) ∧ (e0f.toInt = 0 ∨ ¬ e1f.toInt = i1.toInt ∨ ¬ e2f.toInt = i2.toInt)) (zNF (i1.toInt = 0 ∧ 0 < (fk 0).toInt ∧ (0 ≤ i2.toInt ∧ i2.toInt < (fk 2).toInt ∧ i2.toInt < 2) ∧ (e0f.toInt = 0 ∨ ¬ e1f.toInt = i1.toInt ∨ ¬ e2f.toInt = i2.toInt)) m1f (zMw mdA wyA cr0_ inn0_ k10_)) (zMw mdB wyB cr1_ inn1_ k11_) - m1f); omega) (fun r_248 b1 H locs hw G => ?_)
          refine zEx9 hw ?_
          intro w2_234 m2_235 wy2_236 pc2_237 g1_238 g2_239 g4_240 g5_241 g6_242
          refine zCu6 ?_
          intro hbs9 h_243 h_244 h_245 h_246 h_247
          clear hw
          subst hbs9
          have G : zS T A s.heap s [z0_, wg0_, wg1_, wwA, [zO3 fi e0f e1f e2f e3f e4f e5f a1_203 a2_204], [zAr T 0 a1_203 m1f r1f], [zAr T 0 a2_204 7 r2f], wt, [zO10 xo t im mk rd po co tr wa wb_ fi cd], w2_234, z1_] _ _ := G
          subst h_243
          have hwy9 := h_245
          have hNF : zNF (i1.toInt = 1 ∧ 1 < (fk 0).toInt ∧ (0 ≤ i2.toInt ∧ i2.toInt < (fk 2).toInt ∧ i2.toInt < 2) ∧ (e0f.toInt = 0 ∨ ¬ e1f.toInt = i1.toInt ∨ ¬ e2f.toInt = i2.toInt)) (zNF (i1.toInt = 0 ∧ 0 < (fk 0).toInt ∧ (0 ≤ i2.toInt ∧ i2.toInt < (fk 2).toInt ∧ i2.toInt < 2) ∧ (e0f.toInt = 0 ∨ ¬ e1f.toInt = i1.toInt ∨ ¬ e2f.toInt = i2.toInt)) m1f (zMw mdA wyA cr0_ inn0_ k10_)) (zMw mdB wyB cr1_ inn1_ k11_) = zFl m1f wy2_236 := by rw [zNF_y (c := (i1.toInt = 1 ∧ 1 < (fk 0).toInt ∧ (0 ≤ i2.toInt ∧ i2.toInt < (fk 2).toInt ∧ i2.toInt < 2) ∧ (e0f.toInt = 0 ∨ ¬ e1f.toInt = i1.toInt ∨ ¬ e2f.toInt = i2.toInt))) hcF, zNF_n (c := (i1.toInt = 0 ∧ 0 < (fk 0).toInt ∧ (0 ≤ i2.toInt ∧ i2.toInt < (fk 2).toInt ∧ i2.toInt < 2) ∧ (e0f.toInt = 0 ∨ ¬ e1f.toInt = i1.toInt ∨ ¬ e2f.toInt = i2.toInt))) hcN, h_246]
          have hfw9 := zFl_pw (wy := wy2_236) hfw
          refine lv_aload hx hb dX11_fit_72 (lv_at hl 0 rfl) ?_
          have hw_249 : bFit T fi e0f e1f e2f e3f e4f e5f r1f m1f r2f [zO3 fi e0f e1f e2f e3f e4f e5f a1_203 a2_204, zAr T 0 a1_203 m1f r1f, zAr T 0 a2_204 7 r2f] := ⟨a1_203, a2_204, rfl⟩
          have G : zS T A s.heap s [z0_, wg0_, wg1_, wwA, [zO3 fi e0f e1f e2f e3f e4f e5f a1_203 a2_204, zAr T 0 a1_203 m1f r1f, zAr T 0 a2_204 7 r2f], wt, [zO10 xo t im mk rd po co tr wa wb_ fi cd], w2_234, z1_] _ _ := G.re rfl
          refine z_Vv (bc := [[zO3 fi e0f e1f e2f e3f e4f e5f a1_203 a2_204, zAr T 0 a1_203 m1f r1f, zAr T 0 a2_204 7 r2f], w2_234, z1_, wg0_]) (br := [z0_, wg1_, wwA, wt, [zO10 xo t im mk rd po co tr wa wb_ fi cd]]) (As := [.ref wb_, .ref g0]) (rest := []) C G (c_find l T fi e0f e1f e2f e3f e4f e5f r1f m1f r2f ([zO3 fi e0f e1f e2f e3f e4f e5f a1_203 a2_204, zAr T 0 a1_203 m1f r1f, zAr T 0 a2_204 7 r2f]) wb_ l1 m2_235 wy2_236 pc2_237 g1_238 g2_239 f3B g4_240 g5_241 g6_242 (zMk mdB n4B (zPl cr1_ inn1_ k11_)) w2_234 cr1_ inn1_ k11_ k21_ k31_ k41_ z1_ g0 gg0_ q10_ q20_ wg0_ hw_249 h_244 hz1_ hg0_ hn9 hfw hwy9) (kV_RX11_298 C.2.2.2.2 (Nat.le_of_ble_eq_true rfl) (Nat.le_of_ble_eq_true rfl)) [4, 7, 8, 1] [1, 2, 2, 0] rfl rfl (ci := 3) (qc := (RX3, TX3, 8)) rfl rfl (List.mem_flatten.mpr ⟨_, List.mem_of_getElem? (i := 0) rfl, (bFit_mem hw_249).choose_spec⟩) rfl rfl hl.1 dX11_fit_74 (by show _ + 1 ≤ 4; omega) (by show _ + (2 * (zFl m1f wy2_236 - m1f)) ≤ 6 * (zNA (i1.toInt = 0 ∧ 0 < (fk 0).toInt ∧ (0 ≤ i2.toInt ∧ i2.toInt < (fk 2).toInt ∧ i2.toInt < 2) ∧ (e0f.toInt = 0 ∨ ¬ e1f.toInt = i1.toInt ∨ ¬ e2f.toInt = i2.toInt)) mdA n4A (zPl cr0_ inn0_ k10_) - n4A) + 6 * (zNA (i1.toInt = 1 ∧ 1 < (fk 0).toInt ∧ (0 ≤ i2.toInt ∧ i2.toInt < (fk 2).toInt ∧ i2.toInt < 2) ∧ (e0f.toInt = 0 ∨ ¬ e1f.toInt = i1.toInt ∨ ¬ e2f.toInt = i2.toInt)) mdB n4B (zPl cr1_ inn1_ k11_) - n4B) + 2 * (zNF (i1.toInt = 1 ∧ 1 < (fk 0).toInt ∧ (0 ≤ i2.toInt ∧ i2.toInt < (fk 2).toInt ∧ i2.toInt < 2) ∧ (e0f.toInt = 0 ∨ ¬ e1f.toInt = i1.toInt ∨ ¬ e2f.toInt = i2.toInt)) (zNF (i1.toInt = 0 ∧ 0 < (fk 0).toInt ∧ (0 ≤ i2.toInt ∧ i2.toInt < (fk 2).toInt ∧ i2.toInt < 2) ∧ (e0f.toInt = 0 ∨ ¬ e1f.toInt = i1.toInt ∨ ¬ e2f.toInt = i2.toInt)) m1f (zMw mdA wyA cr0_ inn0_ k10_)) (zMw mdB wyB cr1_ inn1_ k11_) - m1f); omega) (fun b1 H locs hw G => ?_)
          refine zEx5 hw ?_
          intro w2_250 s3_251 s4_252 s5_253 g1_254
          refine zCu3 ?_
          intro hbs9 h_255 h_256
          clear hw
          subst hbs9
          have G : zS T A s.heap s [z0_, wg1_, wwA, wt, [zO10 xo t im mk rd po co tr wa wb_ fi cd], w2_250, w2_234, z1_, wg0_] _ _ := G
          have h39 := h_256
          refine lv_aload_n hx hb dX11_fit_77 rfl (lv_at hl 2 rfl) ?_
          refine z_get C G clX11 4 rfl 9 (by decide) m_fl_RX11_65 rfl dX11_fit_78 ?_
          refine lv_iload_n hx hb dX11_fit_81 rfl (lv_at hl 3 rfl) ?_
          refine zEx2 h_255 ?_
          intro a1_258 a2_259 hbs9
          clear h_255
          subst hbs9
          have G : zS T A s.heap s [z0_, wg1_, wwA, wt, [zO10 xo t im mk rd po co tr wa wb_ fi cd], [zO3 fi e0f e1f e2f s3_251 s4_252 s5_253 a1_258 a2_259], [zAr T 0 a1_258 (zFl m1f wy2_236) g1_254], [zAr T 0 a2_259 7 r2f], w2_234, z1_, wg0_] _ _ := G.re rfl
          refine z_put C G clX3 5 rfl 1 (by decide) m_fl_RX11_292 rfl rfl rfl (Nat.le_of_ble_eq_true rfl) dX11_fit_82 (fun H locs G => ?_)
          have G : zS T A s.heap s [z0_, wg1_, wwA, wt, [zO10 xo t im mk rd po co tr wa wb_ fi cd], [zO3 fi e0f i1 e2f s3_251 s4_252 s5_253 a1_258 a2_259], [zAr T 0 a1_258 (zFl m1f wy2_236) g1_254], [zAr T 0 a2_259 7 r2f], w2_234, z1_, wg0_] _ _ := G
          refine lv_aload_n hx hb dX11_fit_85 rfl (lv_at hl 2 rfl) ?_
          refine z_get C G clX11 4 rfl 9 (by decide) m_fl_RX11_65 rfl dX11_fit_86 ?_
          refine lv_iload_n hx hb dX11_fit_89 rfl (lv_at hl 4 rfl) ?_
          refine z_put C G clX3 5 rfl 2 (by decide) m_fl_RX11_295 rfl rfl rfl (Nat.le_of_ble_eq_true rfl) dX11_fit_90 (fun H locs G => ?_)
          have G : zS T A s.heap s [z0_, wg1_, wwA, wt, [zO10 xo t im mk rd po co tr wa wb_ fi cd], [zO3 fi e0f i1 i2 s3_251 s4_252 s5_253 a1_258 a2_259], [zAr T 0 a1_258 (zFl m1f wy2_236) g1_254], [zAr T 0 a2_259 7 r2f], w2_234, z1_, wg0_] _ _ := G
          refine lv_aload_n hx hb dX11_fit_93 rfl (lv_at hl 2 rfl) ?_
          refine z_get C G clX11 4 rfl 9 (by decide) m_fl_RX11_65 rfl dX11_fit_94 ?_
          refine lv_iconst (v := 1) hx hb dX11_fit_97 (by decide) ?_
          refine z_put C G clX3 5 rfl 0 (by decide) m_fl_RX11_109 rfl rfl rfl (Nat.le_of_ble_eq_true rfl) dX11_fit_98 (fun H locs G => ?_)
          have G : zS T A s.heap s [z0_, wg1_, wwA, wt, [zO10 xo t im mk rd po co tr wa wb_ fi cd], [zO3 fi 1 i1 i2 s3_251 s4_252 s5_253 a1_258 a2_259], [zAr T 0 a1_258 (zFl m1f wy2_236) g1_254], [zAr T 0 a2_259 7 r2f], w2_234, z1_, wg0_] _ _ := G
          refine lv_iconst (v := 1) hx hb dX11_fit_101 (by decide) ?_
          have hw_260 : bFit T fi 1 i1 i2 s3_251 s4_252 s5_253 g1_254 (zFl m1f wy2_236) r2f [zO3 fi 1 i1 i2 s3_251 s4_252 s5_253 a1_258 a2_259, zAr T 0 a1_258 (zFl m1f wy2_236) g1_254, zAr T 0 a2_259 7 r2f] := ⟨a1_258, a2_259, rfl⟩
          have G : zS T A s.heap s [z0_, wg1_, wwA, wt, [zO10 xo t im mk rd po co tr wa wb_ fi cd], [zO3 fi 1 i1 i2 s3_251 s4_252 s5_253 a1_258 a2_259, zAr T 0 a1_258 (zFl m1f wy2_236) g1_254, zAr T 0 a2_259 7 r2f], w2_234, z1_, wg0_] _ _ := G.re rfl
          have G := G.sub (bs' := [[zO10 xo t im mk rd po co tr wa wb_ fi cd], wt, z0_, z1_, wg0_, wg1_, wwA, w2_234, [zO3 fi 1 i1 i2 s3_251 s4_252 s5_253 a1_258 a2_259, zAr T 0 a1_258 (zFl m1f wy2_236) g1_254, zAr T 0 a2_259 7 r2f]]) [4, 3, 0, 7, 8, 1, 2, 6, 5] rfl
          exact z_back hQ9 (z_zret C hr hlocks G (by omega) (by omega) dX11_fit_102 rfl ⟨laA, mdA, wyA, pc_A, f1A, f2A, f3A, f4A, f5A, f6A, n4A, wwA, l1, m2_235, wy2_236, pc2_237, g1_238, g2_239, f3B, g4_240, g5_241, g6_242, (zMk mdB n4B (zPl cr1_ inn1_ k11_)), w2_234, 1, i1, i2, s3_251, s4_252, s5_253, g1_254, (zFl m1f wy2_236), r2f, ([zO3 fi 1 i1 i2 s3_251 s4_252 s5_253 a1_258 a2_259, zAr T 0 a1_258 (zFl m1f wy2_236) g1_254, zAr T 0 a2_259 7 r2f]), rfl, hwwA, hmdA, hwmA, (zNA_n (by omega)).symm, hpwA, (fun q => q), h_244, (Or.inr rfl), hwy9, hNAm.symm, (zMk_pw hpwB), (fun _ => h_247), hw_260, hNF.symm, hfw9, h39, (Or.inr ⟨rfl, by omega, by decide, rfl⟩), (fun _ => Or.inr ⟨by omega, h_247⟩)⟩)
        · have c_233n : e1f.toInt = i1.toInt := (fa_eq _ _).mp c_233
          refine lv_aload_n hx hb dX11_fit_51 rfl (lv_at hl 2 rfl) ?_
          refine z_get C G clX11 0 rfl 9 (by decide) m_fl_RX11_65 rfl dX11_fit_52 ?_
          refine z_get C G clX3 7 rfl 2 (by decide) m_fl_RX11_295 rfl dX11_fit_55 ?_
          refine lv_iload_n hx hb dX11_fit_58 rfl (lv_at hl 4 rfl) ?_
          refine lv_icmp_eq (tgt := 101) hx hb dX11_fit_59 (by decide) (fun c_261 => ?_) (fun c_261 => ?_)
          · have c_261n : e2f.toInt = i2.toInt := (fa_eq _ _).mp c_261
            refine lv_iconst (v := 1) hx hb dX11_fit_101 (by decide) ?_
            have hw_262 : bFit T fi e0f e1f e2f e3f e4f e5f r1f m1f r2f [zO3 fi e0f e1f e2f e3f e4f e5f a1_203 a2_204, zAr T 0 a1_203 m1f r1f, zAr T 0 a2_204 7 r2f] := ⟨a1_203, a2_204, rfl⟩
            have G : zS T A s.heap s [[zO10 xo t im mk rd po co tr wa wb_ fi cd], z0_, z1_, wg0_, wg1_, wwA, wwB, [zO3 fi e0f e1f e2f e3f e4f e5f a1_203 a2_204, zAr T 0 a1_203 m1f r1f, zAr T 0 a2_204 7 r2f], wt] _ _ := G.re rfl
            have G := G.sub (bs' := [[zO10 xo t im mk rd po co tr wa wb_ fi cd], wt, z0_, z1_, wg0_, wg1_, wwA, wwB, [zO3 fi e0f e1f e2f e3f e4f e5f a1_203 a2_204, zAr T 0 a1_203 m1f r1f, zAr T 0 a2_204 7 r2f]]) [0, 8, 1, 2, 3, 4, 5, 6, 7] rfl
            exact z_back hQ9 (z_zret C hr hlocks G (by omega) (by omega) dX11_fit_102 rfl ⟨laA, mdA, wyA, pc_A, f1A, f2A, f3A, f4A, f5A, f6A, n4A, wwA, laB, mdB, wyB, pc_B, f1B, f2B, f3B, f4B, f5B, f6B, n4B, wwB, e0f, e1f, e2f, e3f, e4f, e5f, r1f, m1f, r2f, ([zO3 fi e0f e1f e2f e3f e4f e5f a1_203 a2_204, zAr T 0 a1_203 m1f r1f, zAr T 0 a2_204 7 r2f]), rfl, hwwA, hmdA, hwmA, (zNA_n (by omega)).symm, hpwA, (fun q => q), hwwB, hmdB, hwmB, (zNA_n (by omega)).symm, hpwB, (fun q => q), hw_262, (((zNF_n (c := (i1.toInt = 1 ∧ 1 < (fk 0).toInt ∧ (0 ≤ i2.toInt ∧ i2.toInt < (fk 2).toInt ∧ i2.toInt < 2) ∧ (e0f.toInt = 0 ∨ ¬ e1f.toInt = i1.toInt ∨ ¬ e2f.toInt = i2.toInt))) (by omega)).trans (zNF_n (by omega))).symm), hfw, hf3, (Or.inr ⟨rfl, by omega, (fun q => absurd (congrArg Int32.toInt q) (by show ¬ _ = (0 : Int); omega)), by omega⟩), hFI⟩)
          · have c_261n : ¬ e2f.toInt = i2.toInt := fun q => c_261 ((fa_eq _ _).mpr q)
            refine lv_aload_n hx hb dX11_fit_62 rfl (lv_at hl 2 rfl) ?_
            refine z_get C G clX11 0 rfl 9 (by decide) m_fl_RX11_65 rfl dX11_fit_63 ?_
            refine lv_aload_n hx hb dX11_fit_66 rfl (lv_at hl 2 rfl) ?_
            refine lv_iload_n hx hb dX11_fit_67 rfl (lv_at hl 3 rfl) ?_
            refine lv_aload_n hx hb dX11_fit_68 rfl (lv_at hl 1 rfl) ?_
            have hcF : (i1.toInt = 1 ∧ 1 < (fk 0).toInt ∧ (0 ≤ i2.toInt ∧ i2.toInt < (fk 2).toInt ∧ i2.toInt < 2) ∧ (e0f.toInt = 0 ∨ ¬ e1f.toInt = i1.toInt ∨ ¬ e2f.toInt = i2.toInt)) := by omega
            have hcN : ¬ (i1.toInt = 0 ∧ 0 < (fk 0).toInt ∧ (0 ≤ i2.toInt ∧ i2.toInt < (fk 2).toInt ∧ i2.toInt < 2) ∧ (e0f.toInt = 0 ∨ ¬ e1f.toInt = i1.toInt ∨ ¬ e2f.toInt = i2.toInt)) := by omega
            have hNAm : zNA (i1.toInt = 1 ∧ 1 < (fk 0).toInt ∧ (0 ≤ i2.toInt ∧ i2.toInt < (fk 2).toInt ∧ i2.toInt < 2) ∧ (e0f.toInt = 0 ∨ ¬ e1f.toInt = i1.toInt ∨ ¬ e2f.toInt = i2.toInt)) mdB n4B (zPl cr1_ inn1_ k11_) = zMk mdB n4B (zPl cr1_ inn1_ k11_) := zNA_y hcF
            have hNAo : zNA (i1.toInt = 0 ∧ 0 < (fk 0).toInt ∧ (0 ≤ i2.toInt ∧ i2.toInt < (fk 2).toInt ∧ i2.toInt < 2) ∧ (e0f.toInt = 0 ∨ ¬ e1f.toInt = i1.toInt ∨ ¬ e2f.toInt = i2.toInt)) mdA n4A (zPl cr0_ inn0_ k10_) = n4A := zNA_n hcN
            have hn9 : zMk mdB n4B (zPl cr1_ inn1_ k11_) ≤ 131072 := zPw_le (zMk_pw hpwB)
            refine z_Vq (bc := [[zO10 xo t im mk rd po co tr wa wb_ fi cd], wwB, z1_]) (br := [z0_, wg0_, wg1_, wwA, [zO3 fi e0f e1f e2f e3f e4f e5f a1_203 a2_204], [zAr T 0 a1_203 m1f r1f], [zAr T 0 a2_204 7 r2f], wt]) (As := [.int i1, .ref l1]) (rest := [.ref fi]) C G (c_waysInB l T xo t im mk rd po co tr wa wb_ fi cd i1 laB mdB wyB pc_B f1B f2B f3B f4B f5B f6B n4B wwB l1 cr1_ inn1_ k11_ k21_ k31_ k41_ z1_ hwwB hz1_ hI1_ hpwB hmdB hwmB (by omega)) (kV_RX11_235 C.2.2.2.2 (Nat.le_of_ble_eq_true rfl) (Nat.le_of_ble_eq_true rfl)) [0, 6, 2] [0, 1, 3] rfl rfl (ci := 10) (qc := (RX11, TX11, 11)) rfl rfl (List.mem_flatten.mpr ⟨_, List.mem_of_getElem? (i := 0) rfl, List.mem_cons_self⟩) rfl rfl hl.1 dX11_fit_69 (by show _ + 3 ≤ 4; omega) (by show _ + (6 * (zMk mdB n4B (zPl cr1_ inn1_ k11_) - n4B)) ≤ 6 * (zNA (i1.toInt = 0 ∧ 0 < (fk 0).toInt ∧ (0 ≤ i2.toInt ∧ i2.toInt < (fk 2).toInt ∧ i2.toInt < 2) ∧ (e0f.toInt = 0 ∨ ¬ e1f.toInt = i1.toInt ∨ ¬ e2f.toInt = i2.toInt)) mdA n4A (zPl cr0_ inn0_ k10_) - n4A) + 6 * (zNA (i1.toInt = 1 ∧ 1 < (fk 0).toInt ∧ (0 ≤ i2.toInt ∧ i2.toInt < (fk 2).toInt ∧ i2.toInt < 2) ∧ (e0f.toInt = 0 ∨ ¬ e1f.toInt = i1.toInt ∨ ¬ e2f.toInt = i2.toInt)) mdB n4B (zPl cr1_ inn1_ k11_) - n4B) + 2 * (zNF (i1.toInt = 1 ∧ 1 < (fk 0).toInt ∧ (0 ≤ i2.toInt ∧ i2.toInt < (fk 2).toInt ∧ i2.toInt < 2) ∧ (e0f.toInt = 0 ∨ ¬ e1f.toInt = i1.toInt ∨ ¬ e2f.toInt = i2.toInt)) (zNF (i1.toInt = 0 ∧ 0 < (fk 0).toInt ∧ (0 ≤ i2.toInt ∧ i2.toInt < (fk 2).toInt ∧ i2.toInt < 2) ∧ (e0f.toInt = 0 ∨ ¬ e1f.toInt = i1.toInt ∨ ¬ e2f.toInt = i2.toInt)) m1f (zMw mdA wyA cr0_ inn0_ k10_)) (zMw mdB wyB cr1_ inn1_ k11_) - m1f); omega) (fun r_277 b1 H locs hw G => ?_)
            refine zEx9 hw ?_
            intro w2_263 m2_264 wy2_265 pc2_266 g1_267 g2_268 g4_269 g5_270 g6_271
            refine zCu6 ?_
            intro hbs9 h_272 h_273 h_274 h_275 h_276
            clear hw
            subst hbs9
            have G : zS T A s.heap s [z0_, wg0_, wg1_, wwA, [zO3 fi e0f e1f e2f e3f e4f e5f a1_203 a2_204], [zAr T 0 a1_203 m1f r1f], [zAr T 0 a2_204 7 r2f], wt, [zO10 xo t im mk rd po co tr wa wb_ fi cd], w2_263, z1_] _ _ := G
            subst h_272
            have hwy9 := h_274
            have hNF : zNF (i1.toInt = 1 ∧ 1 < (fk 0).toInt ∧ (0 ≤ i2.toInt ∧ i2.toInt < (fk 2).toInt ∧ i2.toInt < 2) ∧ (e0f.toInt = 0 ∨ ¬ e1f.toInt = i1.toInt ∨ ¬ e2f.toInt = i2.toInt)) (zNF (i1.toInt = 0 ∧ 0 < (fk 0).toInt ∧ (0 ≤ i2.toInt ∧ i2.toInt < (fk 2).toInt ∧ i2.toInt < 2) ∧ (e0f.toInt = 0 ∨ ¬ e1f.toInt = i1.toInt ∨ ¬ e2f.toInt = i2.toInt)) m1f (zMw mdA wyA cr0_ inn0_ k10_)) (zMw mdB wyB cr1_ inn1_ k11_) = zFl m1f wy2_265 := by rw [zNF_y (c := (i1.toInt = 1 ∧ 1 < (fk 0).toInt ∧ (0 ≤ i2.toInt ∧ i2.toInt < (fk 2).toInt ∧ i2.toInt < 2) ∧ (e0f.toInt = 0 ∨ ¬ e1f.toInt = i1.toInt ∨ ¬ e2f.toInt = i2.toInt))) hcF, zNF_n (c := (i1.toInt = 0 ∧ 0 < (fk 0).toInt ∧ (0 ≤ i2.toInt ∧ i2.toInt < (fk 2).toInt ∧ i2.toInt < 2) ∧ (e0f.toInt = 0 ∨ ¬ e1f.toInt = i1.toInt ∨ ¬ e2f.toInt = i2.toInt))) hcN, h_275]
            have hfw9 := zFl_pw (wy := wy2_265) hfw
            refine lv_aload hx hb dX11_fit_72 (lv_at hl 0 rfl) ?_
            have hw_278 : bFit T fi e0f e1f e2f e3f e4f e5f r1f m1f r2f [zO3 fi e0f e1f e2f e3f e4f e5f a1_203 a2_204, zAr T 0 a1_203 m1f r1f, zAr T 0 a2_204 7 r2f] := ⟨a1_203, a2_204, rfl⟩
            have G : zS T A s.heap s [z0_, wg0_, wg1_, wwA, [zO3 fi e0f e1f e2f e3f e4f e5f a1_203 a2_204, zAr T 0 a1_203 m1f r1f, zAr T 0 a2_204 7 r2f], wt, [zO10 xo t im mk rd po co tr wa wb_ fi cd], w2_263, z1_] _ _ := G.re rfl
            refine z_Vv (bc := [[zO3 fi e0f e1f e2f e3f e4f e5f a1_203 a2_204, zAr T 0 a1_203 m1f r1f, zAr T 0 a2_204 7 r2f], w2_263, z1_, wg0_]) (br := [z0_, wg1_, wwA, wt, [zO10 xo t im mk rd po co tr wa wb_ fi cd]]) (As := [.ref wb_, .ref g0]) (rest := []) C G (c_find l T fi e0f e1f e2f e3f e4f e5f r1f m1f r2f ([zO3 fi e0f e1f e2f e3f e4f e5f a1_203 a2_204, zAr T 0 a1_203 m1f r1f, zAr T 0 a2_204 7 r2f]) wb_ l1 m2_264 wy2_265 pc2_266 g1_267 g2_268 f3B g4_269 g5_270 g6_271 (zMk mdB n4B (zPl cr1_ inn1_ k11_)) w2_263 cr1_ inn1_ k11_ k21_ k31_ k41_ z1_ g0 gg0_ q10_ q20_ wg0_ hw_278 h_273 hz1_ hg0_ hn9 hfw hwy9) (kV_RX11_298 C.2.2.2.2 (Nat.le_of_ble_eq_true rfl) (Nat.le_of_ble_eq_true rfl)) [4, 7, 8, 1] [1, 2, 2, 0] rfl rfl (ci := 3) (qc := (RX3, TX3, 8)) rfl rfl (List.mem_flatten.mpr ⟨_, List.mem_of_getElem? (i := 0) rfl, (bFit_mem hw_278).choose_spec⟩) rfl rfl hl.1 dX11_fit_74 (by show _ + 1 ≤ 4; omega) (by show _ + (2 * (zFl m1f wy2_265 - m1f)) ≤ 6 * (zNA (i1.toInt = 0 ∧ 0 < (fk 0).toInt ∧ (0 ≤ i2.toInt ∧ i2.toInt < (fk 2).toInt ∧ i2.toInt < 2) ∧ (e0f.toInt = 0 ∨ ¬ e1f.toInt = i1.toInt ∨ ¬ e2f.toInt = i2.toInt)) mdA n4A (zPl cr0_ inn0_ k10_) - n4A) + 6 * (zNA (i1.toInt = 1 ∧ 1 < (fk 0).toInt ∧ (0 ≤ i2.toInt ∧ i2.toInt < (fk 2).toInt ∧ i2.toInt < 2) ∧ (e0f.toInt = 0 ∨ ¬ e1f.toInt = i1.toInt ∨ ¬ e2f.toInt = i2.toInt)) mdB n4B (zPl cr1_ inn1_ k11_) - n4B) + 2 * (zNF (i1.toInt = 1 ∧ 1 < (fk 0).toInt ∧ (0 ≤ i2.toInt ∧ i2.toInt < (fk 2).toInt ∧ i2.toInt < 2) ∧ (e0f.toInt = 0 ∨ ¬ e1f.toInt = i1.toInt ∨ ¬ e2f.toInt = i2.toInt)) (zNF (i1.toInt = 0 ∧ 0 < (fk 0).toInt ∧ (0 ≤ i2.toInt ∧ i2.toInt < (fk 2).toInt ∧ i2.toInt < 2) ∧ (e0f.toInt = 0 ∨ ¬ e1f.toInt = i1.toInt ∨ ¬ e2f.toInt = i2.toInt)) m1f (zMw mdA wyA cr0_ inn0_ k10_)) (zMw mdB wyB cr1_ inn1_ k11_) - m1f); omega) (fun b1 H locs hw G => ?_)
            refine zEx5 hw ?_
            intro w2_279 s3_280 s4_281 s5_282 g1_283
            refine zCu3 ?_
            intro hbs9 h_284 h_285
            clear hw
            subst hbs9
            have G : zS T A s.heap s [z0_, wg1_, wwA, wt, [zO10 xo t im mk rd po co tr wa wb_ fi cd], w2_279, w2_263, z1_, wg0_] _ _ := G
            have h39 := h_285
            refine lv_aload_n hx hb dX11_fit_77 rfl (lv_at hl 2 rfl) ?_
            refine z_get C G clX11 4 rfl 9 (by decide) m_fl_RX11_65 rfl dX11_fit_78 ?_
            refine lv_iload_n hx hb dX11_fit_81 rfl (lv_at hl 3 rfl) ?_
            refine zEx2 h_284 ?_
            intro a1_287 a2_288 hbs9
            clear h_284
            subst hbs9
            have G : zS T A s.heap s [z0_, wg1_, wwA, wt, [zO10 xo t im mk rd po co tr wa wb_ fi cd], [zO3 fi e0f e1f e2f s3_280 s4_281 s5_282 a1_287 a2_288], [zAr T 0 a1_287 (zFl m1f wy2_265) g1_283], [zAr T 0 a2_288 7 r2f], w2_263, z1_, wg0_] _ _ := G.re rfl
            refine z_put C G clX3 5 rfl 1 (by decide) m_fl_RX11_292 rfl rfl rfl (Nat.le_of_ble_eq_true rfl) dX11_fit_82 (fun H locs G => ?_)
            have G : zS T A s.heap s [z0_, wg1_, wwA, wt, [zO10 xo t im mk rd po co tr wa wb_ fi cd], [zO3 fi e0f i1 e2f s3_280 s4_281 s5_282 a1_287 a2_288], [zAr T 0 a1_287 (zFl m1f wy2_265) g1_283], [zAr T 0 a2_288 7 r2f], w2_263, z1_, wg0_] _ _ := G
            refine lv_aload_n hx hb dX11_fit_85 rfl (lv_at hl 2 rfl) ?_
            refine z_get C G clX11 4 rfl 9 (by decide) m_fl_RX11_65 rfl dX11_fit_86 ?_
            refine lv_iload_n hx hb dX11_fit_89 rfl (lv_at hl 4 rfl) ?_
            refine z_put C G clX3 5 rfl 2 (by decide) m_fl_RX11_295 rfl rfl rfl (Nat.le_of_ble_eq_true rfl) dX11_fit_90 (fun H locs G => ?_)
            have G : zS T A s.heap s [z0_, wg1_, wwA, wt, [zO10 xo t im mk rd po co tr wa wb_ fi cd], [zO3 fi e0f i1 i2 s3_280 s4_281 s5_282 a1_287 a2_288], [zAr T 0 a1_287 (zFl m1f wy2_265) g1_283], [zAr T 0 a2_288 7 r2f], w2_263, z1_, wg0_] _ _ := G
            refine lv_aload_n hx hb dX11_fit_93 rfl (lv_at hl 2 rfl) ?_
            refine z_get C G clX11 4 rfl 9 (by decide) m_fl_RX11_65 rfl dX11_fit_94 ?_
            refine lv_iconst (v := 1) hx hb dX11_fit_97 (by decide) ?_
            refine z_put C G clX3 5 rfl 0 (by decide) m_fl_RX11_109 rfl rfl rfl (Nat.le_of_ble_eq_true rfl) dX11_fit_98 (fun H locs G => ?_)
            have G : zS T A s.heap s [z0_, wg1_, wwA, wt, [zO10 xo t im mk rd po co tr wa wb_ fi cd], [zO3 fi 1 i1 i2 s3_280 s4_281 s5_282 a1_287 a2_288], [zAr T 0 a1_287 (zFl m1f wy2_265) g1_283], [zAr T 0 a2_288 7 r2f], w2_263, z1_, wg0_] _ _ := G
            refine lv_iconst (v := 1) hx hb dX11_fit_101 (by decide) ?_
            have hw_289 : bFit T fi 1 i1 i2 s3_280 s4_281 s5_282 g1_283 (zFl m1f wy2_265) r2f [zO3 fi 1 i1 i2 s3_280 s4_281 s5_282 a1_287 a2_288, zAr T 0 a1_287 (zFl m1f wy2_265) g1_283, zAr T 0 a2_288 7 r2f] := ⟨a1_287, a2_288, rfl⟩
            have G : zS T A s.heap s [z0_, wg1_, wwA, wt, [zO10 xo t im mk rd po co tr wa wb_ fi cd], [zO3 fi 1 i1 i2 s3_280 s4_281 s5_282 a1_287 a2_288, zAr T 0 a1_287 (zFl m1f wy2_265) g1_283, zAr T 0 a2_288 7 r2f], w2_263, z1_, wg0_] _ _ := G.re rfl
            have G := G.sub (bs' := [[zO10 xo t im mk rd po co tr wa wb_ fi cd], wt, z0_, z1_, wg0_, wg1_, wwA, w2_263, [zO3 fi 1 i1 i2 s3_280 s4_281 s5_282 a1_287 a2_288, zAr T 0 a1_287 (zFl m1f wy2_265) g1_283, zAr T 0 a2_288 7 r2f]]) [4, 3, 0, 7, 8, 1, 2, 6, 5] rfl
            exact z_back hQ9 (z_zret C hr hlocks G (by omega) (by omega) dX11_fit_102 rfl ⟨laA, mdA, wyA, pc_A, f1A, f2A, f3A, f4A, f5A, f6A, n4A, wwA, l1, m2_264, wy2_265, pc2_266, g1_267, g2_268, f3B, g4_269, g5_270, g6_271, (zMk mdB n4B (zPl cr1_ inn1_ k11_)), w2_263, 1, i1, i2, s3_280, s4_281, s5_282, g1_283, (zFl m1f wy2_265), r2f, ([zO3 fi 1 i1 i2 s3_280 s4_281 s5_282 a1_287 a2_288, zAr T 0 a1_287 (zFl m1f wy2_265) g1_283, zAr T 0 a2_288 7 r2f]), rfl, hwwA, hmdA, hwmA, (zNA_n (by omega)).symm, hpwA, (fun q => q), h_273, (Or.inr rfl), hwy9, hNAm.symm, (zMk_pw hpwB), (fun _ => h_276), hw_289, hNF.symm, hfw9, h39, (Or.inr ⟨rfl, by omega, by decide, rfl⟩), (fun _ => Or.inr ⟨by omega, h_276⟩)⟩)
    · have h_201 : i2.toInt = 1 := h_201
      have h_202 : 1 < (fk 2).toInt := h_202
      refine lv_astore (lv' := [(4, .ref g1), (3, .ref l1), (0, .ref xo), (1, .int i1), (2, .int i2)]) hx hb dX11_fit_17 hl (by decide) rfl (fun ls hl => ?_)
      refine lv_aload_n hx hb dX11_fit_19 rfl (lv_at hl 1 rfl) ?_
      refine lv_ifnull hx hb dX11_fit_20 ?_
      refine lv_aload hx hb dX11_fit_23 (lv_at hl 0 rfl) ?_
      refine lv_ifnonnull (tgt := 30) hx hb dX11_fit_25 (by decide) ?_
      refine lv_aload_n hx hb dX11_fit_30 rfl (lv_at hl 2 rfl) ?_
      refine z_get C G clX11 0 rfl 9 (by decide) m_fl_RX11_65 rfl dX11_fit_31 ?_
      refine zEx2 hwff ?_
      intro a1_290 a2_291 hbs9
      clear hwff
      subst hbs9
      have G : zS T A s.heap s [[zO10 xo t im mk rd po co tr wa wb_ fi cd], z0_, z1_, wg0_, wg1_, wwA, wwB, [zO3 fi e0f e1f e2f e3f e4f e5f a1_290 a2_291], [zAr T 0 a1_290 m1f r1f], [zAr T 0 a2_291 7 r2f], wt] _ _ := G.re rfl
      refine z_get C G clX3 7 rfl 0 (by decide) m_fl_RX11_109 rfl dX11_fit_34 ?_
      refine lv_if_eq (tgt := 62) hx hb dX11_fit_37 (by decide) (fun c_292 => ?_) (fun c_292 => ?_)
      · have c_292n : e0f.toInt = (0 : Int) := (fa_eq _ _).mp c_292
        refine lv_aload_n hx hb dX11_fit_62 rfl (lv_at hl 2 rfl) ?_
        refine z_get C G clX11 0 rfl 9 (by decide) m_fl_RX11_65 rfl dX11_fit_63 ?_
        refine lv_aload_n hx hb dX11_fit_66 rfl (lv_at hl 2 rfl) ?_
        refine lv_iload_n hx hb dX11_fit_67 rfl (lv_at hl 3 rfl) ?_
        refine lv_aload_n hx hb dX11_fit_68 rfl (lv_at hl 1 rfl) ?_
        have hcF : (i1.toInt = 1 ∧ 1 < (fk 0).toInt ∧ (0 ≤ i2.toInt ∧ i2.toInt < (fk 2).toInt ∧ i2.toInt < 2) ∧ (e0f.toInt = 0 ∨ ¬ e1f.toInt = i1.toInt ∨ ¬ e2f.toInt = i2.toInt)) := by omega
        have hcN : ¬ (i1.toInt = 0 ∧ 0 < (fk 0).toInt ∧ (0 ≤ i2.toInt ∧ i2.toInt < (fk 2).toInt ∧ i2.toInt < 2) ∧ (e0f.toInt = 0 ∨ ¬ e1f.toInt = i1.toInt ∨ ¬ e2f.toInt = i2.toInt)) := by omega
        have hNAm : zNA (i1.toInt = 1 ∧ 1 < (fk 0).toInt ∧ (0 ≤ i2.toInt ∧ i2.toInt < (fk 2).toInt ∧ i2.toInt < 2) ∧ (e0f.toInt = 0 ∨ ¬ e1f.toInt = i1.toInt ∨ ¬ e2f.toInt = i2.toInt)) mdB n4B (zPl cr1_ inn1_ k11_) = zMk mdB n4B (zPl cr1_ inn1_ k11_) := zNA_y hcF
        have hNAo : zNA (i1.toInt = 0 ∧ 0 < (fk 0).toInt ∧ (0 ≤ i2.toInt ∧ i2.toInt < (fk 2).toInt ∧ i2.toInt < 2) ∧ (e0f.toInt = 0 ∨ ¬ e1f.toInt = i1.toInt ∨ ¬ e2f.toInt = i2.toInt)) mdA n4A (zPl cr0_ inn0_ k10_) = n4A := zNA_n hcN
        have hn9 : zMk mdB n4B (zPl cr1_ inn1_ k11_) ≤ 131072 := zPw_le (zMk_pw hpwB)
        refine z_Vq (bc := [[zO10 xo t im mk rd po co tr wa wb_ fi cd], wwB, z1_]) (br := [z0_, wg0_, wg1_, wwA, [zO3 fi e0f e1f e2f e3f e4f e5f a1_290 a2_291], [zAr T 0 a1_290 m1f r1f], [zAr T 0 a2_291 7 r2f], wt]) (As := [.int i1, .ref l1]) (rest := [.ref fi]) C G (c_waysInB l T xo t im mk rd po co tr wa wb_ fi cd i1 laB mdB wyB pc_B f1B f2B f3B f4B f5B f6B n4B wwB l1 cr1_ inn1_ k11_ k21_ k31_ k41_ z1_ hwwB hz1_ hI1_ hpwB hmdB hwmB (by omega)) (kV_RX11_235 C.2.2.2.2 (Nat.le_of_ble_eq_true rfl) (Nat.le_of_ble_eq_true rfl)) [0, 6, 2] [0, 1, 3] rfl rfl (ci := 10) (qc := (RX11, TX11, 11)) rfl rfl (List.mem_flatten.mpr ⟨_, List.mem_of_getElem? (i := 0) rfl, List.mem_cons_self⟩) rfl rfl hl.1 dX11_fit_69 (by show _ + 3 ≤ 4; omega) (by show _ + (6 * (zMk mdB n4B (zPl cr1_ inn1_ k11_) - n4B)) ≤ 6 * (zNA (i1.toInt = 0 ∧ 0 < (fk 0).toInt ∧ (0 ≤ i2.toInt ∧ i2.toInt < (fk 2).toInt ∧ i2.toInt < 2) ∧ (e0f.toInt = 0 ∨ ¬ e1f.toInt = i1.toInt ∨ ¬ e2f.toInt = i2.toInt)) mdA n4A (zPl cr0_ inn0_ k10_) - n4A) + 6 * (zNA (i1.toInt = 1 ∧ 1 < (fk 0).toInt ∧ (0 ≤ i2.toInt ∧ i2.toInt < (fk 2).toInt ∧ i2.toInt < 2) ∧ (e0f.toInt = 0 ∨ ¬ e1f.toInt = i1.toInt ∨ ¬ e2f.toInt = i2.toInt)) mdB n4B (zPl cr1_ inn1_ k11_) - n4B) + 2 * (zNF (i1.toInt = 1 ∧ 1 < (fk 0).toInt ∧ (0 ≤ i2.toInt ∧ i2.toInt < (fk 2).toInt ∧ i2.toInt < 2) ∧ (e0f.toInt = 0 ∨ ¬ e1f.toInt = i1.toInt ∨ ¬ e2f.toInt = i2.toInt)) (zNF (i1.toInt = 0 ∧ 0 < (fk 0).toInt ∧ (0 ≤ i2.toInt ∧ i2.toInt < (fk 2).toInt ∧ i2.toInt < 2) ∧ (e0f.toInt = 0 ∨ ¬ e1f.toInt = i1.toInt ∨ ¬ e2f.toInt = i2.toInt)) m1f (zMw mdA wyA cr0_ inn0_ k10_)) (zMw mdB wyB cr1_ inn1_ k11_) - m1f); omega) (fun r_307 b1 H locs hw G => ?_)
        refine zEx9 hw ?_
        intro w2_293 m2_294 wy2_295 pc2_296 g1_297 g2_298 g4_299 g5_300 g6_301
        refine zCu6 ?_
        intro hbs9 h_302 h_303 h_304 h_305 h_306
        clear hw
        subst hbs9
        have G : zS T A s.heap s [z0_, wg0_, wg1_, wwA, [zO3 fi e0f e1f e2f e3f e4f e5f a1_290 a2_291], [zAr T 0 a1_290 m1f r1f], [zAr T 0 a2_291 7 r2f], wt, [zO10 xo t im mk rd po co tr wa wb_ fi cd], w2_293, z1_] _ _ := G
        subst h_302
        have hwy9 := h_304
        have hNF : zNF (i1.toInt = 1 ∧ 1 < (fk 0).toInt ∧ (0 ≤ i2.toInt ∧ i2.toInt < (fk 2).toInt ∧ i2.toInt < 2) ∧ (e0f.toInt = 0 ∨ ¬ e1f.toInt = i1.toInt ∨ ¬ e2f.toInt = i2.toInt)) (zNF (i1.toInt = 0 ∧ 0 < (fk 0).toInt ∧ (0 ≤ i2.toInt ∧ i2.toInt < (fk 2).toInt ∧ i2.toInt < 2) ∧ (e0f.toInt = 0 ∨ ¬ e1f.toInt = i1.toInt ∨ ¬ e2f.toInt = i2.toInt)) m1f (zMw mdA wyA cr0_ inn0_ k10_)) (zMw mdB wyB cr1_ inn1_ k11_) = zFl m1f wy2_295 := by rw [zNF_y (c := (i1.toInt = 1 ∧ 1 < (fk 0).toInt ∧ (0 ≤ i2.toInt ∧ i2.toInt < (fk 2).toInt ∧ i2.toInt < 2) ∧ (e0f.toInt = 0 ∨ ¬ e1f.toInt = i1.toInt ∨ ¬ e2f.toInt = i2.toInt))) hcF, zNF_n (c := (i1.toInt = 0 ∧ 0 < (fk 0).toInt ∧ (0 ≤ i2.toInt ∧ i2.toInt < (fk 2).toInt ∧ i2.toInt < 2) ∧ (e0f.toInt = 0 ∨ ¬ e1f.toInt = i1.toInt ∨ ¬ e2f.toInt = i2.toInt))) hcN, h_305]
        have hfw9 := zFl_pw (wy := wy2_295) hfw
        refine lv_aload hx hb dX11_fit_72 (lv_at hl 0 rfl) ?_
        have hw_308 : bFit T fi e0f e1f e2f e3f e4f e5f r1f m1f r2f [zO3 fi e0f e1f e2f e3f e4f e5f a1_290 a2_291, zAr T 0 a1_290 m1f r1f, zAr T 0 a2_291 7 r2f] := ⟨a1_290, a2_291, rfl⟩
        have G : zS T A s.heap s [z0_, wg0_, wg1_, wwA, [zO3 fi e0f e1f e2f e3f e4f e5f a1_290 a2_291, zAr T 0 a1_290 m1f r1f, zAr T 0 a2_291 7 r2f], wt, [zO10 xo t im mk rd po co tr wa wb_ fi cd], w2_293, z1_] _ _ := G.re rfl
        refine z_Vv (bc := [[zO3 fi e0f e1f e2f e3f e4f e5f a1_290 a2_291, zAr T 0 a1_290 m1f r1f, zAr T 0 a2_291 7 r2f], w2_293, z1_, wg1_]) (br := [z0_, wg0_, wwA, wt, [zO10 xo t im mk rd po co tr wa wb_ fi cd]]) (As := [.ref wb_, .ref g1]) (rest := []) C G (c_find l T fi e0f e1f e2f e3f e4f e5f r1f m1f r2f ([zO3 fi e0f e1f e2f e3f e4f e5f a1_290 a2_291, zAr T 0 a1_290 m1f r1f, zAr T 0 a2_291 7 r2f]) wb_ l1 m2_294 wy2_295 pc2_296 g1_297 g2_298 f3B g4_299 g5_300 g6_301 (zMk mdB n4B (zPl cr1_ inn1_ k11_)) w2_293 cr1_ inn1_ k11_ k21_ k31_ k41_ z1_ g1 gg1_ q11_ q21_ wg1_ hw_308 h_303 hz1_ hg1_ hn9 hfw hwy9) (kV_RX11_298 C.2.2.2.2 (Nat.le_of_ble_eq_true rfl) (Nat.le_of_ble_eq_true rfl)) [4, 7, 8, 2] [2, 1, 2, 0] rfl rfl (ci := 3) (qc := (RX3, TX3, 8)) rfl rfl (List.mem_flatten.mpr ⟨_, List.mem_of_getElem? (i := 0) rfl, (bFit_mem hw_308).choose_spec⟩) rfl rfl hl.1 dX11_fit_74 (by show _ + 1 ≤ 4; omega) (by show _ + (2 * (zFl m1f wy2_295 - m1f)) ≤ 6 * (zNA (i1.toInt = 0 ∧ 0 < (fk 0).toInt ∧ (0 ≤ i2.toInt ∧ i2.toInt < (fk 2).toInt ∧ i2.toInt < 2) ∧ (e0f.toInt = 0 ∨ ¬ e1f.toInt = i1.toInt ∨ ¬ e2f.toInt = i2.toInt)) mdA n4A (zPl cr0_ inn0_ k10_) - n4A) + 6 * (zNA (i1.toInt = 1 ∧ 1 < (fk 0).toInt ∧ (0 ≤ i2.toInt ∧ i2.toInt < (fk 2).toInt ∧ i2.toInt < 2) ∧ (e0f.toInt = 0 ∨ ¬ e1f.toInt = i1.toInt ∨ ¬ e2f.toInt = i2.toInt)) mdB n4B (zPl cr1_ inn1_ k11_) - n4B) + 2 * (zNF (i1.toInt = 1 ∧ 1 < (fk 0).toInt ∧ (0 ≤ i2.toInt ∧ i2.toInt < (fk 2).toInt ∧ i2.toInt < 2) ∧ (e0f.toInt = 0 ∨ ¬ e1f.toInt = i1.toInt ∨ ¬ e2f.toInt = i2.toInt)) (zNF (i1.toInt = 0 ∧ 0 < (fk 0).toInt ∧ (0 ≤ i2.toInt ∧ i2.toInt < (fk 2).toInt ∧ i2.toInt < 2) ∧ (e0f.toInt = 0 ∨ ¬ e1f.toInt = i1.toInt ∨ ¬ e2f.toInt = i2.toInt)) m1f (zMw mdA wyA cr0_ inn0_ k10_)) (zMw mdB wyB cr1_ inn1_ k11_) - m1f); omega) (fun b1 H locs hw G => ?_)
        refine zEx5 hw ?_
        intro w2_309 s3_310 s4_311 s5_312 g1_313
        refine zCu3 ?_
        intro hbs9 h_314 h_315
        clear hw
        subst hbs9
        have G : zS T A s.heap s [z0_, wg0_, wwA, wt, [zO10 xo t im mk rd po co tr wa wb_ fi cd], w2_309, w2_293, z1_, wg1_] _ _ := G
        have h39 := h_315
        refine lv_aload_n hx hb dX11_fit_77 rfl (lv_at hl 2 rfl) ?_
        refine z_get C G clX11 4 rfl 9 (by decide) m_fl_RX11_65 rfl dX11_fit_78 ?_
        refine lv_iload_n hx hb dX11_fit_81 rfl (lv_at hl 3 rfl) ?_
        refine zEx2 h_314 ?_
        intro a1_317 a2_318 hbs9
        clear h_314
        subst hbs9
        have G : zS T A s.heap s [z0_, wg0_, wwA, wt, [zO10 xo t im mk rd po co tr wa wb_ fi cd], [zO3 fi e0f e1f e2f s3_310 s4_311 s5_312 a1_317 a2_318], [zAr T 0 a1_317 (zFl m1f wy2_295) g1_313], [zAr T 0 a2_318 7 r2f], w2_293, z1_, wg1_] _ _ := G.re rfl
        refine z_put C G clX3 5 rfl 1 (by decide) m_fl_RX11_292 rfl rfl rfl (Nat.le_of_ble_eq_true rfl) dX11_fit_82 (fun H locs G => ?_)
        have G : zS T A s.heap s [z0_, wg0_, wwA, wt, [zO10 xo t im mk rd po co tr wa wb_ fi cd], [zO3 fi e0f i1 e2f s3_310 s4_311 s5_312 a1_317 a2_318], [zAr T 0 a1_317 (zFl m1f wy2_295) g1_313], [zAr T 0 a2_318 7 r2f], w2_293, z1_, wg1_] _ _ := G
        refine lv_aload_n hx hb dX11_fit_85 rfl (lv_at hl 2 rfl) ?_
        refine z_get C G clX11 4 rfl 9 (by decide) m_fl_RX11_65 rfl dX11_fit_86 ?_
        refine lv_iload_n hx hb dX11_fit_89 rfl (lv_at hl 4 rfl) ?_
        refine z_put C G clX3 5 rfl 2 (by decide) m_fl_RX11_295 rfl rfl rfl (Nat.le_of_ble_eq_true rfl) dX11_fit_90 (fun H locs G => ?_)
        have G : zS T A s.heap s [z0_, wg0_, wwA, wt, [zO10 xo t im mk rd po co tr wa wb_ fi cd], [zO3 fi e0f i1 i2 s3_310 s4_311 s5_312 a1_317 a2_318], [zAr T 0 a1_317 (zFl m1f wy2_295) g1_313], [zAr T 0 a2_318 7 r2f], w2_293, z1_, wg1_] _ _ := G
        refine lv_aload_n hx hb dX11_fit_93 rfl (lv_at hl 2 rfl) ?_
        refine z_get C G clX11 4 rfl 9 (by decide) m_fl_RX11_65 rfl dX11_fit_94 ?_
        refine lv_iconst (v := 1) hx hb dX11_fit_97 (by decide) ?_
        refine z_put C G clX3 5 rfl 0 (by decide) m_fl_RX11_109 rfl rfl rfl (Nat.le_of_ble_eq_true rfl) dX11_fit_98 (fun H locs G => ?_)
        have G : zS T A s.heap s [z0_, wg0_, wwA, wt, [zO10 xo t im mk rd po co tr wa wb_ fi cd], [zO3 fi 1 i1 i2 s3_310 s4_311 s5_312 a1_317 a2_318], [zAr T 0 a1_317 (zFl m1f wy2_295) g1_313], [zAr T 0 a2_318 7 r2f], w2_293, z1_, wg1_] _ _ := G
        refine lv_iconst (v := 1) hx hb dX11_fit_101 (by decide) ?_
        have hw_319 : bFit T fi 1 i1 i2 s3_310 s4_311 s5_312 g1_313 (zFl m1f wy2_295) r2f [zO3 fi 1 i1 i2 s3_310 s4_311 s5_312 a1_317 a2_318, zAr T 0 a1_317 (zFl m1f wy2_295) g1_313, zAr T 0 a2_318 7 r2f] := ⟨a1_317, a2_318, rfl⟩
        have G : zS T A s.heap s [z0_, wg0_, wwA, wt, [zO10 xo t im mk rd po co tr wa wb_ fi cd], [zO3 fi 1 i1 i2 s3_310 s4_311 s5_312 a1_317 a2_318, zAr T 0 a1_317 (zFl m1f wy2_295) g1_313, zAr T 0 a2_318 7 r2f], w2_293, z1_, wg1_] _ _ := G.re rfl
        have G := G.sub (bs' := [[zO10 xo t im mk rd po co tr wa wb_ fi cd], wt, z0_, z1_, wg0_, wg1_, wwA, w2_293, [zO3 fi 1 i1 i2 s3_310 s4_311 s5_312 a1_317 a2_318, zAr T 0 a1_317 (zFl m1f wy2_295) g1_313, zAr T 0 a2_318 7 r2f]]) [4, 3, 0, 7, 1, 8, 2, 6, 5] rfl
        exact z_back hQ9 (z_zret C hr hlocks G (by omega) (by omega) dX11_fit_102 rfl ⟨laA, mdA, wyA, pc_A, f1A, f2A, f3A, f4A, f5A, f6A, n4A, wwA, l1, m2_294, wy2_295, pc2_296, g1_297, g2_298, f3B, g4_299, g5_300, g6_301, (zMk mdB n4B (zPl cr1_ inn1_ k11_)), w2_293, 1, i1, i2, s3_310, s4_311, s5_312, g1_313, (zFl m1f wy2_295), r2f, ([zO3 fi 1 i1 i2 s3_310 s4_311 s5_312 a1_317 a2_318, zAr T 0 a1_317 (zFl m1f wy2_295) g1_313, zAr T 0 a2_318 7 r2f]), rfl, hwwA, hmdA, hwmA, (zNA_n (by omega)).symm, hpwA, (fun q => q), h_303, (Or.inr rfl), hwy9, hNAm.symm, (zMk_pw hpwB), (fun _ => h_306), hw_319, hNF.symm, hfw9, h39, (Or.inr ⟨rfl, by omega, by decide, rfl⟩), (fun _ => Or.inr ⟨by omega, h_306⟩)⟩)
      · have c_292n : ¬ e0f.toInt = (0 : Int) := fun q => c_292 ((fa_eq _ _).mpr q)
        refine lv_aload_n hx hb dX11_fit_40 rfl (lv_at hl 2 rfl) ?_
        refine z_get C G clX11 0 rfl 9 (by decide) m_fl_RX11_65 rfl dX11_fit_41 ?_
        refine z_get C G clX3 7 rfl 1 (by decide) m_fl_RX11_292 rfl dX11_fit_44 ?_
        refine lv_iload_n hx hb dX11_fit_47 rfl (lv_at hl 3 rfl) ?_
        refine lv_icmp_ne (tgt := 62) hx hb dX11_fit_48 (by decide) (fun c_320 => ?_) (fun c_320 => ?_)
        · have c_320n : ¬ e1f.toInt = i1.toInt := fun q => c_320 ((fa_eq _ _).mpr q)
          refine lv_aload_n hx hb dX11_fit_62 rfl (lv_at hl 2 rfl) ?_
          refine z_get C G clX11 0 rfl 9 (by decide) m_fl_RX11_65 rfl dX11_fit_63 ?_
          refine lv_aload_n hx hb dX11_fit_66 rfl (lv_at hl 2 rfl) ?_
          refine lv_iload_n hx hb dX11_fit_67 rfl (lv_at hl 3 rfl) ?_
          refine lv_aload_n hx hb dX11_fit_68 rfl (lv_at hl 1 rfl) ?_
          have hcF : (i1.toInt = 1 ∧ 1 < (fk 0).toInt ∧ (0 ≤ i2.toInt ∧ i2.toInt < (fk 2).toInt ∧ i2.toInt < 2) ∧ (e0f.toInt = 0 ∨ ¬ e1f.toInt = i1.toInt ∨ ¬ e2f.toInt = i2.toInt)) := by omega
          have hcN : ¬ (i1.toInt = 0 ∧ 0 < (fk 0).toInt ∧ (0 ≤ i2.toInt ∧ i2.toInt < (fk 2).toInt ∧ i2.toInt < 2) ∧ (e0f.toInt = 0 ∨ ¬ e1f.toInt = i1.toInt ∨ ¬ e2f.toInt = i2.toInt)) := by omega
          have hNAm : zNA (i1.toInt = 1 ∧ 1 < (fk 0).toInt ∧ (0 ≤ i2.toInt ∧ i2.toInt < (fk 2).toInt ∧ i2.toInt < 2) ∧ (e0f.toInt = 0 ∨ ¬ e1f.toInt = i1.toInt ∨ ¬ e2f.toInt = i2.toInt)) mdB n4B (zPl cr1_ inn1_ k11_) = zMk mdB n4B (zPl cr1_ inn1_ k11_) := zNA_y hcF
          have hNAo : zNA (i1.toInt = 0 ∧ 0 < (fk 0).toInt ∧ (0 ≤ i2.toInt ∧ i2.toInt < (fk 2).toInt ∧ i2.toInt < 2) ∧ (e0f.toInt = 0 ∨ ¬ e1f.toInt = i1.toInt ∨ ¬ e2f.toInt = i2.toInt)) mdA n4A (zPl cr0_ inn0_ k10_) = n4A := zNA_n hcN
          have hn9 : zMk mdB n4B (zPl cr1_ inn1_ k11_) ≤ 131072 := zPw_le (zMk_pw hpwB)
          refine z_Vq (bc := [[zO10 xo t im mk rd po co tr wa wb_ fi cd], wwB, z1_]) (br := [z0_, wg0_, wg1_, wwA, [zO3 fi e0f e1f e2f e3f e4f e5f a1_290 a2_291], [zAr T 0 a1_290 m1f r1f], [zAr T 0 a2_291 7 r2f], wt]) (As := [.int i1, .ref l1]) (rest := [.ref fi]) C G (c_waysInB l T xo t im mk rd po co tr wa wb_ fi cd i1 laB mdB wyB pc_B f1B f2B f3B f4B f5B f6B n4B wwB l1 cr1_ inn1_ k11_ k21_ k31_ k41_ z1_ hwwB hz1_ hI1_ hpwB hmdB hwmB (by omega)) (kV_RX11_235 C.2.2.2.2 (Nat.le_of_ble_eq_true rfl) (Nat.le_of_ble_eq_true rfl)) [0, 6, 2] [0, 1, 3] rfl rfl (ci := 10) (qc := (RX11, TX11, 11)) rfl rfl (List.mem_flatten.mpr ⟨_, List.mem_of_getElem? (i := 0) rfl, List.mem_cons_self⟩) rfl rfl hl.1 dX11_fit_69 (by show _ + 3 ≤ 4; omega) (by show _ + (6 * (zMk mdB n4B (zPl cr1_ inn1_ k11_) - n4B)) ≤ 6 * (zNA (i1.toInt = 0 ∧ 0 < (fk 0).toInt ∧ (0 ≤ i2.toInt ∧ i2.toInt < (fk 2).toInt ∧ i2.toInt < 2) ∧ (e0f.toInt = 0 ∨ ¬ e1f.toInt = i1.toInt ∨ ¬ e2f.toInt = i2.toInt)) mdA n4A (zPl cr0_ inn0_ k10_) - n4A) + 6 * (zNA (i1.toInt = 1 ∧ 1 < (fk 0).toInt ∧ (0 ≤ i2.toInt ∧ i2.toInt < (fk 2).toInt ∧ i2.toInt < 2) ∧ (e0f.toInt = 0 ∨ ¬ e1f.toInt = i1.toInt ∨ ¬ e2f.toInt = i2.toInt)) mdB n4B (zPl cr1_ inn1_ k11_) - n4B) + 2 * (zNF (i1.toInt = 1 ∧ 1 < (fk 0).toInt ∧ (0 ≤ i2.toInt ∧ i2.toInt < (fk 2).toInt ∧ i2.toInt < 2) ∧ (e0f.toInt = 0 ∨ ¬ e1f.toInt = i1.toInt ∨ ¬ e2f.toInt = i2.toInt)) (zNF (i1.toInt = 0 ∧ 0 < (fk 0).toInt ∧ (0 ≤ i2.toInt ∧ i2.toInt < (fk 2).toInt ∧ i2.toInt < 2) ∧ (e0f.toInt = 0 ∨ ¬ e1f.toInt = i1.toInt ∨ ¬ e2f.toInt = i2.toInt)) m1f (zMw mdA wyA cr0_ inn0_ k10_)) (zMw mdB wyB cr1_ inn1_ k11_) - m1f); omega) (fun r_335 b1 H locs hw G => ?_)
          refine zEx9 hw ?_
          intro w2_321 m2_322 wy2_323 pc2_324 g1_325 g2_326 g4_327 g5_328 g6_329
          refine zCu6 ?_
          intro hbs9 h_330 h_331 h_332 h_333 h_334
          clear hw
          subst hbs9
          have G : zS T A s.heap s [z0_, wg0_, wg1_, wwA, [zO3 fi e0f e1f e2f e3f e4f e5f a1_290 a2_291], [zAr T 0 a1_290 m1f r1f], [zAr T 0 a2_291 7 r2f], wt, [zO10 xo t im mk rd po co tr wa wb_ fi cd], w2_321, z1_] _ _ := G
          subst h_330
          have hwy9 := h_332
          have hNF : zNF (i1.toInt = 1 ∧ 1 < (fk 0).toInt ∧ (0 ≤ i2.toInt ∧ i2.toInt < (fk 2).toInt ∧ i2.toInt < 2) ∧ (e0f.toInt = 0 ∨ ¬ e1f.toInt = i1.toInt ∨ ¬ e2f.toInt = i2.toInt)) (zNF (i1.toInt = 0 ∧ 0 < (fk 0).toInt ∧ (0 ≤ i2.toInt ∧ i2.toInt < (fk 2).toInt ∧ i2.toInt < 2) ∧ (e0f.toInt = 0 ∨ ¬ e1f.toInt = i1.toInt ∨ ¬ e2f.toInt = i2.toInt)) m1f (zMw mdA wyA cr0_ inn0_ k10_)) (zMw mdB wyB cr1_ inn1_ k11_) = zFl m1f wy2_323 := by rw [zNF_y (c := (i1.toInt = 1 ∧ 1 < (fk 0).toInt ∧ (0 ≤ i2.toInt ∧ i2.toInt < (fk 2).toInt ∧ i2.toInt < 2) ∧ (e0f.toInt = 0 ∨ ¬ e1f.toInt = i1.toInt ∨ ¬ e2f.toInt = i2.toInt))) hcF, zNF_n (c := (i1.toInt = 0 ∧ 0 < (fk 0).toInt ∧ (0 ≤ i2.toInt ∧ i2.toInt < (fk 2).toInt ∧ i2.toInt < 2) ∧ (e0f.toInt = 0 ∨ ¬ e1f.toInt = i1.toInt ∨ ¬ e2f.toInt = i2.toInt))) hcN, h_333]
          have hfw9 := zFl_pw (wy := wy2_323) hfw
          refine lv_aload hx hb dX11_fit_72 (lv_at hl 0 rfl) ?_
          have hw_336 : bFit T fi e0f e1f e2f e3f e4f e5f r1f m1f r2f [zO3 fi e0f e1f e2f e3f e4f e5f a1_290 a2_291, zAr T 0 a1_290 m1f r1f, zAr T 0 a2_291 7 r2f] := ⟨a1_290, a2_291, rfl⟩
          have G : zS T A s.heap s [z0_, wg0_, wg1_, wwA, [zO3 fi e0f e1f e2f e3f e4f e5f a1_290 a2_291, zAr T 0 a1_290 m1f r1f, zAr T 0 a2_291 7 r2f], wt, [zO10 xo t im mk rd po co tr wa wb_ fi cd], w2_321, z1_] _ _ := G.re rfl
          refine z_Vv (bc := [[zO3 fi e0f e1f e2f e3f e4f e5f a1_290 a2_291, zAr T 0 a1_290 m1f r1f, zAr T 0 a2_291 7 r2f], w2_321, z1_, wg1_]) (br := [z0_, wg0_, wwA, wt, [zO10 xo t im mk rd po co tr wa wb_ fi cd]]) (As := [.ref wb_, .ref g1]) (rest := []) C G (c_find l T fi e0f e1f e2f e3f e4f e5f r1f m1f r2f ([zO3 fi e0f e1f e2f e3f e4f e5f a1_290 a2_291, zAr T 0 a1_290 m1f r1f, zAr T 0 a2_291 7 r2f]) wb_ l1 m2_322 wy2_323 pc2_324 g1_325 g2_326 f3B g4_327 g5_328 g6_329 (zMk mdB n4B (zPl cr1_ inn1_ k11_)) w2_321 cr1_ inn1_ k11_ k21_ k31_ k41_ z1_ g1 gg1_ q11_ q21_ wg1_ hw_336 h_331 hz1_ hg1_ hn9 hfw hwy9) (kV_RX11_298 C.2.2.2.2 (Nat.le_of_ble_eq_true rfl) (Nat.le_of_ble_eq_true rfl)) [4, 7, 8, 2] [2, 1, 2, 0] rfl rfl (ci := 3) (qc := (RX3, TX3, 8)) rfl rfl (List.mem_flatten.mpr ⟨_, List.mem_of_getElem? (i := 0) rfl, (bFit_mem hw_336).choose_spec⟩) rfl rfl hl.1 dX11_fit_74 (by show _ + 1 ≤ 4; omega) (by show _ + (2 * (zFl m1f wy2_323 - m1f)) ≤ 6 * (zNA (i1.toInt = 0 ∧ 0 < (fk 0).toInt ∧ (0 ≤ i2.toInt ∧ i2.toInt < (fk 2).toInt ∧ i2.toInt < 2) ∧ (e0f.toInt = 0 ∨ ¬ e1f.toInt = i1.toInt ∨ ¬ e2f.toInt = i2.toInt)) mdA n4A (zPl cr0_ inn0_ k10_) - n4A) + 6 * (zNA (i1.toInt = 1 ∧ 1 < (fk 0).toInt ∧ (0 ≤ i2.toInt ∧ i2.toInt < (fk 2).toInt ∧ i2.toInt < 2) ∧ (e0f.toInt = 0 ∨ ¬ e1f.toInt = i1.toInt ∨ ¬ e2f.toInt = i2.toInt)) mdB n4B (zPl cr1_ inn1_ k11_) - n4B) + 2 * (zNF (i1.toInt = 1 ∧ 1 < (fk 0).toInt ∧ (0 ≤ i2.toInt ∧ i2.toInt < (fk 2).toInt ∧ i2.toInt < 2) ∧ (e0f.toInt = 0 ∨ ¬ e1f.toInt = i1.toInt ∨ ¬ e2f.toInt = i2.toInt)) (zNF (i1.toInt = 0 ∧ 0 < (fk 0).toInt ∧ (0 ≤ i2.toInt ∧ i2.toInt < (fk 2).toInt ∧ i2.toInt < 2) ∧ (e0f.toInt = 0 ∨ ¬ e1f.toInt = i1.toInt ∨ ¬ e2f.toInt = i2.toInt)) m1f (zMw mdA wyA cr0_ inn0_ k10_)) (zMw mdB wyB cr1_ inn1_ k11_) - m1f); omega) (fun b1 H locs hw G => ?_)
          refine zEx5 hw ?_
          intro w2_337 s3_338 s4_339 s5_340 g1_341
          refine zCu3 ?_
          intro hbs9 h_342 h_343
          clear hw
          subst hbs9
          have G : zS T A s.heap s [z0_, wg0_, wwA, wt, [zO10 xo t im mk rd po co tr wa wb_ fi cd], w2_337, w2_321, z1_, wg1_] _ _ := G
          have h39 := h_343
          refine lv_aload_n hx hb dX11_fit_77 rfl (lv_at hl 2 rfl) ?_
          refine z_get C G clX11 4 rfl 9 (by decide) m_fl_RX11_65 rfl dX11_fit_78 ?_
          refine lv_iload_n hx hb dX11_fit_81 rfl (lv_at hl 3 rfl) ?_
          refine zEx2 h_342 ?_
          intro a1_345 a2_346 hbs9
          clear h_342
          subst hbs9
          have G : zS T A s.heap s [z0_, wg0_, wwA, wt, [zO10 xo t im mk rd po co tr wa wb_ fi cd], [zO3 fi e0f e1f e2f s3_338 s4_339 s5_340 a1_345 a2_346], [zAr T 0 a1_345 (zFl m1f wy2_323) g1_341], [zAr T 0 a2_346 7 r2f], w2_321, z1_, wg1_] _ _ := G.re rfl
          refine z_put C G clX3 5 rfl 1 (by decide) m_fl_RX11_292 rfl rfl rfl (Nat.le_of_ble_eq_true rfl) dX11_fit_82 (fun H locs G => ?_)
          have G : zS T A s.heap s [z0_, wg0_, wwA, wt, [zO10 xo t im mk rd po co tr wa wb_ fi cd], [zO3 fi e0f i1 e2f s3_338 s4_339 s5_340 a1_345 a2_346], [zAr T 0 a1_345 (zFl m1f wy2_323) g1_341], [zAr T 0 a2_346 7 r2f], w2_321, z1_, wg1_] _ _ := G
          refine lv_aload_n hx hb dX11_fit_85 rfl (lv_at hl 2 rfl) ?_
          refine z_get C G clX11 4 rfl 9 (by decide) m_fl_RX11_65 rfl dX11_fit_86 ?_
          refine lv_iload_n hx hb dX11_fit_89 rfl (lv_at hl 4 rfl) ?_
          refine z_put C G clX3 5 rfl 2 (by decide) m_fl_RX11_295 rfl rfl rfl (Nat.le_of_ble_eq_true rfl) dX11_fit_90 (fun H locs G => ?_)
          have G : zS T A s.heap s [z0_, wg0_, wwA, wt, [zO10 xo t im mk rd po co tr wa wb_ fi cd], [zO3 fi e0f i1 i2 s3_338 s4_339 s5_340 a1_345 a2_346], [zAr T 0 a1_345 (zFl m1f wy2_323) g1_341], [zAr T 0 a2_346 7 r2f], w2_321, z1_, wg1_] _ _ := G
          refine lv_aload_n hx hb dX11_fit_93 rfl (lv_at hl 2 rfl) ?_
          refine z_get C G clX11 4 rfl 9 (by decide) m_fl_RX11_65 rfl dX11_fit_94 ?_
          refine lv_iconst (v := 1) hx hb dX11_fit_97 (by decide) ?_
          refine z_put C G clX3 5 rfl 0 (by decide) m_fl_RX11_109 rfl rfl rfl (Nat.le_of_ble_eq_true rfl) dX11_fit_98 (fun H locs G => ?_)
          have G : zS T A s.heap s [z0_, wg0_, wwA, wt, [zO10 xo t im mk rd po co tr wa wb_ fi cd], [zO3 fi 1 i1 i2 s3_338 s4_339 s5_340 a1_345 a2_346], [zAr T 0 a1_345 (zFl m1f wy2_323) g1_341], [zAr T 0 a2_346 7 r2f], w2_321, z1_, wg1_] _ _ := G
          refine lv_iconst (v := 1) hx hb dX11_fit_101 (by decide) ?_
          have hw_347 : bFit T fi 1 i1 i2 s3_338 s4_339 s5_340 g1_341 (zFl m1f wy2_323) r2f [zO3 fi 1 i1 i2 s3_338 s4_339 s5_340 a1_345 a2_346, zAr T 0 a1_345 (zFl m1f wy2_323) g1_341, zAr T 0 a2_346 7 r2f] := ⟨a1_345, a2_346, rfl⟩
          have G : zS T A s.heap s [z0_, wg0_, wwA, wt, [zO10 xo t im mk rd po co tr wa wb_ fi cd], [zO3 fi 1 i1 i2 s3_338 s4_339 s5_340 a1_345 a2_346, zAr T 0 a1_345 (zFl m1f wy2_323) g1_341, zAr T 0 a2_346 7 r2f], w2_321, z1_, wg1_] _ _ := G.re rfl
          have G := G.sub (bs' := [[zO10 xo t im mk rd po co tr wa wb_ fi cd], wt, z0_, z1_, wg0_, wg1_, wwA, w2_321, [zO3 fi 1 i1 i2 s3_338 s4_339 s5_340 a1_345 a2_346, zAr T 0 a1_345 (zFl m1f wy2_323) g1_341, zAr T 0 a2_346 7 r2f]]) [4, 3, 0, 7, 1, 8, 2, 6, 5] rfl
          exact z_back hQ9 (z_zret C hr hlocks G (by omega) (by omega) dX11_fit_102 rfl ⟨laA, mdA, wyA, pc_A, f1A, f2A, f3A, f4A, f5A, f6A, n4A, wwA, l1, m2_322, wy2_323, pc2_324, g1_325, g2_326, f3B, g4_327, g5_328, g6_329, (zMk mdB n4B (zPl cr1_ inn1_ k11_)), w2_321, 1, i1, i2, s3_338, s4_339, s5_340, g1_341, (zFl m1f wy2_323), r2f, ([zO3 fi 1 i1 i2 s3_338 s4_339 s5_340 a1_345 a2_346, zAr T 0 a1_345 (zFl m1f wy2_323) g1_341, zAr T 0 a2_346 7 r2f]), rfl, hwwA, hmdA, hwmA, (zNA_n (by omega)).symm, hpwA, (fun q => q), h_331, (Or.inr rfl), hwy9, hNAm.symm, (zMk_pw hpwB), (fun _ => h_334), hw_347, hNF.symm, hfw9, h39, (Or.inr ⟨rfl, by omega, by decide, rfl⟩), (fun _ => Or.inr ⟨by omega, h_334⟩)⟩)
        · have c_320n : e1f.toInt = i1.toInt := (fa_eq _ _).mp c_320
          refine lv_aload_n hx hb dX11_fit_51 rfl (lv_at hl 2 rfl) ?_
          refine z_get C G clX11 0 rfl 9 (by decide) m_fl_RX11_65 rfl dX11_fit_52 ?_
          refine z_get C G clX3 7 rfl 2 (by decide) m_fl_RX11_295 rfl dX11_fit_55 ?_
          refine lv_iload_n hx hb dX11_fit_58 rfl (lv_at hl 4 rfl) ?_
          refine lv_icmp_eq (tgt := 101) hx hb dX11_fit_59 (by decide) (fun c_348 => ?_) (fun c_348 => ?_)
          · have c_348n : e2f.toInt = i2.toInt := (fa_eq _ _).mp c_348
            refine lv_iconst (v := 1) hx hb dX11_fit_101 (by decide) ?_
            have hw_349 : bFit T fi e0f e1f e2f e3f e4f e5f r1f m1f r2f [zO3 fi e0f e1f e2f e3f e4f e5f a1_290 a2_291, zAr T 0 a1_290 m1f r1f, zAr T 0 a2_291 7 r2f] := ⟨a1_290, a2_291, rfl⟩
            have G : zS T A s.heap s [[zO10 xo t im mk rd po co tr wa wb_ fi cd], z0_, z1_, wg0_, wg1_, wwA, wwB, [zO3 fi e0f e1f e2f e3f e4f e5f a1_290 a2_291, zAr T 0 a1_290 m1f r1f, zAr T 0 a2_291 7 r2f], wt] _ _ := G.re rfl
            have G := G.sub (bs' := [[zO10 xo t im mk rd po co tr wa wb_ fi cd], wt, z0_, z1_, wg0_, wg1_, wwA, wwB, [zO3 fi e0f e1f e2f e3f e4f e5f a1_290 a2_291, zAr T 0 a1_290 m1f r1f, zAr T 0 a2_291 7 r2f]]) [0, 8, 1, 2, 3, 4, 5, 6, 7] rfl
            exact z_back hQ9 (z_zret C hr hlocks G (by omega) (by omega) dX11_fit_102 rfl ⟨laA, mdA, wyA, pc_A, f1A, f2A, f3A, f4A, f5A, f6A, n4A, wwA, laB, mdB, wyB, pc_B, f1B, f2B, f3B, f4B, f5B, f6B, n4B, wwB, e0f, e1f, e2f, e3f, e4f, e5f, r1f, m1f, r2f, ([zO3 fi e0f e1f e2f e3f e4f e5f a1_290 a2_291, zAr T 0 a1_290 m1f r1f, zAr T 0 a2_291 7 r2f]), rfl, hwwA, hmdA, hwmA, (zNA_n (by omega)).symm, hpwA, (fun q => q), hwwB, hmdB, hwmB, (zNA_n (by omega)).symm, hpwB, (fun q => q), hw_349, (((zNF_n (c := (i1.toInt = 1 ∧ 1 < (fk 0).toInt ∧ (0 ≤ i2.toInt ∧ i2.toInt < (fk 2).toInt ∧ i2.toInt < 2) ∧ (e0f.toInt = 0 ∨ ¬ e1f.toInt = i1.toInt ∨ ¬ e2f.toInt = i2.toInt))) (by omega)).trans (zNF_n (by omega))).symm), hfw, hf3, (Or.inr ⟨rfl, by omega, (fun q => absurd (congrArg Int32.toInt q) (by show ¬ _ = (0 : Int); omega)), by omega⟩), hFI⟩)
          · have c_348n : ¬ e2f.toInt = i2.toInt := fun q => c_348 ((fa_eq _ _).mpr q)
            refine lv_aload_n hx hb dX11_fit_62 rfl (lv_at hl 2 rfl) ?_
            refine z_get C G clX11 0 rfl 9 (by decide) m_fl_RX11_65 rfl dX11_fit_63 ?_
            refine lv_aload_n hx hb dX11_fit_66 rfl (lv_at hl 2 rfl) ?_
            refine lv_iload_n hx hb dX11_fit_67 rfl (lv_at hl 3 rfl) ?_
            refine lv_aload_n hx hb dX11_fit_68 rfl (lv_at hl 1 rfl) ?_
            have hcF : (i1.toInt = 1 ∧ 1 < (fk 0).toInt ∧ (0 ≤ i2.toInt ∧ i2.toInt < (fk 2).toInt ∧ i2.toInt < 2) ∧ (e0f.toInt = 0 ∨ ¬ e1f.toInt = i1.toInt ∨ ¬ e2f.toInt = i2.toInt)) := by omega
            have hcN : ¬ (i1.toInt = 0 ∧ 0 < (fk 0).toInt ∧ (0 ≤ i2.toInt ∧ i2.toInt < (fk 2).toInt ∧ i2.toInt < 2) ∧ (e0f.toInt = 0 ∨ ¬ e1f.toInt = i1.toInt ∨ ¬ e2f.toInt = i2.toInt)) := by omega
            have hNAm : zNA (i1.toInt = 1 ∧ 1 < (fk 0).toInt ∧ (0 ≤ i2.toInt ∧ i2.toInt < (fk 2).toInt ∧ i2.toInt < 2) ∧ (e0f.toInt = 0 ∨ ¬ e1f.toInt = i1.toInt ∨ ¬ e2f.toInt = i2.toInt)) mdB n4B (zPl cr1_ inn1_ k11_) = zMk mdB n4B (zPl cr1_ inn1_ k11_) := zNA_y hcF
            have hNAo : zNA (i1.toInt = 0 ∧ 0 < (fk 0).toInt ∧ (0 ≤ i2.toInt ∧ i2.toInt < (fk 2).toInt ∧ i2.toInt < 2) ∧ (e0f.toInt = 0 ∨ ¬ e1f.toInt = i1.toInt ∨ ¬ e2f.toInt = i2.toInt)) mdA n4A (zPl cr0_ inn0_ k10_) = n4A := zNA_n hcN
            have hn9 : zMk mdB n4B (zPl cr1_ inn1_ k11_) ≤ 131072 := zPw_le (zMk_pw hpwB)
            refine z_Vq (bc := [[zO10 xo t im mk rd po co tr wa wb_ fi cd], wwB, z1_]) (br := [z0_, wg0_, wg1_, wwA, [zO3 fi e0f e1f e2f e3f e4f e5f a1_290 a2_291], [zAr T 0 a1_290 m1f r1f], [zAr T 0 a2_291 7 r2f], wt]) (As := [.int i1, .ref l1]) (rest := [.ref fi]) C G (c_waysInB l T xo t im mk rd po co tr wa wb_ fi cd i1 laB mdB wyB pc_B f1B f2B f3B f4B f5B f6B n4B wwB l1 cr1_ inn1_ k11_ k21_ k31_ k41_ z1_ hwwB hz1_ hI1_ hpwB hmdB hwmB (by omega)) (kV_RX11_235 C.2.2.2.2 (Nat.le_of_ble_eq_true rfl) (Nat.le_of_ble_eq_true rfl)) [0, 6, 2] [0, 1, 3] rfl rfl (ci := 10) (qc := (RX11, TX11, 11)) rfl rfl (List.mem_flatten.mpr ⟨_, List.mem_of_getElem? (i := 0) rfl, List.mem_cons_self⟩) rfl rfl hl.1 dX11_fit_69 (by show _ + 3 ≤ 4; omega) (by show _ + (6 * (zMk mdB n4B (zPl cr1_ inn1_ k11_) - n4B)) ≤ 6 * (zNA (i1.toInt = 0 ∧ 0 < (fk 0).toInt ∧ (0 ≤ i2.toInt ∧ i2.toInt < (fk 2).toInt ∧ i2.toInt < 2) ∧ (e0f.toInt = 0 ∨ ¬ e1f.toInt = i1.toInt ∨ ¬ e2f.toInt = i2.toInt)) mdA n4A (zPl cr0_ inn0_ k10_) - n4A) + 6 * (zNA (i1.toInt = 1 ∧ 1 < (fk 0).toInt ∧ (0 ≤ i2.toInt ∧ i2.toInt < (fk 2).toInt ∧ i2.toInt < 2) ∧ (e0f.toInt = 0 ∨ ¬ e1f.toInt = i1.toInt ∨ ¬ e2f.toInt = i2.toInt)) mdB n4B (zPl cr1_ inn1_ k11_) - n4B) + 2 * (zNF (i1.toInt = 1 ∧ 1 < (fk 0).toInt ∧ (0 ≤ i2.toInt ∧ i2.toInt < (fk 2).toInt ∧ i2.toInt < 2) ∧ (e0f.toInt = 0 ∨ ¬ e1f.toInt = i1.toInt ∨ ¬ e2f.toInt = i2.toInt)) (zNF (i1.toInt = 0 ∧ 0 < (fk 0).toInt ∧ (0 ≤ i2.toInt ∧ i2.toInt < (fk 2).toInt ∧ i2.toInt < 2) ∧ (e0f.toInt = 0 ∨ ¬ e1f.toInt = i1.toInt ∨ ¬ e2f.toInt = i2.toInt)) m1f (zMw mdA wyA cr0_ inn0_ k10_)) (zMw mdB wyB cr1_ inn1_ k11_) - m1f); omega) (fun r_364 b1 H locs hw G => ?_)
            refine zEx9 hw ?_
            intro w2_350 m2_351 wy2_352 pc2_353 g1_354 g2_355 g4_356 g5_357 g6_358
            refine zCu6 ?_
            intro hbs9 h_359 h_360 h_361 h_362 h_363
            clear hw
            subst hbs9
            have G : zS T A s.heap s [z0_, wg0_, wg1_, wwA, [zO3 fi e0f e1f e2f e3f e4f e5f a1_290 a2_291], [zAr T 0 a1_290 m1f r1f], [zAr T 0 a2_291 7 r2f], wt, [zO10 xo t im mk rd po co tr wa wb_ fi cd], w2_350, z1_] _ _ := G
            subst h_359
            have hwy9 := h_361
            have hNF : zNF (i1.toInt = 1 ∧ 1 < (fk 0).toInt ∧ (0 ≤ i2.toInt ∧ i2.toInt < (fk 2).toInt ∧ i2.toInt < 2) ∧ (e0f.toInt = 0 ∨ ¬ e1f.toInt = i1.toInt ∨ ¬ e2f.toInt = i2.toInt)) (zNF (i1.toInt = 0 ∧ 0 < (fk 0).toInt ∧ (0 ≤ i2.toInt ∧ i2.toInt < (fk 2).toInt ∧ i2.toInt < 2) ∧ (e0f.toInt = 0 ∨ ¬ e1f.toInt = i1.toInt ∨ ¬ e2f.toInt = i2.toInt)) m1f (zMw mdA wyA cr0_ inn0_ k10_)) (zMw mdB wyB cr1_ inn1_ k11_) = zFl m1f wy2_352 := by rw [zNF_y (c := (i1.toInt = 1 ∧ 1 < (fk 0).toInt ∧ (0 ≤ i2.toInt ∧ i2.toInt < (fk 2).toInt ∧ i2.toInt < 2) ∧ (e0f.toInt = 0 ∨ ¬ e1f.toInt = i1.toInt ∨ ¬ e2f.toInt = i2.toInt))) hcF, zNF_n (c := (i1.toInt = 0 ∧ 0 < (fk 0).toInt ∧ (0 ≤ i2.toInt ∧ i2.toInt < (fk 2).toInt ∧ i2.toInt < 2) ∧ (e0f.toInt = 0 ∨ ¬ e1f.toInt = i1.toInt ∨ ¬ e2f.toInt = i2.toInt))) hcN, h_362]
            have hfw9 := zFl_pw (wy := wy2_352) hfw
            refine lv_aload hx hb dX11_fit_72 (lv_at hl 0 rfl) ?_
            have hw_365 : bFit T fi e0f e1f e2f e3f e4f e5f r1f m1f r2f [zO3 fi e0f e1f e2f e3f e4f e5f a1_290 a2_291, zAr T 0 a1_290 m1f r1f, zAr T 0 a2_291 7 r2f] := ⟨a1_290, a2_291, rfl⟩
            have G : zS T A s.heap s [z0_, wg0_, wg1_, wwA, [zO3 fi e0f e1f e2f e3f e4f e5f a1_290 a2_291, zAr T 0 a1_290 m1f r1f, zAr T 0 a2_291 7 r2f], wt, [zO10 xo t im mk rd po co tr wa wb_ fi cd], w2_350, z1_] _ _ := G.re rfl
            refine z_Vv (bc := [[zO3 fi e0f e1f e2f e3f e4f e5f a1_290 a2_291, zAr T 0 a1_290 m1f r1f, zAr T 0 a2_291 7 r2f], w2_350, z1_, wg1_]) (br := [z0_, wg0_, wwA, wt, [zO10 xo t im mk rd po co tr wa wb_ fi cd]]) (As := [.ref wb_, .ref g1]) (rest := []) C G (c_find l T fi e0f e1f e2f e3f e4f e5f r1f m1f r2f ([zO3 fi e0f e1f e2f e3f e4f e5f a1_290 a2_291, zAr T 0 a1_290 m1f r1f, zAr T 0 a2_291 7 r2f]) wb_ l1 m2_351 wy2_352 pc2_353 g1_354 g2_355 f3B g4_356 g5_357 g6_358 (zMk mdB n4B (zPl cr1_ inn1_ k11_)) w2_350 cr1_ inn1_ k11_ k21_ k31_ k41_ z1_ g1 gg1_ q11_ q21_ wg1_ hw_365 h_360 hz1_ hg1_ hn9 hfw hwy9) (kV_RX11_298 C.2.2.2.2 (Nat.le_of_ble_eq_true rfl) (Nat.le_of_ble_eq_true rfl)) [4, 7, 8, 2] [2, 1, 2, 0] rfl rfl (ci := 3) (qc := (RX3, TX3, 8)) rfl rfl (List.mem_flatten.mpr ⟨_, List.mem_of_getElem? (i := 0) rfl, (bFit_mem hw_365).choose_spec⟩) rfl rfl hl.1 dX11_fit_74 (by show _ + 1 ≤ 4; omega) (by show _ + (2 * (zFl m1f wy2_352 - m1f)) ≤ 6 * (zNA (i1.toInt = 0 ∧ 0 < (fk 0).toInt ∧ (0 ≤ i2.toInt ∧ i2.toInt < (fk 2).toInt ∧ i2.toInt < 2) ∧ (e0f.toInt = 0 ∨ ¬ e1f.toInt = i1.toInt ∨ ¬ e2f.toInt = i2.toInt)) mdA n4A (zPl cr0_ inn0_ k10_) - n4A) + 6 * (zNA (i1.toInt = 1 ∧ 1 < (fk 0).toInt ∧ (0 ≤ i2.toInt ∧ i2.toInt < (fk 2).toInt ∧ i2.toInt < 2) ∧ (e0f.toInt = 0 ∨ ¬ e1f.toInt = i1.toInt ∨ ¬ e2f.toInt = i2.toInt)) mdB n4B (zPl cr1_ inn1_ k11_) - n4B) + 2 * (zNF (i1.toInt = 1 ∧ 1 < (fk 0).toInt ∧ (0 ≤ i2.toInt ∧ i2.toInt < (fk 2).toInt ∧ i2.toInt < 2) ∧ (e0f.toInt = 0 ∨ ¬ e1f.toInt = i1.toInt ∨ ¬ e2f.toInt = i2.toInt)) (zNF (i1.toInt = 0 ∧ 0 < (fk 0).toInt ∧ (0 ≤ i2.toInt ∧ i2.toInt < (fk 2).toInt ∧ i2.toInt < 2) ∧ (e0f.toInt = 0 ∨ ¬ e1f.toInt = i1.toInt ∨ ¬ e2f.toInt = i2.toInt)) m1f (zMw mdA wyA cr0_ inn0_ k10_)) (zMw mdB wyB cr1_ inn1_ k11_) - m1f); omega) (fun b1 H locs hw G => ?_)
            refine zEx5 hw ?_
            intro w2_366 s3_367 s4_368 s5_369 g1_370
            refine zCu3 ?_
            intro hbs9 h_371 h_372
            clear hw
            subst hbs9
            have G : zS T A s.heap s [z0_, wg0_, wwA, wt, [zO10 xo t im mk rd po co tr wa wb_ fi cd], w2_366, w2_350, z1_, wg1_] _ _ := G
            have h39 := h_372
            refine lv_aload_n hx hb dX11_fit_77 rfl (lv_at hl 2 rfl) ?_
            refine z_get C G clX11 4 rfl 9 (by decide) m_fl_RX11_65 rfl dX11_fit_78 ?_
            refine lv_iload_n hx hb dX11_fit_81 rfl (lv_at hl 3 rfl) ?_
            refine zEx2 h_371 ?_
            intro a1_374 a2_375 hbs9
            clear h_371
            subst hbs9
            have G : zS T A s.heap s [z0_, wg0_, wwA, wt, [zO10 xo t im mk rd po co tr wa wb_ fi cd], [zO3 fi e0f e1f e2f s3_367 s4_368 s5_369 a1_374 a2_375], [zAr T 0 a1_374 (zFl m1f wy2_352) g1_370], [zAr T 0 a2_375 7 r2f], w2_350, z1_, wg1_] _ _ := G.re rfl
            refine z_put C G clX3 5 rfl 1 (by decide) m_fl_RX11_292 rfl rfl rfl (Nat.le_of_ble_eq_true rfl) dX11_fit_82 (fun H locs G => ?_)
            have G : zS T A s.heap s [z0_, wg0_, wwA, wt, [zO10 xo t im mk rd po co tr wa wb_ fi cd], [zO3 fi e0f i1 e2f s3_367 s4_368 s5_369 a1_374 a2_375], [zAr T 0 a1_374 (zFl m1f wy2_352) g1_370], [zAr T 0 a2_375 7 r2f], w2_350, z1_, wg1_] _ _ := G
            refine lv_aload_n hx hb dX11_fit_85 rfl (lv_at hl 2 rfl) ?_
            refine z_get C G clX11 4 rfl 9 (by decide) m_fl_RX11_65 rfl dX11_fit_86 ?_
            refine lv_iload_n hx hb dX11_fit_89 rfl (lv_at hl 4 rfl) ?_
            refine z_put C G clX3 5 rfl 2 (by decide) m_fl_RX11_295 rfl rfl rfl (Nat.le_of_ble_eq_true rfl) dX11_fit_90 (fun H locs G => ?_)
            have G : zS T A s.heap s [z0_, wg0_, wwA, wt, [zO10 xo t im mk rd po co tr wa wb_ fi cd], [zO3 fi e0f i1 i2 s3_367 s4_368 s5_369 a1_374 a2_375], [zAr T 0 a1_374 (zFl m1f wy2_352) g1_370], [zAr T 0 a2_375 7 r2f], w2_350, z1_, wg1_] _ _ := G
            refine lv_aload_n hx hb dX11_fit_93 rfl (lv_at hl 2 rfl) ?_
            refine z_get C G clX11 4 rfl 9 (by decide) m_fl_RX11_65 rfl dX11_fit_94 ?_
            refine lv_iconst (v := 1) hx hb dX11_fit_97 (by decide) ?_
            refine z_put C G clX3 5 rfl 0 (by decide) m_fl_RX11_109 rfl rfl rfl (Nat.le_of_ble_eq_true rfl) dX11_fit_98 (fun H locs G => ?_)
            have G : zS T A s.heap s [z0_, wg0_, wwA, wt, [zO10 xo t im mk rd po co tr wa wb_ fi cd], [zO3 fi 1 i1 i2 s3_367 s4_368 s5_369 a1_374 a2_375], [zAr T 0 a1_374 (zFl m1f wy2_352) g1_370], [zAr T 0 a2_375 7 r2f], w2_350, z1_, wg1_] _ _ := G
            refine lv_iconst (v := 1) hx hb dX11_fit_101 (by decide) ?_
            have hw_376 : bFit T fi 1 i1 i2 s3_367 s4_368 s5_369 g1_370 (zFl m1f wy2_352) r2f [zO3 fi 1 i1 i2 s3_367 s4_368 s5_369 a1_374 a2_375, zAr T 0 a1_374 (zFl m1f wy2_352) g1_370, zAr T 0 a2_375 7 r2f] := ⟨a1_374, a2_375, rfl⟩
            have G : zS T A s.heap s [z0_, wg0_, wwA, wt, [zO10 xo t im mk rd po co tr wa wb_ fi cd], [zO3 fi 1 i1 i2 s3_367 s4_368 s5_369 a1_374 a2_375, zAr T 0 a1_374 (zFl m1f wy2_352) g1_370, zAr T 0 a2_375 7 r2f], w2_350, z1_, wg1_] _ _ := G.re rfl
            have G := G.sub (bs' := [[zO10 xo t im mk rd po co tr wa wb_ fi cd], wt, z0_, z1_, wg0_, wg1_, wwA, w2_350, [zO3 fi 1 i1 i2 s3_367 s4_368 s5_369 a1_374 a2_375, zAr T 0 a1_374 (zFl m1f wy2_352) g1_370, zAr T 0 a2_375 7 r2f]]) [4, 3, 0, 7, 1, 8, 2, 6, 5] rfl
            exact z_back hQ9 (z_zret C hr hlocks G (by omega) (by omega) dX11_fit_102 rfl ⟨laA, mdA, wyA, pc_A, f1A, f2A, f3A, f4A, f5A, f6A, n4A, wwA, l1, m2_351, wy2_352, pc2_353, g1_354, g2_355, f3B, g4_356, g5_357, g6_358, (zMk mdB n4B (zPl cr1_ inn1_ k11_)), w2_350, 1, i1, i2, s3_367, s4_368, s5_369, g1_370, (zFl m1f wy2_352), r2f, ([zO3 fi 1 i1 i2 s3_367 s4_368 s5_369 a1_374 a2_375, zAr T 0 a1_374 (zFl m1f wy2_352) g1_370, zAr T 0 a2_375 7 r2f]), rfl, hwwA, hmdA, hwmA, (zNA_n (by omega)).symm, hpwA, (fun q => q), h_360, (Or.inr rfl), hwy9, hNAm.symm, (zMk_pw hpwB), (fun _ => h_363), hw_376, hNF.symm, hfw9, h39, (Or.inr ⟨rfl, by omega, by decide, rfl⟩), (fun _ => Or.inr ⟨by omega, h_363⟩)⟩)


set_option maxHeartbeats 4000000 in
set_option maxRecDepth 100000 in
/-- c_t_set -/
theorem c_t_set (l : Launch) (T : zTy) (xo : Nat) (t : Nat) (im : Nat) (mk : Nat) (rd : Nat) (po : Nat) (co : Nat) (tr : Nat) (wa : Nat) (wb_ : Nat) (fi : Nat) (cd : Nat) (l0 : Nat) (l1 : Nat) (d0 : Nat) (d1 : Nat) (g0 : Nat) (g1 : Nat) (ln : Int32) (fl : Int32) (pl : Int32) (ft : Nat → Int32) (fk : Nat → Int32) (wt : va_W) (cr0_ : Int32) (inn0_ : Int32) (k10_ : Nat → Int32) (k20_ : Nat → Int32) (k30_ : Nat → Int32) (k40_ : Nat → Int32) (z0_ : va_W) (cr1_ : Int32) (inn1_ : Int32) (k11_ : Nat → Int32) (k21_ : Nat → Int32) (k31_ : Nat → Int32) (k41_ : Nat → Int32) (z1_ : va_W) (laA : Nat) (mdA : Int32) (wyA : Int32) (pc_A : Int32) (f1A : Nat → Int32) (f2A : Nat → Int32) (f3A : Nat → Int32) (f4A : Nat → Int32) (f5A : Nat → Int32) (f6A : Nat → Int32) (n4A : Nat) (wwA : va_W) (laB : Nat) (mdB : Int32) (wyB : Int32) (pc_B : Int32) (f1B : Nat → Int32) (f2B : Nat → Int32) (f3B : Nat → Int32) (f4B : Nat → Int32) (f5B : Nat → Int32) (f6B : Nat → Int32) (n4B : Nat) (wwB : va_W) (i1 : Int32) (a_ : Int32) (b_ : Int32) (w_ : Int32) (ht : bTold T t l0 l1 d0 d1 g0 g1 ln fl pl ft fk wt) (hK : zKT fk) (hz0_ : bLand T l0 cr0_ inn0_ k10_ k20_ k30_ k40_ z0_) (hI0_ : zLI cr0_ k10_ k30_) (hz1_ : bLand T l1 cr1_ inn1_ k11_ k21_ k31_ k41_ z1_) (hI1_ : zLI cr1_ k11_ k31_) (hwwA : bWays T wa laA mdA wyA pc_A f1A f2A f3A f4A f5A f6A n4A wwA) (hpwA : zPw n4A) (hmdA : mdA = 0 ∨ laA = l0) (hwmA : 0 ≤ wyA.toInt ∧ wyA.toInt ≤ 16384) (hTbA : mdA = 0 ∨ zTab cr0_ inn0_ k10_ k20_ wyA pc_A f1A f2A f5A n4A) (hLq0 : zLq cr0_ k10_ k20_) (hwwB : bWays T wb_ laB mdB wyB pc_B f1B f2B f3B f4B f5B f6B n4B wwB) (hpwB : zPw n4B) (hmdB : mdB = 0 ∨ laB = l1) (hwmB : 0 ≤ wyB.toInt ∧ wyB.toInt ≤ 16384) (hTbB : mdB = 0 ∨ zTab cr1_ inn1_ k11_ k21_ wyB pc_B f1B f2B f5B n4B) (hLq1 : zLq cr1_ k11_ k21_) : zMi l T yX11_set cX11_set 10 (some .int) 7 3 (6 * (zNA (i1.toInt = 0 ∧ 0 < (fk 0).toInt ∧ 0 ≤ a_.toInt ∧ a_.toInt < cr0_.toInt ∧ a_.toInt < 7 ∧ 0 ≤ b_.toInt ∧ b_.toInt < cr0_.toInt ∧ b_.toInt < 7 ∧ ¬ zBit inn0_ b_ = 0) mdA n4A (zPl cr0_ inn0_ k10_) - n4A) + 6 * (zNA (i1.toInt = 1 ∧ 1 < (fk 0).toInt ∧ 0 ≤ a_.toInt ∧ a_.toInt < cr1_.toInt ∧ a_.toInt < 7 ∧ 0 ≤ b_.toInt ∧ b_.toInt < cr1_.toInt ∧ b_.toInt < 7 ∧ ¬ zBit inn1_ b_ = 0) mdB n4B (zPl cr1_ inn1_ k11_) - n4B)) [.ref xo, .int i1, .int a_, .int b_, .int w_] [[zO10 xo t im mk rd po co tr wa wb_ fi cd], wt, z0_, z1_, wwA, wwB] (fun (r : Int32) bs => ∃ (laA_2 : Nat) (mdA_2 : Int32) (wyA_2 : Int32) (pc_A_2 : Int32) (f1A_2 : Nat → Int32) (f2A_2 : Nat → Int32) (f3A_2 : Nat → Int32) (f4A_2 : Nat → Int32) (f5A_2 : Nat → Int32) (f6A_2 : Nat → Int32) (n4A_2 : Nat) (wwA_2 : va_W) (laB_2 : Nat) (mdB_2 : Int32) (wyB_2 : Int32) (pc_B_2 : Int32) (f1B_2 : Nat → Int32) (f2B_2 : Nat → Int32) (f3B_2 : Nat → Int32) (f4B_2 : Nat → Int32) (f5B_2 : Nat → Int32) (f6B_2 : Nat → Int32) (n4B_2 : Nat) (wwB_2 : va_W), bs = [[zO10 xo t im mk rd po co tr wa wb_ fi cd], wt, z0_, z1_, wwA_2, wwB_2] ∧ bWays T wa laA_2 mdA_2 wyA_2 pc_A_2 f1A_2 f2A_2 f3A_2 f4A_2 f5A_2 f6A_2 n4A_2 wwA_2 ∧ (mdA_2 = 0 ∨ laA_2 = l0) ∧ (0 ≤ wyA_2.toInt ∧ wyA_2.toInt ≤ 16384) ∧ n4A_2 = zNA (i1.toInt = 0 ∧ 0 < (fk 0).toInt ∧ 0 ≤ a_.toInt ∧ a_.toInt < cr0_.toInt ∧ a_.toInt < 7 ∧ 0 ≤ b_.toInt ∧ b_.toInt < cr0_.toInt ∧ b_.toInt < 7 ∧ ¬ zBit inn0_ b_ = 0) mdA n4A (zPl cr0_ inn0_ k10_) ∧ zPw n4A_2 ∧ (¬ mdA = 0 → ¬ mdA_2 = 0) ∧ (mdA_2 = 0 ∨ zTab cr0_ inn0_ k10_ k20_ wyA_2 pc_A_2 f1A_2 f2A_2 f5A_2 n4A_2) ∧ bWays T wb_ laB_2 mdB_2 wyB_2 pc_B_2 f1B_2 f2B_2 f3B_2 f4B_2 f5B_2 f6B_2 n4B_2 wwB_2 ∧ (mdB_2 = 0 ∨ laB_2 = l1) ∧ (0 ≤ wyB_2.toInt ∧ wyB_2.toInt ≤ 16384) ∧ n4B_2 = zNA (i1.toInt = 1 ∧ 1 < (fk 0).toInt ∧ 0 ≤ a_.toInt ∧ a_.toInt < cr1_.toInt ∧ a_.toInt < 7 ∧ 0 ≤ b_.toInt ∧ b_.toInt < cr1_.toInt ∧ b_.toInt < 7 ∧ ¬ zBit inn1_ b_ = 0) mdB n4B (zPl cr1_ inn1_ k11_) ∧ zPw n4B_2 ∧ (¬ mdB = 0 → ¬ mdB_2 = 0) ∧ (mdB_2 = 0 ∨ zTab cr1_ inn1_ k11_ k21_ wyB_2 pc_B_2 f1B_2 f2B_2 f5B_2 n4B_2)) := by
  refine zMi_of (own := RX11) (by decide) rfl (Nat.le_of_ble_eq_true rfl) ?_
  intro p e s m args below meth c A ls C hr hlocks hnm hAe G hl
  refine zHide (fun Qz_ hQz_ => ?_)
  have hx := C.1
  have hb := C.2.1
  replace hmdA : zHd (mdA = 0 ∨ laA = l0) := hmdA
  replace hTbA : zHd (mdA = 0 ∨ zTab cr0_ inn0_ k10_ k20_ wyA pc_A f1A f2A f5A n4A) := hTbA
  replace hmdB : zHd (mdB = 0 ∨ laB = l1) := hmdB
  replace hTbB : zHd (mdB = 0 ∨ zTab cr1_ inn1_ k11_ k21_ wyB pc_B f1B f2B f5B n4B) := hTbB
  have hl : lv_has ls 10 [(0, .ref xo), (1, .int i1), (2, .int a_), (3, .int b_), (4, .int w_)] := hl
  refine lv_aload_n hx hb dX11_set_0 rfl (lv_at hl 0 rfl) ?_
  refine z_get C G clX11 0 rfl 0 (by decide) m_fl_RX11_10 rfl dX11_set_1 ?_
  refine lv_iload_n hx hb dX11_set_4 rfl (lv_at hl 1 rfl) ?_
  refine z_Vq (bc := [wt]) (br := [[zO10 xo t im mk rd po co tr wa wb_ fi cd], z0_, z1_, wwA, wwB]) (As := [.int i1]) (rest := []) C G (c_landAt l T t l0 l1 d0 d1 g0 g1 ln fl pl ft fk wt i1 ht) (kV_RX11_121 C.2.2.2.2 (Nat.le_of_ble_eq_true rfl) (Nat.le_of_ble_eq_true rfl)) [1] [1] rfl rfl (ci := 8) (qc := (RX9, TX9, 8)) rfl rfl (List.mem_flatten.mpr ⟨_, List.mem_of_getElem? (i := 0) rfl, (bTold_mem ht).choose_spec⟩) rfl rfl hl.1 dX11_set_5 (Nat.le_of_ble_eq_true rfl) (by show _ + 0 ≤ 6 * (zNA (i1.toInt = 0 ∧ 0 < (fk 0).toInt ∧ 0 ≤ a_.toInt ∧ a_.toInt < cr0_.toInt ∧ a_.toInt < 7 ∧ 0 ≤ b_.toInt ∧ b_.toInt < cr0_.toInt ∧ b_.toInt < 7 ∧ ¬ zBit inn0_ b_ = 0) mdA n4A (zPl cr0_ inn0_ k10_) - n4A) + 6 * (zNA (i1.toInt = 1 ∧ 1 < (fk 0).toInt ∧ 0 ≤ a_.toInt ∧ a_.toInt < cr1_.toInt ∧ a_.toInt < 7 ∧ 0 ≤ b_.toInt ∧ b_.toInt < cr1_.toInt ∧ b_.toInt < 7 ∧ ¬ zBit inn1_ b_ = 0) mdB n4B (zPl cr1_ inn1_ k11_) - n4B); omega) (fun r_2 b1 H locs hw G => ?_)
  refine zAn2 hw ?_
  intro hbs9 hc_1
  clear hw
  subst hbs9
  have G : zS T A s.heap s [[zO10 xo t im mk rd po co tr wa wb_ fi cd], z0_, z1_, wwA, wwB, wt] _ _ := G
  rcases hc_1 with ⟨rfl, h_3⟩ | ⟨rfl, h_4, h_5⟩ | ⟨rfl, h_6, h_7⟩
  · have h_3 : (i1.toInt < 0 ∨ (fk 0).toInt ≤ i1.toInt ∨ 2 ≤ i1.toInt) := h_3
    refine lv_astoreN (lv' := [(5, .null), (0, .ref xo), (1, .int i1), (2, .int a_), (3, .int b_), (4, .int w_)]) hx hb dX11_set_8 hl (by decide) (zLvf_h rfl) (fun ls hl => ?_)
    refine lv_aloadN hx hb dX11_set_10 (lv_at hl 0 rfl) ?_
    refine lv_ifnullN (tgt := 33) hx hb dX11_set_12 (by decide) ?_
    refine lv_iconst (v := (-1)) hx hb dX11_set_33 (by decide) ?_
    have G := G.sub (bs' := [[zO10 xo t im mk rd po co tr wa wb_ fi cd], wt, z0_, z1_, wwA, wwB]) [0, 5, 1, 2, 3, 4] rfl
    exact z_back hQz_ (z_iret C hr hlocks G (Nat.le_of_ble_eq_true rfl) (by omega) dX11_set_34 ⟨laA, mdA, wyA, pc_A, f1A, f2A, f3A, f4A, f5A, f6A, n4A, wwA, laB, mdB, wyB, pc_B, f1B, f2B, f3B, f4B, f5B, f6B, n4B, wwB, rfl, hwwA, hmdA, hwmA, (by first | exact hNAo.symm | exact (zNA_n (by first | omega | grind)).symm), hpwA, (fun q => q), hTbA, hwwB, hmdB, hwmB, (by first | exact hNAo.symm | exact (zNA_n (by first | omega | grind)).symm), hpwB, (fun q => q), hTbB⟩)
  · have h_4 : i1.toInt = 0 := h_4
    have h_5 : 0 < (fk 0).toInt := h_5
    refine lv_astore (lv' := [(5, .ref l0), (0, .ref xo), (1, .int i1), (2, .int a_), (3, .int b_), (4, .int w_)]) hx hb dX11_set_8 hl (by decide) (zLvf_h rfl) (fun ls hl => ?_)
    refine lv_aload hx hb dX11_set_10 (lv_at hl 0 rfl) ?_
    refine lv_ifnull hx hb dX11_set_12 ?_
    refine lv_aload hx hb dX11_set_15 (lv_at hl 0 rfl) ?_
    refine lv_iload_n hx hb dX11_set_17 rfl (lv_at hl 3 rfl) ?_
    refine z_Vi (bc := [z0_]) (br := [[zO10 xo t im mk rd po co tr wa wb_ fi cd], z1_, wwA, wwB, wt]) (As := [.int a_]) (rest := []) C G (c_has l T l0 cr0_ inn0_ k10_ k20_ k30_ k40_ z0_ a_ hz0_) (kV_RX11_160 C.2.2.2.2 (Nat.le_of_ble_eq_true rfl) (Nat.le_of_ble_eq_true rfl)) [1] [1] rfl rfl (ci := 4) (qc := (RX4, TX4, 6)) rfl rfl (List.mem_flatten.mpr ⟨_, List.mem_of_getElem? (i := 0) rfl, (bLand_mem hz0_).choose_spec⟩) rfl rfl hl.1 dX11_set_18 (Nat.le_of_ble_eq_true rfl) (by show _ + 0 ≤ 6 * (zNA (i1.toInt = 0 ∧ 0 < (fk 0).toInt ∧ 0 ≤ a_.toInt ∧ a_.toInt < cr0_.toInt ∧ a_.toInt < 7 ∧ 0 ≤ b_.toInt ∧ b_.toInt < cr0_.toInt ∧ b_.toInt < 7 ∧ ¬ zBit inn0_ b_ = 0) mdA n4A (zPl cr0_ inn0_ k10_) - n4A) + 6 * (zNA (i1.toInt = 1 ∧ 1 < (fk 0).toInt ∧ 0 ≤ a_.toInt ∧ a_.toInt < cr1_.toInt ∧ a_.toInt < 7 ∧ 0 ≤ b_.toInt ∧ b_.toInt < cr1_.toInt ∧ b_.toInt < 7 ∧ ¬ zBit inn1_ b_ = 0) mdB n4B (zPl cr1_ inn1_ k11_) - n4B); omega) (fun r_9 b1 H locs hw G => ?_)
    refine zAn2 hw ?_
    intro hbs9 hc_8
    clear hw
    subst hbs9
    have G : zS T A s.heap s [[zO10 xo t im mk rd po co tr wa wb_ fi cd], z1_, wwA, wwB, wt, z0_] _ _ := G
    rcases hc_8 with ⟨rfl, h_10, h_11, h_12⟩ | ⟨rfl, h_13⟩
    · have h_10 : 0 ≤ a_.toInt := h_10
      have h_11 : a_.toInt < cr0_.toInt := h_11
      have h_12 : a_.toInt < 7 := h_12
      refine lv_if_eq (tgt := 33) hx hb dX11_set_21 (by decide) (fun q => absurd q (by decide)) (fun _ => ?_)
      refine lv_aload hx hb dX11_set_24 (lv_at hl 0 rfl) ?_
      refine lv_iload_n hx hb dX11_set_26 rfl (lv_at hl 4 rfl) ?_
      refine z_Vi (bc := [z0_]) (br := [[zO10 xo t im mk rd po co tr wa wb_ fi cd], z1_, wwA, wwB, wt]) (As := [.int b_]) (rest := []) C G (c_isInn l T l0 cr0_ inn0_ k10_ k20_ k30_ k40_ z0_ b_ hz0_) (kV_RX11_174 C.2.2.2.2 (Nat.le_of_ble_eq_true rfl) (Nat.le_of_ble_eq_true rfl)) [5] [5] rfl rfl (ci := 4) (qc := (RX4, TX4, 6)) rfl rfl (List.mem_flatten.mpr ⟨_, List.mem_of_getElem? (i := 0) rfl, (bLand_mem hz0_).choose_spec⟩) rfl rfl hl.1 dX11_set_27 (Nat.le_of_ble_eq_true rfl) (by show _ + 0 ≤ 6 * (zNA (i1.toInt = 0 ∧ 0 < (fk 0).toInt ∧ 0 ≤ a_.toInt ∧ a_.toInt < cr0_.toInt ∧ a_.toInt < 7 ∧ 0 ≤ b_.toInt ∧ b_.toInt < cr0_.toInt ∧ b_.toInt < 7 ∧ ¬ zBit inn0_ b_ = 0) mdA n4A (zPl cr0_ inn0_ k10_) - n4A) + 6 * (zNA (i1.toInt = 1 ∧ 1 < (fk 0).toInt ∧ 0 ≤ a_.toInt ∧ a_.toInt < cr1_.toInt ∧ a_.toInt < 7 ∧ 0 ≤ b_.toInt ∧ b_.toInt < cr1_.toInt ∧ b_.toInt < 7 ∧ ¬ zBit inn1_ b_ = 0) mdB n4B (zPl cr1_ inn1_ k11_) - n4B); omega) (fun r_15 b1 H locs hw G => ?_)
      refine zAn2 hw ?_
      intro hbs9 hc_14
      clear hw
      subst hbs9
      have G : zS T A s.heap s [[zO10 xo t im mk rd po co tr wa wb_ fi cd], z1_, wwA, wwB, wt, z0_] _ _ := G
      rcases hc_14 with ⟨rfl, h_16, h_17, h_18, h_19⟩ | ⟨rfl, h_20⟩
      · have h_16 : 0 ≤ b_.toInt := h_16
        have h_17 : b_.toInt < cr0_.toInt := h_17
        have h_18 : b_.toInt < 7 := h_18
        have h_19 : ¬ zBit inn0_ b_ = 0 := h_19
        refine lv_if_ne (tgt := 35) hx hb dX11_set_30 (by decide) (fun _ => ?_) (fun q => absurd q (by decide))
        refine lv_aload_n hx hb dX11_set_35 rfl (lv_at hl 1 rfl) ?_
        refine lv_iload_n hx hb dX11_set_36 rfl (lv_at hl 2 rfl) ?_
        refine lv_aload hx hb dX11_set_37 (lv_at hl 0 rfl) ?_
        have hNAm : zNA (i1.toInt = 0 ∧ 0 < (fk 0).toInt ∧ 0 ≤ a_.toInt ∧ a_.toInt < cr0_.toInt ∧ a_.toInt < 7 ∧ 0 ≤ b_.toInt ∧ b_.toInt < cr0_.toInt ∧ b_.toInt < 7 ∧ ¬ zBit inn0_ b_ = 0) mdA n4A (zPl cr0_ inn0_ k10_) = zMk mdA n4A (zPl cr0_ inn0_ k10_) := zNA_y (by first | omega | (repeat' (first | omega | assumption | constructor)))
        have hNAo : zNA (i1.toInt = 1 ∧ 1 < (fk 0).toInt ∧ 0 ≤ a_.toInt ∧ a_.toInt < cr1_.toInt ∧ a_.toInt < 7 ∧ 0 ≤ b_.toInt ∧ b_.toInt < cr1_.toInt ∧ b_.toInt < 7 ∧ ¬ zBit inn1_ b_ = 0) mdB n4B (zPl cr1_ inn1_ k11_) = n4B := zNA_n (by omega)
        have hn9 : zMk mdA n4A (zPl cr0_ inn0_ k10_) ≤ 131072 := zPw_le (zMk_pw hpwA)
        refine z_Vq (bc := [[zO10 xo t im mk rd po co tr wa wb_ fi cd], wwA, z0_]) (br := [z1_, wwB, wt]) (As := [.int i1, .ref l0]) (rest := []) C G (c_f_waysInA l T xo t im mk rd po co tr wa wb_ fi cd i1 laA mdA wyA pc_A f1A f2A f3A f4A f5A f6A n4A wwA l0 cr0_ inn0_ k10_ k20_ k30_ k40_ z0_ hwwA hz0_ hI0_ hpwA hmdA (kaOk hI0_ hLq0).1 hTbA (by omega)) (kV_RX11_235 C.2.2.2.2 (Nat.le_of_ble_eq_true rfl) (Nat.le_of_ble_eq_true rfl)) [0, 2, 5] [0, 1, 2] rfl rfl (ci := 10) (qc := (RX11, TX11, 11)) rfl rfl (List.mem_flatten.mpr ⟨_, List.mem_of_getElem? (i := 0) rfl, List.mem_cons_self⟩) rfl rfl hl.1 dX11_set_39 (Nat.le_of_ble_eq_true rfl) (by show _ + (6 * (zMk mdA n4A (zPl cr0_ inn0_ k10_) - n4A)) ≤ 6 * (zNA (i1.toInt = 0 ∧ 0 < (fk 0).toInt ∧ 0 ≤ a_.toInt ∧ a_.toInt < cr0_.toInt ∧ a_.toInt < 7 ∧ 0 ≤ b_.toInt ∧ b_.toInt < cr0_.toInt ∧ b_.toInt < 7 ∧ ¬ zBit inn0_ b_ = 0) mdA n4A (zPl cr0_ inn0_ k10_) - n4A) + 6 * (zNA (i1.toInt = 1 ∧ 1 < (fk 0).toInt ∧ 0 ≤ a_.toInt ∧ a_.toInt < cr1_.toInt ∧ a_.toInt < 7 ∧ 0 ≤ b_.toInt ∧ b_.toInt < cr1_.toInt ∧ b_.toInt < 7 ∧ ¬ zBit inn1_ b_ = 0) mdB n4B (zPl cr1_ inn1_ k11_) - n4B); omega) (fun r_35 b1 H locs hw G => ?_)
        refine zEx9 hw ?_
        intro w2_21 m2_22 wy2_23 pc2_24 g1_25 g2_26 g4_27 g5_28 g6_29
        refine zCu6 ?_
        intro hbs9 h_30 h_31 h_32 h_33 h_34
        clear hw
        subst hbs9
        have G : zS T A s.heap s [z1_, wwB, wt, [zO10 xo t im mk rd po co tr wa wb_ fi cd], w2_21, z0_] _ _ := G
        subst h_30
        have hwy9 : 0 ≤ wy2_23.toInt ∧ wy2_23.toInt ≤ 16384 := by have q9 := zWy_in (inn := inn0_) hI0_; rw [h_32]; exact ⟨by omega, q9.2⟩
        have hp79 : aPr (aW cr0_ inn0_ k10_) 7 ≤ 16384 := aPr_7 hI0_
        have hwN9 : wy2_23 = nI (aPr (aW cr0_ inn0_ k10_) 7) := h_32.trans (zWy_z hI0_)
        have hwT9 : wy2_23.toInt = ((aPr (aW cr0_ inn0_ k10_) 7 : Nat) : Int) := by rw [hwN9, nI_toInt (by omega)]
        have hOk9 := (kaOk (inn := inn0_) hI0_ hLq0).1
        have hc79 := hI0_.1
        refine lv_astore (lv' := [(6, .ref wa), (5, .ref l0), (0, .ref xo), (1, .int i1), (2, .int a_), (3, .int b_), (4, .int w_)]) hx hb dX11_set_42 hl (by decide) (zLvf_h rfl) (fun ls hl => ?_)
        refine lv_aload hx hb dX11_set_44 (lv_at hl 0 rfl) ?_
        refine lv_iload_n hx hb dX11_set_46 rfl (lv_at hl 4 rfl) ?_
        refine lv_iload_n hx hb dX11_set_47 rfl (lv_at hl 5 rfl) ?_
        refine z_Vi (bc := [w2_21, z0_]) (br := [z1_, wwB, wt, [zO10 xo t im mk rd po co tr wa wb_ fi cd]]) (As := [.int a_, .int b_]) (rest := []) C G (c_nearestWay l T wa l0 m2_22 wy2_23 pc2_24 g1_25 g2_26 f3A g4_27 g5_28 g6_29 (zMk mdA n4A (zPl cr0_ inn0_ k10_)) w2_21 cr0_ inn0_ k10_ k20_ k30_ k40_ z0_ a_ b_ h_31 hz0_ (by first | with_reducible assumption | with_reducible rfl | omega | assumption | rfl) (by first | with_reducible assumption | with_reducible rfl | omega | assumption | rfl) (by first | with_reducible assumption | with_reducible rfl | omega | assumption | rfl)) (kV_RX11_239 C.2.2.2.2 (Nat.le_of_ble_eq_true rfl) (Nat.le_of_ble_eq_true rfl)) [4, 5] [4, 0] rfl rfl (ci := 0) (qc := (RX0, TX0, 10)) rfl rfl (List.mem_flatten.mpr ⟨_, List.mem_of_getElem? (i := 0) rfl, (bWays_mem h_31).choose_spec⟩) rfl rfl hl.1 dX11_set_48 (Nat.le_of_ble_eq_true rfl) (by show _ + 0 ≤ 6 * (zNA (i1.toInt = 0 ∧ 0 < (fk 0).toInt ∧ 0 ≤ a_.toInt ∧ a_.toInt < cr0_.toInt ∧ a_.toInt < 7 ∧ 0 ≤ b_.toInt ∧ b_.toInt < cr0_.toInt ∧ b_.toInt < 7 ∧ ¬ zBit inn0_ b_ = 0) mdA n4A (zPl cr0_ inn0_ k10_) - n4A) + 6 * (zNA (i1.toInt = 1 ∧ 1 < (fk 0).toInt ∧ 0 ≤ a_.toInt ∧ a_.toInt < cr1_.toInt ∧ a_.toInt < 7 ∧ 0 ≤ b_.toInt ∧ b_.toInt < cr1_.toInt ∧ b_.toInt < 7 ∧ ¬ zBit inn1_ b_ = 0) mdB n4B (zPl cr1_ inn1_ k11_) - n4B); omega) (fun r_36 b1 H locs hw G => ?_)
        obtain rfl := hw
        have G : zS T A s.heap s [z1_, wwB, wt, [zO10 xo t im mk rd po co tr wa wb_ fi cd], w2_21, z0_] _ _ := G
        refine lv_istore (lv' := [(7, .int r_36), (6, .ref wa), (5, .ref l0), (0, .ref xo), (1, .int i1), (2, .int a_), (3, .int b_), (4, .int w_)]) hx hb dX11_set_51 hl (by decide) (zLvf_h rfl) (fun ls hl => ?_)
        refine lv_iload hx hb dX11_set_53 (lv_at hl 0 rfl) ?_
        refine lv_iconst (v := (-1)) hx hb dX11_set_55 (by decide) ?_
        refine lv_icmp_ne (tgt := 61) hx hb dX11_set_56 (by decide) (fun c_37 => ?_) (fun c_37 => ?_)
        · have c_37n : ¬ r_36.toInt = (-1 : Int) := fun q => c_37 ((fa_eq _ _).mpr q)
          refine lv_aload hx hb dX11_set_61 (lv_at hl 1 rfl) ?_
          refine lv_iload hx hb dX11_set_63 (lv_at hl 0 rfl) ?_
          refine lv_aload hx hb dX11_set_65 (lv_at hl 1 rfl) ?_
          refine z_Vi (bc := [w2_21, z0_]) (br := [z1_, wwB, wt, [zO10 xo t im mk rd po co tr wa wb_ fi cd]]) (As := []) (rest := [.int r_36, .ref wa]) C G (c_wayTold l T wa l0 m2_22 wy2_23 pc2_24 g1_25 g2_26 f3A g4_27 g5_28 g6_29 (zMk mdA n4A (zPl cr0_ inn0_ k10_)) w2_21 cr0_ inn0_ k10_ k20_ k30_ k40_ z0_ h_31 hz0_ (by first | with_reducible assumption | with_reducible rfl | omega | assumption | rfl)) (kV_RX11_242 C.2.2.2.2 (Nat.le_of_ble_eq_true rfl) (Nat.le_of_ble_eq_true rfl)) [4, 5] [4, 0] rfl rfl (ci := 0) (qc := (RX0, TX0, 10)) rfl rfl (List.mem_flatten.mpr ⟨_, List.mem_of_getElem? (i := 0) rfl, (bWays_mem h_31).choose_spec⟩) rfl rfl hl.1 dX11_set_67 (Nat.le_of_ble_eq_true rfl) (by show _ + 0 ≤ 6 * (zNA (i1.toInt = 0 ∧ 0 < (fk 0).toInt ∧ 0 ≤ a_.toInt ∧ a_.toInt < cr0_.toInt ∧ a_.toInt < 7 ∧ 0 ≤ b_.toInt ∧ b_.toInt < cr0_.toInt ∧ b_.toInt < 7 ∧ ¬ zBit inn0_ b_ = 0) mdA n4A (zPl cr0_ inn0_ k10_) - n4A) + 6 * (zNA (i1.toInt = 1 ∧ 1 < (fk 0).toInt ∧ 0 ≤ a_.toInt ∧ a_.toInt < cr1_.toInt ∧ a_.toInt < 7 ∧ 0 ≤ b_.toInt ∧ b_.toInt < cr1_.toInt ∧ b_.toInt < 7 ∧ ¬ zBit inn1_ b_ = 0) mdB n4B (zPl cr1_ inn1_ k11_) - n4B); omega) (fun r_38 b1 H locs hw G => ?_)
          obtain rfl := hw
          have G : zS T A s.heap s [z1_, wwB, wt, [zO10 xo t im mk rd po co tr wa wb_ fi cd], w2_21, z0_] _ _ := G
          refine z_Vi (bc := [w2_21, z0_]) (br := [z1_, wwB, wt, [zO10 xo t im mk rd po co tr wa wb_ fi cd]]) (As := [.int r_36, .int r_38]) (rest := []) C G (c_unlike l T wa l0 m2_22 wy2_23 pc2_24 g1_25 g2_26 f3A g4_27 g5_28 g6_29 (zMk mdA n4A (zPl cr0_ inn0_ k10_)) w2_21 cr0_ inn0_ k10_ k20_ k30_ k40_ z0_ r_36 r_38 h_31 hz0_ (by first | with_reducible assumption | with_reducible rfl | omega | assumption | rfl)) (kV_RX11_245 C.2.2.2.2 (Nat.le_of_ble_eq_true rfl) (Nat.le_of_ble_eq_true rfl)) [4, 5] [4, 0] rfl rfl (ci := 0) (qc := (RX0, TX0, 10)) rfl rfl (List.mem_flatten.mpr ⟨_, List.mem_of_getElem? (i := 0) rfl, (bWays_mem h_31).choose_spec⟩) rfl rfl hl.1 dX11_set_70 (Nat.le_of_ble_eq_true rfl) (by show _ + 0 ≤ 6 * (zNA (i1.toInt = 0 ∧ 0 < (fk 0).toInt ∧ 0 ≤ a_.toInt ∧ a_.toInt < cr0_.toInt ∧ a_.toInt < 7 ∧ 0 ≤ b_.toInt ∧ b_.toInt < cr0_.toInt ∧ b_.toInt < 7 ∧ ¬ zBit inn0_ b_ = 0) mdA n4A (zPl cr0_ inn0_ k10_) - n4A) + 6 * (zNA (i1.toInt = 1 ∧ 1 < (fk 0).toInt ∧ 0 ≤ a_.toInt ∧ a_.toInt < cr1_.toInt ∧ a_.toInt < 7 ∧ 0 ≤ b_.toInt ∧ b_.toInt < cr1_.toInt ∧ b_.toInt < 7 ∧ ¬ zBit inn1_ b_ = 0) mdB n4B (zPl cr1_ inn1_ k11_) - n4B); omega) (fun r_39 b1 H locs hw G => ?_)
          obtain rfl := hw
          have G : zS T A s.heap s [z1_, wwB, wt, [zO10 xo t im mk rd po co tr wa wb_ fi cd], w2_21, z0_] _ _ := G
          refine lv_istore (lv' := [(8, .int r_39), (7, .int r_36), (6, .ref wa), (5, .ref l0), (0, .ref xo), (1, .int i1), (2, .int a_), (3, .int b_), (4, .int w_)]) hx hb dX11_set_73 hl (by decide) (zLvf_h rfl) (fun ls hl => ?_)
          refine lv_iload hx hb dX11_set_75 (lv_at hl 8 rfl) ?_
          refine lv_if_ne (tgt := 86) hx hb dX11_set_77 (by decide) (fun c_40 => ?_) (fun c_40 => ?_)
          · have c_40n : ¬ w_.toInt = (0 : Int) := fun q => c_40 ((fa_eq _ _).mpr q)
            refine lv_iload hx hb dX11_set_86 (lv_at hl 8 rfl) ?_
            refine lv_iconst (v := 1) hx hb dX11_set_88 (by decide) ?_
            refine lv_icmp_ne (tgt := 95) hx hb dX11_set_89 (by decide) (fun c_41 => ?_) (fun c_41 => ?_)
            · have c_41n : ¬ w_.toInt = (1 : Int) := fun q => c_41 ((fa_eq _ _).mpr q)
              refine lv_iload hx hb dX11_set_95 (lv_at hl 8 rfl) ?_
              refine lv_bipush (v := 10) hx hb dX11_set_97 (by decide) ?_
              refine lv_isub hx hb dX11_set_99 ?_
              refine lv_istore (lv' := [(9, .int (w_ - 10)), (8, .int r_39), (7, .int r_36), (6, .ref wa), (5, .ref l0), (0, .ref xo), (1, .int i1), (2, .int a_), (3, .int b_), (4, .int w_)]) hx hb dX11_set_100 hl (by decide) (zLvf_h rfl) (fun ls hl => ?_)
              refine lv_aload hx hb dX11_set_102 (lv_at hl 4 rfl) ?_
              refine lv_iload hx hb dX11_set_104 (lv_at hl 0 rfl) ?_
              refine z_Vi (bc := [z0_]) (br := [z1_, wwB, wt, [zO10 xo t im mk rd po co tr wa wb_ fi cd], w2_21]) (As := [.int (w_ - 10)]) (rest := []) C G (c_has l T l0 cr0_ inn0_ k10_ k20_ k30_ k40_ z0_ (w_ - 10) hz0_) (kV_RX11_160 C.2.2.2.2 (Nat.le_of_ble_eq_true rfl) (Nat.le_of_ble_eq_true rfl)) [5] [5] rfl rfl (ci := 4) (qc := (RX4, TX4, 6)) rfl rfl (List.mem_flatten.mpr ⟨_, List.mem_of_getElem? (i := 0) rfl, (bLand_mem hz0_).choose_spec⟩) rfl rfl hl.1 dX11_set_106 (Nat.le_of_ble_eq_true rfl) (by show _ + 0 ≤ 6 * (zNA (i1.toInt = 0 ∧ 0 < (fk 0).toInt ∧ 0 ≤ a_.toInt ∧ a_.toInt < cr0_.toInt ∧ a_.toInt < 7 ∧ 0 ≤ b_.toInt ∧ b_.toInt < cr0_.toInt ∧ b_.toInt < 7 ∧ ¬ zBit inn0_ b_ = 0) mdA n4A (zPl cr0_ inn0_ k10_) - n4A) + 6 * (zNA (i1.toInt = 1 ∧ 1 < (fk 0).toInt ∧ 0 ≤ a_.toInt ∧ a_.toInt < cr1_.toInt ∧ a_.toInt < 7 ∧ 0 ≤ b_.toInt ∧ b_.toInt < cr1_.toInt ∧ b_.toInt < 7 ∧ ¬ zBit inn1_ b_ = 0) mdB n4B (zPl cr1_ inn1_ k11_) - n4B); omega) (fun r_43 b1 H locs hw G => ?_)
              refine zAn2 hw ?_
              intro hbs9 hc_42
              clear hw
              subst hbs9
              have G : zS T A s.heap s [z1_, wwB, wt, [zO10 xo t im mk rd po co tr wa wb_ fi cd], w2_21, z0_] _ _ := G
              rcases hc_42 with ⟨rfl, h_44, h_45, h_46⟩ | ⟨rfl, h_47⟩
              · have h_44 : 0 ≤ (w_ - 10).toInt := h_44
                have h_45 : (w_ - 10).toInt < cr0_.toInt := h_45
                have h_46 : (w_ - 10).toInt < 7 := h_46
                refine lv_if_ne (tgt := 114) hx hb dX11_set_109 (by decide) (fun _ => ?_) (fun q => absurd q (by decide))
                refine lv_aload hx hb dX11_set_114 (lv_at hl 4 rfl) ?_
                refine lv_iload hx hb dX11_set_116 (lv_at hl 0 rfl) ?_
                refine z_Vi (bc := [z0_]) (br := [z1_, wwB, wt, [zO10 xo t im mk rd po co tr wa wb_ fi cd], w2_21]) (As := [.int (w_ - 10)]) (rest := []) C G (c_waysOut l T l0 cr0_ inn0_ k10_ k20_ k30_ k40_ z0_ (w_ - 10) hz0_) (kV_RX11_221 C.2.2.2.2 (Nat.le_of_ble_eq_true rfl) (Nat.le_of_ble_eq_true rfl)) [5] [5] rfl rfl (ci := 4) (qc := (RX4, TX4, 6)) rfl rfl (List.mem_flatten.mpr ⟨_, List.mem_of_getElem? (i := 0) rfl, (bLand_mem hz0_).choose_spec⟩) rfl rfl hl.1 dX11_set_118 (Nat.le_of_ble_eq_true rfl) (by show _ + 0 ≤ 6 * (zNA (i1.toInt = 0 ∧ 0 < (fk 0).toInt ∧ 0 ≤ a_.toInt ∧ a_.toInt < cr0_.toInt ∧ a_.toInt < 7 ∧ 0 ≤ b_.toInt ∧ b_.toInt < cr0_.toInt ∧ b_.toInt < 7 ∧ ¬ zBit inn0_ b_ = 0) mdA n4A (zPl cr0_ inn0_ k10_) - n4A) + 6 * (zNA (i1.toInt = 1 ∧ 1 < (fk 0).toInt ∧ 0 ≤ a_.toInt ∧ a_.toInt < cr1_.toInt ∧ a_.toInt < 7 ∧ 0 ≤ b_.toInt ∧ b_.toInt < cr1_.toInt ∧ b_.toInt < 7 ∧ ¬ zBit inn1_ b_ = 0) mdB n4B (zPl cr1_ inn1_ k11_) - n4B); omega) (fun r_49 b1 H locs hw G => ?_)
                refine zAn2 hw ?_
                intro hbs9 h_48
                clear hw
                subst hbs9
                have G : zS T A s.heap s [z1_, wwB, wt, [zO10 xo t im mk rd po co tr wa wb_ fi cd], w2_21, z0_] _ _ := G
                subst h_48
                refine lv_if_le (tgt := 136) hx hb dX11_set_121 (by decide) (fun c_50 => ?_) (fun c_50 => ?_)
                · have c_50n : (zWays cr0_ inn0_ k10_ (w_ - 10)).toInt ≤ (0 : Int) := (fa_le _ _).mp c_50
                  refine lv_aload hx hb dX11_set_136 (lv_at hl 4 rfl) ?_
                  refine zEx4 hz0_ ?_
                  intro a1_51 a2_52 a3_53 a4_54 hbs9
                  clear hz0_
                  subst hbs9
                  have G : zS T A s.heap s [z1_, wwB, wt, [zO10 xo t im mk rd po co tr wa wb_ fi cd], w2_21, [zO4 l0 cr0_ inn0_ a1_51 a2_52 a3_53 a4_54], [zAr T 0 a1_51 7 k10_], [zAr T 0 a2_52 28 k20_], [zAr T 0 a3_53 7 k30_], [zAr T 0 a4_54 7 k40_]] _ _ := G.re rfl
                  refine z_get C G clX4 5 rfl 4 (by decide) m_fl_RX11_256 rfl dX11_set_138 ?_
                  refine lv_iload hx hb dX11_set_141 (lv_at hl 0 rfl) ?_
                  refine z_ild C G 8 rfl (vp_in_iff.mpr ⟨by omega, by omega⟩) dX11_set_143 ?_
                  refine lv_topi (fun v_55 ev_55 => ?_)
                  subst ev_55
                  have hw_56 : bLand T l0 cr0_ inn0_ k10_ k20_ k30_ k40_ [zO4 l0 cr0_ inn0_ a1_51 a2_52 a3_53 a4_54, zAr T 0 a1_51 7 k10_, zAr T 0 a2_52 28 k20_, zAr T 0 a3_53 7 k30_, zAr T 0 a4_54 7 k40_] := ⟨a1_51, a2_52, a3_53, a4_54, rfl⟩
                  have G : zS T A s.heap s [z1_, wwB, wt, [zO10 xo t im mk rd po co tr wa wb_ fi cd], w2_21, [zO4 l0 cr0_ inn0_ a1_51 a2_52 a3_53 a4_54, zAr T 0 a1_51 7 k10_, zAr T 0 a2_52 28 k20_, zAr T 0 a3_53 7 k30_, zAr T 0 a4_54 7 k40_]] _ _ := G.re rfl
                  have G := G.sub (bs' := [[zO10 xo t im mk rd po co tr wa wb_ fi cd], wt, [zO4 l0 cr0_ inn0_ a1_51 a2_52 a3_53 a4_54, zAr T 0 a1_51 7 k10_, zAr T 0 a2_52 28 k20_, zAr T 0 a3_53 7 k30_, zAr T 0 a4_54 7 k40_], z1_, w2_21, wwB]) [3, 2, 5, 0, 4, 1] rfl
                  exact z_back hQz_ (z_iret C hr hlocks G (Nat.le_of_ble_eq_true rfl) (by omega) dX11_set_144 ⟨l0, m2_22, wy2_23, pc2_24, g1_25, g2_26, f3A, g4_27, g5_28, g6_29, (zMk mdA n4A (zPl cr0_ inn0_ k10_)), w2_21, laB, mdB, wyB, pc_B, f1B, f2B, f3B, f4B, f5B, f6B, n4B, wwB, rfl, h_31, (Or.inr rfl), hwy9, hNAm.symm, (zMk_pw hpwA), (fun _ => h_33), (Or.inr h_34), hwwB, hmdB, hwmB, (by first | exact hNAo.symm | exact (zNA_n (by first | omega | grind)).symm), hpwB, (fun q => q), hTbB⟩)
                · have c_50n : ¬ (zWays cr0_ inn0_ k10_ (w_ - 10)).toInt ≤ (0 : Int) := fun q => c_50 ((fa_le _ _).mpr q)
                  refine lv_aload hx hb dX11_set_124 (lv_at hl 3 rfl) ?_
                  refine lv_iload hx hb dX11_set_126 (lv_at hl 2 rfl) ?_
                  refine lv_iload hx hb dX11_set_128 (lv_at hl 0 rfl) ?_
                  refine z_Vi (bc := [w2_21]) (br := [z1_, wwB, wt, [zO10 xo t im mk rd po co tr wa wb_ fi cd], z0_]) (As := [.int r_36, .int (w_ - 10)]) (rest := []) C G (c_road l T wa l0 m2_22 wy2_23 pc2_24 g1_25 g2_26 f3A g4_27 g5_28 g6_29 (zMk mdA n4A (zPl cr0_ inn0_ k10_)) w2_21 r_36 (w_ - 10) h_31) (kV_RX11_253 C.2.2.2.2 (Nat.le_of_ble_eq_true rfl) (Nat.le_of_ble_eq_true rfl)) [4] [4] rfl rfl (ci := 0) (qc := (RX0, TX0, 10)) rfl rfl (List.mem_flatten.mpr ⟨_, List.mem_of_getElem? (i := 0) rfl, (bWays_mem h_31).choose_spec⟩) rfl rfl hl.1 dX11_set_130 (Nat.le_of_ble_eq_true rfl) (by show _ + 0 ≤ 6 * (zNA (i1.toInt = 0 ∧ 0 < (fk 0).toInt ∧ 0 ≤ a_.toInt ∧ a_.toInt < cr0_.toInt ∧ a_.toInt < 7 ∧ 0 ≤ b_.toInt ∧ b_.toInt < cr0_.toInt ∧ b_.toInt < 7 ∧ ¬ zBit inn0_ b_ = 0) mdA n4A (zPl cr0_ inn0_ k10_) - n4A) + 6 * (zNA (i1.toInt = 1 ∧ 1 < (fk 0).toInt ∧ 0 ≤ a_.toInt ∧ a_.toInt < cr1_.toInt ∧ a_.toInt < 7 ∧ 0 ≤ b_.toInt ∧ b_.toInt < cr1_.toInt ∧ b_.toInt < 7 ∧ ¬ zBit inn1_ b_ = 0) mdB n4B (zPl cr1_ inn1_ k11_) - n4B); omega) (fun r_58 b1 H locs hw G => ?_)
                  refine zAn2 hw ?_
                  intro hbs9 h_57
                  clear hw
                  subst hbs9
                  have G : zS T A s.heap s [z1_, wwB, wt, [zO10 xo t im mk rd po co tr wa wb_ fi cd], z0_, w2_21] _ _ := G
                  subst h_57
                  refine lv_goto (tgt := 144) hx hb dX11_set_133 (by decide) ?_
                  have G := G.sub (bs' := [[zO10 xo t im mk rd po co tr wa wb_ fi cd], wt, z0_, z1_, w2_21, wwB]) [3, 2, 4, 0, 5, 1] rfl
                  exact z_back hQz_ (z_iret C hr hlocks G (Nat.le_of_ble_eq_true rfl) (by omega) dX11_set_144 ⟨l0, m2_22, wy2_23, pc2_24, g1_25, g2_26, f3A, g4_27, g5_28, g6_29, (zMk mdA n4A (zPl cr0_ inn0_ k10_)), w2_21, laB, mdB, wyB, pc_B, f1B, f2B, f3B, f4B, f5B, f6B, n4B, wwB, rfl, h_31, (Or.inr rfl), hwy9, hNAm.symm, (zMk_pw hpwA), (fun _ => h_33), (Or.inr h_34), hwwB, hmdB, hwmB, (by first | exact hNAo.symm | exact (zNA_n (by first | omega | grind)).symm), hpwB, (fun q => q), hTbB⟩)
              · have h_47 : ((w_ - 10).toInt < 0 ∨ cr0_.toInt ≤ (w_ - 10).toInt ∨ 7 ≤ (w_ - 10).toInt) := h_47
                refine lv_if_ne (tgt := 114) hx hb dX11_set_109 (by decide) (fun q => absurd (by decide) q) (fun _ => ?_)
                refine lv_iconst (v := (-1)) hx hb dX11_set_112 (by decide) ?_
                have G := G.sub (bs' := [[zO10 xo t im mk rd po co tr wa wb_ fi cd], wt, z0_, z1_, w2_21, wwB]) [3, 2, 5, 0, 4, 1] rfl
                exact z_back hQz_ (z_iret C hr hlocks G (Nat.le_of_ble_eq_true rfl) (by omega) dX11_set_113 ⟨l0, m2_22, wy2_23, pc2_24, g1_25, g2_26, f3A, g4_27, g5_28, g6_29, (zMk mdA n4A (zPl cr0_ inn0_ k10_)), w2_21, laB, mdB, wyB, pc_B, f1B, f2B, f3B, f4B, f5B, f6B, n4B, wwB, rfl, h_31, (Or.inr rfl), hwy9, hNAm.symm, (zMk_pw hpwA), (fun _ => h_33), (Or.inr h_34), hwwB, hmdB, hwmB, (by first | exact hNAo.symm | exact (zNA_n (by first | omega | grind)).symm), hpwB, (fun q => q), hTbB⟩)
            · have c_41n : w_.toInt = (1 : Int) := (fa_eq _ _).mp c_41
              refine lv_iload hx hb dX11_set_92 (lv_at hl 0 rfl) ?_
              have G := G.sub (bs' := [[zO10 xo t im mk rd po co tr wa wb_ fi cd], wt, z0_, z1_, w2_21, wwB]) [3, 2, 5, 0, 4, 1] rfl
              exact z_back hQz_ (z_iret C hr hlocks G (Nat.le_of_ble_eq_true rfl) (by omega) dX11_set_94 ⟨l0, m2_22, wy2_23, pc2_24, g1_25, g2_26, f3A, g4_27, g5_28, g6_29, (zMk mdA n4A (zPl cr0_ inn0_ k10_)), w2_21, laB, mdB, wyB, pc_B, f1B, f2B, f3B, f4B, f5B, f6B, n4B, wwB, rfl, h_31, (Or.inr rfl), hwy9, hNAm.symm, (zMk_pw hpwA), (fun _ => h_33), (Or.inr h_34), hwwB, hmdB, hwmB, (by first | exact hNAo.symm | exact (zNA_n (by first | omega | grind)).symm), hpwB, (fun q => q), hTbB⟩)
          · have c_40n : w_.toInt = (0 : Int) := (fa_eq _ _).mp c_40
            refine lv_iload hx hb dX11_set_80 (lv_at hl 0 rfl) ?_
            refine z_Si (bc := []) (br := [z1_, wwB, wt, [zO10 xo t im mk rd po co tr wa wb_ fi cd], w2_21, z0_]) (As := [.int r_39]) (rest := []) C G (c_bitCount l T r_39) (kS_RX11_248 C.2.2.2.2 (Nat.le_of_ble_eq_true rfl) (Nat.le_of_ble_eq_true rfl)) [] [] rfl rfl rfl rfl hl.1 dX11_set_82 (Nat.le_of_ble_eq_true rfl) (by show _ + 0 ≤ 6 * (zNA (i1.toInt = 0 ∧ 0 < (fk 0).toInt ∧ 0 ≤ a_.toInt ∧ a_.toInt < cr0_.toInt ∧ a_.toInt < 7 ∧ 0 ≤ b_.toInt ∧ b_.toInt < cr0_.toInt ∧ b_.toInt < 7 ∧ ¬ zBit inn0_ b_ = 0) mdA n4A (zPl cr0_ inn0_ k10_) - n4A) + 6 * (zNA (i1.toInt = 1 ∧ 1 < (fk 0).toInt ∧ 0 ≤ a_.toInt ∧ a_.toInt < cr1_.toInt ∧ a_.toInt < 7 ∧ 0 ≤ b_.toInt ∧ b_.toInt < cr1_.toInt ∧ b_.toInt < 7 ∧ ¬ zBit inn1_ b_ = 0) mdB n4B (zPl cr1_ inn1_ k11_) - n4B); omega) (fun r_59 b1 H locs hw G => ?_)
            obtain rfl := hw
            have G : zS T A s.heap s [z1_, wwB, wt, [zO10 xo t im mk rd po co tr wa wb_ fi cd], w2_21, z0_] _ _ := G
            have G := G.sub (bs' := [[zO10 xo t im mk rd po co tr wa wb_ fi cd], wt, z0_, z1_, w2_21, wwB]) [3, 2, 5, 0, 4, 1] rfl
            exact z_back hQz_ (z_iret C hr hlocks G (Nat.le_of_ble_eq_true rfl) (by omega) dX11_set_85 ⟨l0, m2_22, wy2_23, pc2_24, g1_25, g2_26, f3A, g4_27, g5_28, g6_29, (zMk mdA n4A (zPl cr0_ inn0_ k10_)), w2_21, laB, mdB, wyB, pc_B, f1B, f2B, f3B, f4B, f5B, f6B, n4B, wwB, rfl, h_31, (Or.inr rfl), hwy9, hNAm.symm, (zMk_pw hpwA), (fun _ => h_33), (Or.inr h_34), hwwB, hmdB, hwmB, (by first | exact hNAo.symm | exact (zNA_n (by first | omega | grind)).symm), hpwB, (fun q => q), hTbB⟩)
        · have c_37n : r_36.toInt = (-1 : Int) := (fa_eq _ _).mp c_37
          refine lv_iconst (v := (-1)) hx hb dX11_set_59 (by decide) ?_
          have G := G.sub (bs' := [[zO10 xo t im mk rd po co tr wa wb_ fi cd], wt, z0_, z1_, w2_21, wwB]) [3, 2, 5, 0, 4, 1] rfl
          exact z_back hQz_ (z_iret C hr hlocks G (Nat.le_of_ble_eq_true rfl) (by omega) dX11_set_60 ⟨l0, m2_22, wy2_23, pc2_24, g1_25, g2_26, f3A, g4_27, g5_28, g6_29, (zMk mdA n4A (zPl cr0_ inn0_ k10_)), w2_21, laB, mdB, wyB, pc_B, f1B, f2B, f3B, f4B, f5B, f6B, n4B, wwB, rfl, h_31, (Or.inr rfl), hwy9, hNAm.symm, (zMk_pw hpwA), (fun _ => h_33), (Or.inr h_34), hwwB, hmdB, hwmB, (by first | exact hNAo.symm | exact (zNA_n (by first | omega | grind)).symm), hpwB, (fun q => q), hTbB⟩)
      · have h_20 : (b_.toInt < 0 ∨ cr0_.toInt ≤ b_.toInt ∨ 7 ≤ b_.toInt ∨ zBit inn0_ b_ = 0) := h_20
        refine lv_if_ne (tgt := 35) hx hb dX11_set_30 (by decide) (fun q => absurd (by decide) q) (fun _ => ?_)
        refine lv_iconst (v := (-1)) hx hb dX11_set_33 (by decide) ?_
        have G := G.sub (bs' := [[zO10 xo t im mk rd po co tr wa wb_ fi cd], wt, z0_, z1_, wwA, wwB]) [0, 4, 5, 1, 2, 3] rfl
        exact z_back hQz_ (z_iret C hr hlocks G (Nat.le_of_ble_eq_true rfl) (by omega) dX11_set_34 ⟨laA, mdA, wyA, pc_A, f1A, f2A, f3A, f4A, f5A, f6A, n4A, wwA, laB, mdB, wyB, pc_B, f1B, f2B, f3B, f4B, f5B, f6B, n4B, wwB, rfl, hwwA, hmdA, hwmA, (by first | exact hNAo.symm | exact (zNA_n (by first | omega | grind)).symm), hpwA, (fun q => q), hTbA, hwwB, hmdB, hwmB, (by first | exact hNAo.symm | exact (zNA_n (by first | omega | grind)).symm), hpwB, (fun q => q), hTbB⟩)
    · have h_13 : (a_.toInt < 0 ∨ cr0_.toInt ≤ a_.toInt ∨ 7 ≤ a_.toInt) := h_13
      refine lv_if_eq (tgt := 33) hx hb dX11_set_21 (by decide) (fun _ => ?_) (fun q => absurd (by decide) q)
      refine lv_iconst (v := (-1)) hx hb dX11_set_33 (by decide) ?_
      have G := G.sub (bs' := [[zO10 xo t im mk rd po co tr wa wb_ fi cd], wt, z0_, z1_, wwA, wwB]) [0, 4, 5, 1, 2, 3] rfl
      exact z_back hQz_ (z_iret C hr hlocks G (Nat.le_of_ble_eq_true rfl) (by omega) dX11_set_34 ⟨laA, mdA, wyA, pc_A, f1A, f2A, f3A, f4A, f5A, f6A, n4A, wwA, laB, mdB, wyB, pc_B, f1B, f2B, f3B, f4B, f5B, f6B, n4B, wwB, rfl, hwwA, hmdA, hwmA, (by first | exact hNAo.symm | exact (zNA_n (by first | omega | grind)).symm), hpwA, (fun q => q), hTbA, hwwB, hmdB, hwmB, (by first | exact hNAo.symm | exact (zNA_n (by first | omega | grind)).symm), hpwB, (fun q => q), hTbB⟩)
  · have h_6 : i1.toInt = 1 := h_6
    have h_7 : 1 < (fk 0).toInt := h_7
    refine lv_astore (lv' := [(5, .ref l1), (0, .ref xo), (1, .int i1), (2, .int a_), (3, .int b_), (4, .int w_)]) hx hb dX11_set_8 hl (by decide) (zLvf_h rfl) (fun ls hl => ?_)
    refine lv_aload hx hb dX11_set_10 (lv_at hl 0 rfl) ?_
    refine lv_ifnull hx hb dX11_set_12 ?_
    refine lv_aload hx hb dX11_set_15 (lv_at hl 0 rfl) ?_
    refine lv_iload_n hx hb dX11_set_17 rfl (lv_at hl 3 rfl) ?_
    refine z_Vi (bc := [z1_]) (br := [[zO10 xo t im mk rd po co tr wa wb_ fi cd], z0_, wwA, wwB, wt]) (As := [.int a_]) (rest := []) C G (c_has l T l1 cr1_ inn1_ k11_ k21_ k31_ k41_ z1_ a_ hz1_) (kV_RX11_160 C.2.2.2.2 (Nat.le_of_ble_eq_true rfl) (Nat.le_of_ble_eq_true rfl)) [2] [2] rfl rfl (ci := 4) (qc := (RX4, TX4, 6)) rfl rfl (List.mem_flatten.mpr ⟨_, List.mem_of_getElem? (i := 0) rfl, (bLand_mem hz1_).choose_spec⟩) rfl rfl hl.1 dX11_set_18 (Nat.le_of_ble_eq_true rfl) (by show _ + 0 ≤ 6 * (zNA (i1.toInt = 0 ∧ 0 < (fk 0).toInt ∧ 0 ≤ a_.toInt ∧ a_.toInt < cr0_.toInt ∧ a_.toInt < 7 ∧ 0 ≤ b_.toInt ∧ b_.toInt < cr0_.toInt ∧ b_.toInt < 7 ∧ ¬ zBit inn0_ b_ = 0) mdA n4A (zPl cr0_ inn0_ k10_) - n4A) + 6 * (zNA (i1.toInt = 1 ∧ 1 < (fk 0).toInt ∧ 0 ≤ a_.toInt ∧ a_.toInt < cr1_.toInt ∧ a_.toInt < 7 ∧ 0 ≤ b_.toInt ∧ b_.toInt < cr1_.toInt ∧ b_.toInt < 7 ∧ ¬ zBit inn1_ b_ = 0) mdB n4B (zPl cr1_ inn1_ k11_) - n4B); omega) (fun r_61 b1 H locs hw G => ?_)
    refine zAn2 hw ?_
    intro hbs9 hc_60
    clear hw
    subst hbs9
    have G : zS T A s.heap s [[zO10 xo t im mk rd po co tr wa wb_ fi cd], z0_, wwA, wwB, wt, z1_] _ _ := G
    rcases hc_60 with ⟨rfl, h_62, h_63, h_64⟩ | ⟨rfl, h_65⟩
    · have h_62 : 0 ≤ a_.toInt := h_62
      have h_63 : a_.toInt < cr1_.toInt := h_63
      have h_64 : a_.toInt < 7 := h_64
      refine lv_if_eq (tgt := 33) hx hb dX11_set_21 (by decide) (fun q => absurd q (by decide)) (fun _ => ?_)
      refine lv_aload hx hb dX11_set_24 (lv_at hl 0 rfl) ?_
      refine lv_iload_n hx hb dX11_set_26 rfl (lv_at hl 4 rfl) ?_
      refine z_Vi (bc := [z1_]) (br := [[zO10 xo t im mk rd po co tr wa wb_ fi cd], z0_, wwA, wwB, wt]) (As := [.int b_]) (rest := []) C G (c_isInn l T l1 cr1_ inn1_ k11_ k21_ k31_ k41_ z1_ b_ hz1_) (kV_RX11_174 C.2.2.2.2 (Nat.le_of_ble_eq_true rfl) (Nat.le_of_ble_eq_true rfl)) [5] [5] rfl rfl (ci := 4) (qc := (RX4, TX4, 6)) rfl rfl (List.mem_flatten.mpr ⟨_, List.mem_of_getElem? (i := 0) rfl, (bLand_mem hz1_).choose_spec⟩) rfl rfl hl.1 dX11_set_27 (Nat.le_of_ble_eq_true rfl) (by show _ + 0 ≤ 6 * (zNA (i1.toInt = 0 ∧ 0 < (fk 0).toInt ∧ 0 ≤ a_.toInt ∧ a_.toInt < cr0_.toInt ∧ a_.toInt < 7 ∧ 0 ≤ b_.toInt ∧ b_.toInt < cr0_.toInt ∧ b_.toInt < 7 ∧ ¬ zBit inn0_ b_ = 0) mdA n4A (zPl cr0_ inn0_ k10_) - n4A) + 6 * (zNA (i1.toInt = 1 ∧ 1 < (fk 0).toInt ∧ 0 ≤ a_.toInt ∧ a_.toInt < cr1_.toInt ∧ a_.toInt < 7 ∧ 0 ≤ b_.toInt ∧ b_.toInt < cr1_.toInt ∧ b_.toInt < 7 ∧ ¬ zBit inn1_ b_ = 0) mdB n4B (zPl cr1_ inn1_ k11_) - n4B); omega) (fun r_67 b1 H locs hw G => ?_)
      refine zAn2 hw ?_
      intro hbs9 hc_66
      clear hw
      subst hbs9
      have G : zS T A s.heap s [[zO10 xo t im mk rd po co tr wa wb_ fi cd], z0_, wwA, wwB, wt, z1_] _ _ := G
      rcases hc_66 with ⟨rfl, h_68, h_69, h_70, h_71⟩ | ⟨rfl, h_72⟩
      · have h_68 : 0 ≤ b_.toInt := h_68
        have h_69 : b_.toInt < cr1_.toInt := h_69
        have h_70 : b_.toInt < 7 := h_70
        have h_71 : ¬ zBit inn1_ b_ = 0 := h_71
        refine lv_if_ne (tgt := 35) hx hb dX11_set_30 (by decide) (fun _ => ?_) (fun q => absurd q (by decide))
        refine lv_aload_n hx hb dX11_set_35 rfl (lv_at hl 1 rfl) ?_
        refine lv_iload_n hx hb dX11_set_36 rfl (lv_at hl 2 rfl) ?_
        refine lv_aload hx hb dX11_set_37 (lv_at hl 0 rfl) ?_
        have hNAm : zNA (i1.toInt = 1 ∧ 1 < (fk 0).toInt ∧ 0 ≤ a_.toInt ∧ a_.toInt < cr1_.toInt ∧ a_.toInt < 7 ∧ 0 ≤ b_.toInt ∧ b_.toInt < cr1_.toInt ∧ b_.toInt < 7 ∧ ¬ zBit inn1_ b_ = 0) mdB n4B (zPl cr1_ inn1_ k11_) = zMk mdB n4B (zPl cr1_ inn1_ k11_) := zNA_y (by first | omega | (repeat' (first | omega | assumption | constructor)))
        have hNAo : zNA (i1.toInt = 0 ∧ 0 < (fk 0).toInt ∧ 0 ≤ a_.toInt ∧ a_.toInt < cr0_.toInt ∧ a_.toInt < 7 ∧ 0 ≤ b_.toInt ∧ b_.toInt < cr0_.toInt ∧ b_.toInt < 7 ∧ ¬ zBit inn0_ b_ = 0) mdA n4A (zPl cr0_ inn0_ k10_) = n4A := zNA_n (by omega)
        have hn9 : zMk mdB n4B (zPl cr1_ inn1_ k11_) ≤ 131072 := zPw_le (zMk_pw hpwB)
        refine z_Vq (bc := [[zO10 xo t im mk rd po co tr wa wb_ fi cd], wwB, z1_]) (br := [z0_, wwA, wt]) (As := [.int i1, .ref l1]) (rest := []) C G (c_f_waysInB l T xo t im mk rd po co tr wa wb_ fi cd i1 laB mdB wyB pc_B f1B f2B f3B f4B f5B f6B n4B wwB l1 cr1_ inn1_ k11_ k21_ k31_ k41_ z1_ hwwB hz1_ hI1_ hpwB hmdB (kaOk hI1_ hLq1).1 hTbB (by omega)) (kV_RX11_235 C.2.2.2.2 (Nat.le_of_ble_eq_true rfl) (Nat.le_of_ble_eq_true rfl)) [0, 3, 5] [0, 2, 1] rfl rfl (ci := 10) (qc := (RX11, TX11, 11)) rfl rfl (List.mem_flatten.mpr ⟨_, List.mem_of_getElem? (i := 0) rfl, List.mem_cons_self⟩) rfl rfl hl.1 dX11_set_39 (Nat.le_of_ble_eq_true rfl) (by show _ + (6 * (zMk mdB n4B (zPl cr1_ inn1_ k11_) - n4B)) ≤ 6 * (zNA (i1.toInt = 0 ∧ 0 < (fk 0).toInt ∧ 0 ≤ a_.toInt ∧ a_.toInt < cr0_.toInt ∧ a_.toInt < 7 ∧ 0 ≤ b_.toInt ∧ b_.toInt < cr0_.toInt ∧ b_.toInt < 7 ∧ ¬ zBit inn0_ b_ = 0) mdA n4A (zPl cr0_ inn0_ k10_) - n4A) + 6 * (zNA (i1.toInt = 1 ∧ 1 < (fk 0).toInt ∧ 0 ≤ a_.toInt ∧ a_.toInt < cr1_.toInt ∧ a_.toInt < 7 ∧ 0 ≤ b_.toInt ∧ b_.toInt < cr1_.toInt ∧ b_.toInt < 7 ∧ ¬ zBit inn1_ b_ = 0) mdB n4B (zPl cr1_ inn1_ k11_) - n4B); omega) (fun r_87 b1 H locs hw G => ?_)
        refine zEx9 hw ?_
        intro w2_73 m2_74 wy2_75 pc2_76 g1_77 g2_78 g4_79 g5_80 g6_81
        refine zCu6 ?_
        intro hbs9 h_82 h_83 h_84 h_85 h_86
        clear hw
        subst hbs9
        have G : zS T A s.heap s [z0_, wwA, wt, [zO10 xo t im mk rd po co tr wa wb_ fi cd], w2_73, z1_] _ _ := G
        subst h_82
        have hwy9 : 0 ≤ wy2_75.toInt ∧ wy2_75.toInt ≤ 16384 := by have q9 := zWy_in (inn := inn1_) hI1_; rw [h_84]; exact ⟨by omega, q9.2⟩
        have hp79 : aPr (aW cr1_ inn1_ k11_) 7 ≤ 16384 := aPr_7 hI1_
        have hwN9 : wy2_75 = nI (aPr (aW cr1_ inn1_ k11_) 7) := h_84.trans (zWy_z hI1_)
        have hwT9 : wy2_75.toInt = ((aPr (aW cr1_ inn1_ k11_) 7 : Nat) : Int) := by rw [hwN9, nI_toInt (by omega)]
        have hOk9 := (kaOk (inn := inn1_) hI1_ hLq1).1
        have hc79 := hI1_.1
        refine lv_astore (lv' := [(6, .ref wb_), (5, .ref l1), (0, .ref xo), (1, .int i1), (2, .int a_), (3, .int b_), (4, .int w_)]) hx hb dX11_set_42 hl (by decide) (zLvf_h rfl) (fun ls hl => ?_)
        refine lv_aload hx hb dX11_set_44 (lv_at hl 0 rfl) ?_
        refine lv_iload_n hx hb dX11_set_46 rfl (lv_at hl 4 rfl) ?_
        refine lv_iload_n hx hb dX11_set_47 rfl (lv_at hl 5 rfl) ?_
        refine z_Vi (bc := [w2_73, z1_]) (br := [z0_, wwA, wt, [zO10 xo t im mk rd po co tr wa wb_ fi cd]]) (As := [.int a_, .int b_]) (rest := []) C G (c_nearestWay l T wb_ l1 m2_74 wy2_75 pc2_76 g1_77 g2_78 f3B g4_79 g5_80 g6_81 (zMk mdB n4B (zPl cr1_ inn1_ k11_)) w2_73 cr1_ inn1_ k11_ k21_ k31_ k41_ z1_ a_ b_ h_83 hz1_ (by first | with_reducible assumption | with_reducible rfl | omega | assumption | rfl) (by first | with_reducible assumption | with_reducible rfl | omega | assumption | rfl) (by first | with_reducible assumption | with_reducible rfl | omega | assumption | rfl)) (kV_RX11_239 C.2.2.2.2 (Nat.le_of_ble_eq_true rfl) (Nat.le_of_ble_eq_true rfl)) [4, 5] [4, 0] rfl rfl (ci := 0) (qc := (RX0, TX0, 10)) rfl rfl (List.mem_flatten.mpr ⟨_, List.mem_of_getElem? (i := 0) rfl, (bWays_mem h_83).choose_spec⟩) rfl rfl hl.1 dX11_set_48 (Nat.le_of_ble_eq_true rfl) (by show _ + 0 ≤ 6 * (zNA (i1.toInt = 0 ∧ 0 < (fk 0).toInt ∧ 0 ≤ a_.toInt ∧ a_.toInt < cr0_.toInt ∧ a_.toInt < 7 ∧ 0 ≤ b_.toInt ∧ b_.toInt < cr0_.toInt ∧ b_.toInt < 7 ∧ ¬ zBit inn0_ b_ = 0) mdA n4A (zPl cr0_ inn0_ k10_) - n4A) + 6 * (zNA (i1.toInt = 1 ∧ 1 < (fk 0).toInt ∧ 0 ≤ a_.toInt ∧ a_.toInt < cr1_.toInt ∧ a_.toInt < 7 ∧ 0 ≤ b_.toInt ∧ b_.toInt < cr1_.toInt ∧ b_.toInt < 7 ∧ ¬ zBit inn1_ b_ = 0) mdB n4B (zPl cr1_ inn1_ k11_) - n4B); omega) (fun r_88 b1 H locs hw G => ?_)
        obtain rfl := hw
        have G : zS T A s.heap s [z0_, wwA, wt, [zO10 xo t im mk rd po co tr wa wb_ fi cd], w2_73, z1_] _ _ := G
        refine lv_istore (lv' := [(7, .int r_88), (6, .ref wb_), (5, .ref l1), (0, .ref xo), (1, .int i1), (2, .int a_), (3, .int b_), (4, .int w_)]) hx hb dX11_set_51 hl (by decide) (zLvf_h rfl) (fun ls hl => ?_)
        refine lv_iload hx hb dX11_set_53 (lv_at hl 0 rfl) ?_
        refine lv_iconst (v := (-1)) hx hb dX11_set_55 (by decide) ?_
        refine lv_icmp_ne (tgt := 61) hx hb dX11_set_56 (by decide) (fun c_89 => ?_) (fun c_89 => ?_)
        · have c_89n : ¬ r_88.toInt = (-1 : Int) := fun q => c_89 ((fa_eq _ _).mpr q)
          refine lv_aload hx hb dX11_set_61 (lv_at hl 1 rfl) ?_
          refine lv_iload hx hb dX11_set_63 (lv_at hl 0 rfl) ?_
          refine lv_aload hx hb dX11_set_65 (lv_at hl 1 rfl) ?_
          refine z_Vi (bc := [w2_73, z1_]) (br := [z0_, wwA, wt, [zO10 xo t im mk rd po co tr wa wb_ fi cd]]) (As := []) (rest := [.int r_88, .ref wb_]) C G (c_wayTold l T wb_ l1 m2_74 wy2_75 pc2_76 g1_77 g2_78 f3B g4_79 g5_80 g6_81 (zMk mdB n4B (zPl cr1_ inn1_ k11_)) w2_73 cr1_ inn1_ k11_ k21_ k31_ k41_ z1_ h_83 hz1_ (by first | with_reducible assumption | with_reducible rfl | omega | assumption | rfl)) (kV_RX11_242 C.2.2.2.2 (Nat.le_of_ble_eq_true rfl) (Nat.le_of_ble_eq_true rfl)) [4, 5] [4, 0] rfl rfl (ci := 0) (qc := (RX0, TX0, 10)) rfl rfl (List.mem_flatten.mpr ⟨_, List.mem_of_getElem? (i := 0) rfl, (bWays_mem h_83).choose_spec⟩) rfl rfl hl.1 dX11_set_67 (Nat.le_of_ble_eq_true rfl) (by show _ + 0 ≤ 6 * (zNA (i1.toInt = 0 ∧ 0 < (fk 0).toInt ∧ 0 ≤ a_.toInt ∧ a_.toInt < cr0_.toInt ∧ a_.toInt < 7 ∧ 0 ≤ b_.toInt ∧ b_.toInt < cr0_.toInt ∧ b_.toInt < 7 ∧ ¬ zBit inn0_ b_ = 0) mdA n4A (zPl cr0_ inn0_ k10_) - n4A) + 6 * (zNA (i1.toInt = 1 ∧ 1 < (fk 0).toInt ∧ 0 ≤ a_.toInt ∧ a_.toInt < cr1_.toInt ∧ a_.toInt < 7 ∧ 0 ≤ b_.toInt ∧ b_.toInt < cr1_.toInt ∧ b_.toInt < 7 ∧ ¬ zBit inn1_ b_ = 0) mdB n4B (zPl cr1_ inn1_ k11_) - n4B); omega) (fun r_90 b1 H locs hw G => ?_)
          obtain rfl := hw
          have G : zS T A s.heap s [z0_, wwA, wt, [zO10 xo t im mk rd po co tr wa wb_ fi cd], w2_73, z1_] _ _ := G
          refine z_Vi (bc := [w2_73, z1_]) (br := [z0_, wwA, wt, [zO10 xo t im mk rd po co tr wa wb_ fi cd]]) (As := [.int r_88, .int r_90]) (rest := []) C G (c_unlike l T wb_ l1 m2_74 wy2_75 pc2_76 g1_77 g2_78 f3B g4_79 g5_80 g6_81 (zMk mdB n4B (zPl cr1_ inn1_ k11_)) w2_73 cr1_ inn1_ k11_ k21_ k31_ k41_ z1_ r_88 r_90 h_83 hz1_ (by first | with_reducible assumption | with_reducible rfl | omega | assumption | rfl)) (kV_RX11_245 C.2.2.2.2 (Nat.le_of_ble_eq_true rfl) (Nat.le_of_ble_eq_true rfl)) [4, 5] [4, 0] rfl rfl (ci := 0) (qc := (RX0, TX0, 10)) rfl rfl (List.mem_flatten.mpr ⟨_, List.mem_of_getElem? (i := 0) rfl, (bWays_mem h_83).choose_spec⟩) rfl rfl hl.1 dX11_set_70 (Nat.le_of_ble_eq_true rfl) (by show _ + 0 ≤ 6 * (zNA (i1.toInt = 0 ∧ 0 < (fk 0).toInt ∧ 0 ≤ a_.toInt ∧ a_.toInt < cr0_.toInt ∧ a_.toInt < 7 ∧ 0 ≤ b_.toInt ∧ b_.toInt < cr0_.toInt ∧ b_.toInt < 7 ∧ ¬ zBit inn0_ b_ = 0) mdA n4A (zPl cr0_ inn0_ k10_) - n4A) + 6 * (zNA (i1.toInt = 1 ∧ 1 < (fk 0).toInt ∧ 0 ≤ a_.toInt ∧ a_.toInt < cr1_.toInt ∧ a_.toInt < 7 ∧ 0 ≤ b_.toInt ∧ b_.toInt < cr1_.toInt ∧ b_.toInt < 7 ∧ ¬ zBit inn1_ b_ = 0) mdB n4B (zPl cr1_ inn1_ k11_) - n4B); omega) (fun r_91 b1 H locs hw G => ?_)
          obtain rfl := hw
          have G : zS T A s.heap s [z0_, wwA, wt, [zO10 xo t im mk rd po co tr wa wb_ fi cd], w2_73, z1_] _ _ := G
          refine lv_istore (lv' := [(8, .int r_91), (7, .int r_88), (6, .ref wb_), (5, .ref l1), (0, .ref xo), (1, .int i1), (2, .int a_), (3, .int b_), (4, .int w_)]) hx hb dX11_set_73 hl (by decide) (zLvf_h rfl) (fun ls hl => ?_)
          refine lv_iload hx hb dX11_set_75 (lv_at hl 8 rfl) ?_
          refine lv_if_ne (tgt := 86) hx hb dX11_set_77 (by decide) (fun c_92 => ?_) (fun c_92 => ?_)
          · have c_92n : ¬ w_.toInt = (0 : Int) := fun q => c_92 ((fa_eq _ _).mpr q)
            refine lv_iload hx hb dX11_set_86 (lv_at hl 8 rfl) ?_
            refine lv_iconst (v := 1) hx hb dX11_set_88 (by decide) ?_
            refine lv_icmp_ne (tgt := 95) hx hb dX11_set_89 (by decide) (fun c_93 => ?_) (fun c_93 => ?_)
            · have c_93n : ¬ w_.toInt = (1 : Int) := fun q => c_93 ((fa_eq _ _).mpr q)
              refine lv_iload hx hb dX11_set_95 (lv_at hl 8 rfl) ?_
              refine lv_bipush (v := 10) hx hb dX11_set_97 (by decide) ?_
              refine lv_isub hx hb dX11_set_99 ?_
              refine lv_istore (lv' := [(9, .int (w_ - 10)), (8, .int r_91), (7, .int r_88), (6, .ref wb_), (5, .ref l1), (0, .ref xo), (1, .int i1), (2, .int a_), (3, .int b_), (4, .int w_)]) hx hb dX11_set_100 hl (by decide) (zLvf_h rfl) (fun ls hl => ?_)
              refine lv_aload hx hb dX11_set_102 (lv_at hl 4 rfl) ?_
              refine lv_iload hx hb dX11_set_104 (lv_at hl 0 rfl) ?_
              refine z_Vi (bc := [z1_]) (br := [z0_, wwA, wt, [zO10 xo t im mk rd po co tr wa wb_ fi cd], w2_73]) (As := [.int (w_ - 10)]) (rest := []) C G (c_has l T l1 cr1_ inn1_ k11_ k21_ k31_ k41_ z1_ (w_ - 10) hz1_) (kV_RX11_160 C.2.2.2.2 (Nat.le_of_ble_eq_true rfl) (Nat.le_of_ble_eq_true rfl)) [5] [5] rfl rfl (ci := 4) (qc := (RX4, TX4, 6)) rfl rfl (List.mem_flatten.mpr ⟨_, List.mem_of_getElem? (i := 0) rfl, (bLand_mem hz1_).choose_spec⟩) rfl rfl hl.1 dX11_set_106 (Nat.le_of_ble_eq_true rfl) (by show _ + 0 ≤ 6 * (zNA (i1.toInt = 0 ∧ 0 < (fk 0).toInt ∧ 0 ≤ a_.toInt ∧ a_.toInt < cr0_.toInt ∧ a_.toInt < 7 ∧ 0 ≤ b_.toInt ∧ b_.toInt < cr0_.toInt ∧ b_.toInt < 7 ∧ ¬ zBit inn0_ b_ = 0) mdA n4A (zPl cr0_ inn0_ k10_) - n4A) + 6 * (zNA (i1.toInt = 1 ∧ 1 < (fk 0).toInt ∧ 0 ≤ a_.toInt ∧ a_.toInt < cr1_.toInt ∧ a_.toInt < 7 ∧ 0 ≤ b_.toInt ∧ b_.toInt < cr1_.toInt ∧ b_.toInt < 7 ∧ ¬ zBit inn1_ b_ = 0) mdB n4B (zPl cr1_ inn1_ k11_) - n4B); omega) (fun r_95 b1 H locs hw G => ?_)
              refine zAn2 hw ?_
              intro hbs9 hc_94
              clear hw
              subst hbs9
              have G : zS T A s.heap s [z0_, wwA, wt, [zO10 xo t im mk rd po co tr wa wb_ fi cd], w2_73, z1_] _ _ := G
              rcases hc_94 with ⟨rfl, h_96, h_97, h_98⟩ | ⟨rfl, h_99⟩
              · have h_96 : 0 ≤ (w_ - 10).toInt := h_96
                have h_97 : (w_ - 10).toInt < cr1_.toInt := h_97
                have h_98 : (w_ - 10).toInt < 7 := h_98
                refine lv_if_ne (tgt := 114) hx hb dX11_set_109 (by decide) (fun _ => ?_) (fun q => absurd q (by decide))
                refine lv_aload hx hb dX11_set_114 (lv_at hl 4 rfl) ?_
                refine lv_iload hx hb dX11_set_116 (lv_at hl 0 rfl) ?_
                refine z_Vi (bc := [z1_]) (br := [z0_, wwA, wt, [zO10 xo t im mk rd po co tr wa wb_ fi cd], w2_73]) (As := [.int (w_ - 10)]) (rest := []) C G (c_waysOut l T l1 cr1_ inn1_ k11_ k21_ k31_ k41_ z1_ (w_ - 10) hz1_) (kV_RX11_221 C.2.2.2.2 (Nat.le_of_ble_eq_true rfl) (Nat.le_of_ble_eq_true rfl)) [5] [5] rfl rfl (ci := 4) (qc := (RX4, TX4, 6)) rfl rfl (List.mem_flatten.mpr ⟨_, List.mem_of_getElem? (i := 0) rfl, (bLand_mem hz1_).choose_spec⟩) rfl rfl hl.1 dX11_set_118 (Nat.le_of_ble_eq_true rfl) (by show _ + 0 ≤ 6 * (zNA (i1.toInt = 0 ∧ 0 < (fk 0).toInt ∧ 0 ≤ a_.toInt ∧ a_.toInt < cr0_.toInt ∧ a_.toInt < 7 ∧ 0 ≤ b_.toInt ∧ b_.toInt < cr0_.toInt ∧ b_.toInt < 7 ∧ ¬ zBit inn0_ b_ = 0) mdA n4A (zPl cr0_ inn0_ k10_) - n4A) + 6 * (zNA (i1.toInt = 1 ∧ 1 < (fk 0).toInt ∧ 0 ≤ a_.toInt ∧ a_.toInt < cr1_.toInt ∧ a_.toInt < 7 ∧ 0 ≤ b_.toInt ∧ b_.toInt < cr1_.toInt ∧ b_.toInt < 7 ∧ ¬ zBit inn1_ b_ = 0) mdB n4B (zPl cr1_ inn1_ k11_) - n4B); omega) (fun r_101 b1 H locs hw G => ?_)
                refine zAn2 hw ?_
                intro hbs9 h_100
                clear hw
                subst hbs9
                have G : zS T A s.heap s [z0_, wwA, wt, [zO10 xo t im mk rd po co tr wa wb_ fi cd], w2_73, z1_] _ _ := G
                subst h_100
                refine lv_if_le (tgt := 136) hx hb dX11_set_121 (by decide) (fun c_102 => ?_) (fun c_102 => ?_)
                · have c_102n : (zWays cr1_ inn1_ k11_ (w_ - 10)).toInt ≤ (0 : Int) := (fa_le _ _).mp c_102
                  refine lv_aload hx hb dX11_set_136 (lv_at hl 4 rfl) ?_
                  refine zEx4 hz1_ ?_
                  intro a1_103 a2_104 a3_105 a4_106 hbs9
                  clear hz1_
                  subst hbs9
                  have G : zS T A s.heap s [z0_, wwA, wt, [zO10 xo t im mk rd po co tr wa wb_ fi cd], w2_73, [zO4 l1 cr1_ inn1_ a1_103 a2_104 a3_105 a4_106], [zAr T 0 a1_103 7 k11_], [zAr T 0 a2_104 28 k21_], [zAr T 0 a3_105 7 k31_], [zAr T 0 a4_106 7 k41_]] _ _ := G.re rfl
                  refine z_get C G clX4 5 rfl 4 (by decide) m_fl_RX11_256 rfl dX11_set_138 ?_
                  refine lv_iload hx hb dX11_set_141 (lv_at hl 0 rfl) ?_
                  refine z_ild C G 8 rfl (vp_in_iff.mpr ⟨by omega, by omega⟩) dX11_set_143 ?_
                  refine lv_topi (fun v_107 ev_107 => ?_)
                  subst ev_107
                  have hw_108 : bLand T l1 cr1_ inn1_ k11_ k21_ k31_ k41_ [zO4 l1 cr1_ inn1_ a1_103 a2_104 a3_105 a4_106, zAr T 0 a1_103 7 k11_, zAr T 0 a2_104 28 k21_, zAr T 0 a3_105 7 k31_, zAr T 0 a4_106 7 k41_] := ⟨a1_103, a2_104, a3_105, a4_106, rfl⟩
                  have G : zS T A s.heap s [z0_, wwA, wt, [zO10 xo t im mk rd po co tr wa wb_ fi cd], w2_73, [zO4 l1 cr1_ inn1_ a1_103 a2_104 a3_105 a4_106, zAr T 0 a1_103 7 k11_, zAr T 0 a2_104 28 k21_, zAr T 0 a3_105 7 k31_, zAr T 0 a4_106 7 k41_]] _ _ := G.re rfl
                  have G := G.sub (bs' := [[zO10 xo t im mk rd po co tr wa wb_ fi cd], wt, z0_, [zO4 l1 cr1_ inn1_ a1_103 a2_104 a3_105 a4_106, zAr T 0 a1_103 7 k11_, zAr T 0 a2_104 28 k21_, zAr T 0 a3_105 7 k31_, zAr T 0 a4_106 7 k41_], wwA, w2_73]) [3, 2, 0, 5, 1, 4] rfl
                  exact z_back hQz_ (z_iret C hr hlocks G (Nat.le_of_ble_eq_true rfl) (by omega) dX11_set_144 ⟨laA, mdA, wyA, pc_A, f1A, f2A, f3A, f4A, f5A, f6A, n4A, wwA, l1, m2_74, wy2_75, pc2_76, g1_77, g2_78, f3B, g4_79, g5_80, g6_81, (zMk mdB n4B (zPl cr1_ inn1_ k11_)), w2_73, rfl, hwwA, hmdA, hwmA, (by first | exact hNAo.symm | exact (zNA_n (by first | omega | grind)).symm), hpwA, (fun q => q), hTbA, h_83, (Or.inr rfl), hwy9, hNAm.symm, (zMk_pw hpwB), (fun _ => h_85), (Or.inr h_86)⟩)
                · have c_102n : ¬ (zWays cr1_ inn1_ k11_ (w_ - 10)).toInt ≤ (0 : Int) := fun q => c_102 ((fa_le _ _).mpr q)
                  refine lv_aload hx hb dX11_set_124 (lv_at hl 3 rfl) ?_
                  refine lv_iload hx hb dX11_set_126 (lv_at hl 2 rfl) ?_
                  refine lv_iload hx hb dX11_set_128 (lv_at hl 0 rfl) ?_
                  refine z_Vi (bc := [w2_73]) (br := [z0_, wwA, wt, [zO10 xo t im mk rd po co tr wa wb_ fi cd], z1_]) (As := [.int r_88, .int (w_ - 10)]) (rest := []) C G (c_road l T wb_ l1 m2_74 wy2_75 pc2_76 g1_77 g2_78 f3B g4_79 g5_80 g6_81 (zMk mdB n4B (zPl cr1_ inn1_ k11_)) w2_73 r_88 (w_ - 10) h_83) (kV_RX11_253 C.2.2.2.2 (Nat.le_of_ble_eq_true rfl) (Nat.le_of_ble_eq_true rfl)) [4] [4] rfl rfl (ci := 0) (qc := (RX0, TX0, 10)) rfl rfl (List.mem_flatten.mpr ⟨_, List.mem_of_getElem? (i := 0) rfl, (bWays_mem h_83).choose_spec⟩) rfl rfl hl.1 dX11_set_130 (Nat.le_of_ble_eq_true rfl) (by show _ + 0 ≤ 6 * (zNA (i1.toInt = 0 ∧ 0 < (fk 0).toInt ∧ 0 ≤ a_.toInt ∧ a_.toInt < cr0_.toInt ∧ a_.toInt < 7 ∧ 0 ≤ b_.toInt ∧ b_.toInt < cr0_.toInt ∧ b_.toInt < 7 ∧ ¬ zBit inn0_ b_ = 0) mdA n4A (zPl cr0_ inn0_ k10_) - n4A) + 6 * (zNA (i1.toInt = 1 ∧ 1 < (fk 0).toInt ∧ 0 ≤ a_.toInt ∧ a_.toInt < cr1_.toInt ∧ a_.toInt < 7 ∧ 0 ≤ b_.toInt ∧ b_.toInt < cr1_.toInt ∧ b_.toInt < 7 ∧ ¬ zBit inn1_ b_ = 0) mdB n4B (zPl cr1_ inn1_ k11_) - n4B); omega) (fun r_110 b1 H locs hw G => ?_)
                  refine zAn2 hw ?_
                  intro hbs9 h_109
                  clear hw
                  subst hbs9
                  have G : zS T A s.heap s [z0_, wwA, wt, [zO10 xo t im mk rd po co tr wa wb_ fi cd], z1_, w2_73] _ _ := G
                  subst h_109
                  refine lv_goto (tgt := 144) hx hb dX11_set_133 (by decide) ?_
                  have G := G.sub (bs' := [[zO10 xo t im mk rd po co tr wa wb_ fi cd], wt, z0_, z1_, wwA, w2_73]) [3, 2, 0, 4, 1, 5] rfl
                  exact z_back hQz_ (z_iret C hr hlocks G (Nat.le_of_ble_eq_true rfl) (by omega) dX11_set_144 ⟨laA, mdA, wyA, pc_A, f1A, f2A, f3A, f4A, f5A, f6A, n4A, wwA, l1, m2_74, wy2_75, pc2_76, g1_77, g2_78, f3B, g4_79, g5_80, g6_81, (zMk mdB n4B (zPl cr1_ inn1_ k11_)), w2_73, rfl, hwwA, hmdA, hwmA, (by first | exact hNAo.symm | exact (zNA_n (by first | omega | grind)).symm), hpwA, (fun q => q), hTbA, h_83, (Or.inr rfl), hwy9, hNAm.symm, (zMk_pw hpwB), (fun _ => h_85), (Or.inr h_86)⟩)
              · have h_99 : ((w_ - 10).toInt < 0 ∨ cr1_.toInt ≤ (w_ - 10).toInt ∨ 7 ≤ (w_ - 10).toInt) := h_99
                refine lv_if_ne (tgt := 114) hx hb dX11_set_109 (by decide) (fun q => absurd (by decide) q) (fun _ => ?_)
                refine lv_iconst (v := (-1)) hx hb dX11_set_112 (by decide) ?_
                have G := G.sub (bs' := [[zO10 xo t im mk rd po co tr wa wb_ fi cd], wt, z0_, z1_, wwA, w2_73]) [3, 2, 0, 5, 1, 4] rfl
                exact z_back hQz_ (z_iret C hr hlocks G (Nat.le_of_ble_eq_true rfl) (by omega) dX11_set_113 ⟨laA, mdA, wyA, pc_A, f1A, f2A, f3A, f4A, f5A, f6A, n4A, wwA, l1, m2_74, wy2_75, pc2_76, g1_77, g2_78, f3B, g4_79, g5_80, g6_81, (zMk mdB n4B (zPl cr1_ inn1_ k11_)), w2_73, rfl, hwwA, hmdA, hwmA, (by first | exact hNAo.symm | exact (zNA_n (by first | omega | grind)).symm), hpwA, (fun q => q), hTbA, h_83, (Or.inr rfl), hwy9, hNAm.symm, (zMk_pw hpwB), (fun _ => h_85), (Or.inr h_86)⟩)
            · have c_93n : w_.toInt = (1 : Int) := (fa_eq _ _).mp c_93
              refine lv_iload hx hb dX11_set_92 (lv_at hl 0 rfl) ?_
              have G := G.sub (bs' := [[zO10 xo t im mk rd po co tr wa wb_ fi cd], wt, z0_, z1_, wwA, w2_73]) [3, 2, 0, 5, 1, 4] rfl
              exact z_back hQz_ (z_iret C hr hlocks G (Nat.le_of_ble_eq_true rfl) (by omega) dX11_set_94 ⟨laA, mdA, wyA, pc_A, f1A, f2A, f3A, f4A, f5A, f6A, n4A, wwA, l1, m2_74, wy2_75, pc2_76, g1_77, g2_78, f3B, g4_79, g5_80, g6_81, (zMk mdB n4B (zPl cr1_ inn1_ k11_)), w2_73, rfl, hwwA, hmdA, hwmA, (by first | exact hNAo.symm | exact (zNA_n (by first | omega | grind)).symm), hpwA, (fun q => q), hTbA, h_83, (Or.inr rfl), hwy9, hNAm.symm, (zMk_pw hpwB), (fun _ => h_85), (Or.inr h_86)⟩)
          · have c_92n : w_.toInt = (0 : Int) := (fa_eq _ _).mp c_92
            refine lv_iload hx hb dX11_set_80 (lv_at hl 0 rfl) ?_
            refine z_Si (bc := []) (br := [z0_, wwA, wt, [zO10 xo t im mk rd po co tr wa wb_ fi cd], w2_73, z1_]) (As := [.int r_91]) (rest := []) C G (c_bitCount l T r_91) (kS_RX11_248 C.2.2.2.2 (Nat.le_of_ble_eq_true rfl) (Nat.le_of_ble_eq_true rfl)) [] [] rfl rfl rfl rfl hl.1 dX11_set_82 (Nat.le_of_ble_eq_true rfl) (by show _ + 0 ≤ 6 * (zNA (i1.toInt = 0 ∧ 0 < (fk 0).toInt ∧ 0 ≤ a_.toInt ∧ a_.toInt < cr0_.toInt ∧ a_.toInt < 7 ∧ 0 ≤ b_.toInt ∧ b_.toInt < cr0_.toInt ∧ b_.toInt < 7 ∧ ¬ zBit inn0_ b_ = 0) mdA n4A (zPl cr0_ inn0_ k10_) - n4A) + 6 * (zNA (i1.toInt = 1 ∧ 1 < (fk 0).toInt ∧ 0 ≤ a_.toInt ∧ a_.toInt < cr1_.toInt ∧ a_.toInt < 7 ∧ 0 ≤ b_.toInt ∧ b_.toInt < cr1_.toInt ∧ b_.toInt < 7 ∧ ¬ zBit inn1_ b_ = 0) mdB n4B (zPl cr1_ inn1_ k11_) - n4B); omega) (fun r_111 b1 H locs hw G => ?_)
            obtain rfl := hw
            have G : zS T A s.heap s [z0_, wwA, wt, [zO10 xo t im mk rd po co tr wa wb_ fi cd], w2_73, z1_] _ _ := G
            have G := G.sub (bs' := [[zO10 xo t im mk rd po co tr wa wb_ fi cd], wt, z0_, z1_, wwA, w2_73]) [3, 2, 0, 5, 1, 4] rfl
            exact z_back hQz_ (z_iret C hr hlocks G (Nat.le_of_ble_eq_true rfl) (by omega) dX11_set_85 ⟨laA, mdA, wyA, pc_A, f1A, f2A, f3A, f4A, f5A, f6A, n4A, wwA, l1, m2_74, wy2_75, pc2_76, g1_77, g2_78, f3B, g4_79, g5_80, g6_81, (zMk mdB n4B (zPl cr1_ inn1_ k11_)), w2_73, rfl, hwwA, hmdA, hwmA, (by first | exact hNAo.symm | exact (zNA_n (by first | omega | grind)).symm), hpwA, (fun q => q), hTbA, h_83, (Or.inr rfl), hwy9, hNAm.symm, (zMk_pw hpwB), (fun _ => h_85), (Or.inr h_86)⟩)
        · have c_89n : r_88.toInt = (-1 : Int) := (fa_eq _ _).mp c_89
          refine lv_iconst (v := (-1)) hx hb dX11_set_59 (by decide) ?_
          have G := G.sub (bs' := [[zO10 xo t im mk rd po co tr wa wb_ fi cd], wt, z0_, z1_, wwA, w2_73]) [3, 2, 0, 5, 1, 4] rfl
          exact z_back hQz_ (z_iret C hr hlocks G (Nat.le_of_ble_eq_true rfl) (by omega) dX11_set_60 ⟨laA, mdA, wyA, pc_A, f1A, f2A, f3A, f4A, f5A, f6A, n4A, wwA, l1, m2_74, wy2_75, pc2_76, g1_77, g2_78, f3B, g4_79, g5_80, g6_81, (zMk mdB n4B (zPl cr1_ inn1_ k11_)), w2_73, rfl, hwwA, hmdA, hwmA, (by first | exact hNAo.symm | exact (zNA_n (by first | omega | grind)).symm), hpwA, (fun q => q), hTbA, h_83, (Or.inr rfl), hwy9, hNAm.symm, (zMk_pw hpwB), (fun _ => h_85), (Or.inr h_86)⟩)
      · have h_72 : (b_.toInt < 0 ∨ cr1_.toInt ≤ b_.toInt ∨ 7 ≤ b_.toInt ∨ zBit inn1_ b_ = 0) := h_72
        refine lv_if_ne (tgt := 35) hx hb dX11_set_30 (by decide) (fun q => absurd (by decide) q) (fun _ => ?_)
        refine lv_iconst (v := (-1)) hx hb dX11_set_33 (by decide) ?_
        have G := G.sub (bs' := [[zO10 xo t im mk rd po co tr wa wb_ fi cd], wt, z0_, z1_, wwA, wwB]) [0, 4, 1, 5, 2, 3] rfl
        exact z_back hQz_ (z_iret C hr hlocks G (Nat.le_of_ble_eq_true rfl) (by omega) dX11_set_34 ⟨laA, mdA, wyA, pc_A, f1A, f2A, f3A, f4A, f5A, f6A, n4A, wwA, laB, mdB, wyB, pc_B, f1B, f2B, f3B, f4B, f5B, f6B, n4B, wwB, rfl, hwwA, hmdA, hwmA, (by first | exact hNAo.symm | exact (zNA_n (by first | omega | grind)).symm), hpwA, (fun q => q), hTbA, hwwB, hmdB, hwmB, (by first | exact hNAo.symm | exact (zNA_n (by first | omega | grind)).symm), hpwB, (fun q => q), hTbB⟩)
    · have h_65 : (a_.toInt < 0 ∨ cr1_.toInt ≤ a_.toInt ∨ 7 ≤ a_.toInt) := h_65
      refine lv_if_eq (tgt := 33) hx hb dX11_set_21 (by decide) (fun _ => ?_) (fun q => absurd (by decide) q)
      refine lv_iconst (v := (-1)) hx hb dX11_set_33 (by decide) ?_
      have G := G.sub (bs' := [[zO10 xo t im mk rd po co tr wa wb_ fi cd], wt, z0_, z1_, wwA, wwB]) [0, 4, 1, 5, 2, 3] rfl
      exact z_back hQz_ (z_iret C hr hlocks G (Nat.le_of_ble_eq_true rfl) (by omega) dX11_set_34 ⟨laA, mdA, wyA, pc_A, f1A, f2A, f3A, f4A, f5A, f6A, n4A, wwA, laB, mdB, wyB, pc_B, f1B, f2B, f3B, f4B, f5B, f6B, n4B, wwB, rfl, hwwA, hmdA, hwmA, (by first | exact hNAo.symm | exact (zNA_n (by first | omega | grind)).symm), hpwA, (fun q => q), hTbA, hwwB, hmdB, hwmB, (by first | exact hNAo.symm | exact (zNA_n (by first | omega | grind)).symm), hpwB, (fun q => q), hTbB⟩)
set_option maxHeartbeats 4000000 in
set_option maxRecDepth 100000 in
/-- c_t_game -/
theorem c_t_game (l : Launch) (T : zTy) (xo : Nat) (t : Nat) (im : Nat) (mk : Nat) (rd : Nat) (po : Nat) (co : Nat) (tr : Nat) (wa : Nat) (wb_ : Nat) (fi : Nat) (cd : Nat) (l0 : Nat) (l1 : Nat) (d0 : Nat) (d1 : Nat) (g0 : Nat) (g1 : Nat) (ln : Int32) (fl : Int32) (pl : Int32) (ft : Nat → Int32) (fk : Nat → Int32) (wt : va_W) (cr0_ : Int32) (inn0_ : Int32) (k10_ : Nat → Int32) (k20_ : Nat → Int32) (k30_ : Nat → Int32) (k40_ : Nat → Int32) (z0_ : va_W) (cr1_ : Int32) (inn1_ : Int32) (k11_ : Nat → Int32) (k21_ : Nat → Int32) (k31_ : Nat → Int32) (k41_ : Nat → Int32) (z1_ : va_W) (laA : Nat) (mdA : Int32) (wyA : Int32) (pc_A : Int32) (f1A : Nat → Int32) (f2A : Nat → Int32) (f3A : Nat → Int32) (f4A : Nat → Int32) (f5A : Nat → Int32) (f6A : Nat → Int32) (n4A : Nat) (wwA : va_W) (laB : Nat) (mdB : Int32) (wyB : Int32) (pc_B : Int32) (f1B : Nat → Int32) (f2B : Nat → Int32) (f3B : Nat → Int32) (f4B : Nat → Int32) (f5B : Nat → Int32) (f6B : Nat → Int32) (n4B : Nat) (wwB : va_W) (i1 : Int32) (a_ : Int32) (n : Int32) (w_ : Int32) (ht : bTold T t l0 l1 d0 d1 g0 g1 ln fl pl ft fk wt) (hK : zKT fk) (hz0_ : bLand T l0 cr0_ inn0_ k10_ k20_ k30_ k40_ z0_) (hI0_ : zLI cr0_ k10_ k30_) (hz1_ : bLand T l1 cr1_ inn1_ k11_ k21_ k31_ k41_ z1_) (hI1_ : zLI cr1_ k11_ k31_) (hwwA : bWays T wa laA mdA wyA pc_A f1A f2A f3A f4A f5A f6A n4A wwA) (hpwA : zPw n4A) (hmdA : mdA = 0 ∨ laA = l0) (hwmA : 0 ≤ wyA.toInt ∧ wyA.toInt ≤ 16384) (hTbA : mdA = 0 ∨ zTab cr0_ inn0_ k10_ k20_ wyA pc_A f1A f2A f5A n4A) (hLq0 : zLq cr0_ k10_ k20_) (hwwB : bWays T wb_ laB mdB wyB pc_B f1B f2B f3B f4B f5B f6B n4B wwB) (hpwB : zPw n4B) (hmdB : mdB = 0 ∨ laB = l1) (hwmB : 0 ≤ wyB.toInt ∧ wyB.toInt ≤ 16384) (hTbB : mdB = 0 ∨ zTab cr1_ inn1_ k11_ k21_ wyB pc_B f1B f2B f5B n4B) (hLq1 : zLq cr1_ k11_ k21_) : zMi l T yX11_game cX11_game 9 (some .int) 10 3 (6 * (zNA (i1.toInt = 0 ∧ 0 < (fk 0).toInt ∧ 0 ≤ a_.toInt ∧ a_.toInt < cr0_.toInt ∧ a_.toInt < 7 ∧ 0 ≤ n.toInt ∧ n.toInt ≤ 3) mdA n4A (zPl cr0_ inn0_ k10_) - n4A) + 6 * (zNA (i1.toInt = 1 ∧ 1 < (fk 0).toInt ∧ 0 ≤ a_.toInt ∧ a_.toInt < cr1_.toInt ∧ a_.toInt < 7 ∧ 0 ≤ n.toInt ∧ n.toInt ≤ 3) mdB n4B (zPl cr1_ inn1_ k11_) - n4B)) [.ref xo, .int i1, .int a_, .int n, .int w_] [[zO10 xo t im mk rd po co tr wa wb_ fi cd], wt, z0_, z1_, wwA, wwB] (fun (r : Int32) bs => ∃ (laA_2 : Nat) (mdA_2 : Int32) (wyA_2 : Int32) (pc_A_2 : Int32) (f1A_2 : Nat → Int32) (f2A_2 : Nat → Int32) (f3A_2 : Nat → Int32) (f4A_2 : Nat → Int32) (f5A_2 : Nat → Int32) (f6A_2 : Nat → Int32) (n4A_2 : Nat) (wwA_2 : va_W) (laB_2 : Nat) (mdB_2 : Int32) (wyB_2 : Int32) (pc_B_2 : Int32) (f1B_2 : Nat → Int32) (f2B_2 : Nat → Int32) (f3B_2 : Nat → Int32) (f4B_2 : Nat → Int32) (f5B_2 : Nat → Int32) (f6B_2 : Nat → Int32) (n4B_2 : Nat) (wwB_2 : va_W), bs = [[zO10 xo t im mk rd po co tr wa wb_ fi cd], wt, z0_, z1_, wwA_2, wwB_2] ∧ bWays T wa laA_2 mdA_2 wyA_2 pc_A_2 f1A_2 f2A_2 f3A_2 f4A_2 f5A_2 f6A_2 n4A_2 wwA_2 ∧ (mdA_2 = 0 ∨ laA_2 = l0) ∧ (0 ≤ wyA_2.toInt ∧ wyA_2.toInt ≤ 16384) ∧ n4A_2 = zNA (i1.toInt = 0 ∧ 0 < (fk 0).toInt ∧ 0 ≤ a_.toInt ∧ a_.toInt < cr0_.toInt ∧ a_.toInt < 7 ∧ 0 ≤ n.toInt ∧ n.toInt ≤ 3) mdA n4A (zPl cr0_ inn0_ k10_) ∧ zPw n4A_2 ∧ (¬ mdA = 0 → ¬ mdA_2 = 0) ∧ (mdA_2 = 0 ∨ zTab cr0_ inn0_ k10_ k20_ wyA_2 pc_A_2 f1A_2 f2A_2 f5A_2 n4A_2) ∧ bWays T wb_ laB_2 mdB_2 wyB_2 pc_B_2 f1B_2 f2B_2 f3B_2 f4B_2 f5B_2 f6B_2 n4B_2 wwB_2 ∧ (mdB_2 = 0 ∨ laB_2 = l1) ∧ (0 ≤ wyB_2.toInt ∧ wyB_2.toInt ≤ 16384) ∧ n4B_2 = zNA (i1.toInt = 1 ∧ 1 < (fk 0).toInt ∧ 0 ≤ a_.toInt ∧ a_.toInt < cr1_.toInt ∧ a_.toInt < 7 ∧ 0 ≤ n.toInt ∧ n.toInt ≤ 3) mdB n4B (zPl cr1_ inn1_ k11_) ∧ zPw n4B_2 ∧ (¬ mdB = 0 → ¬ mdB_2 = 0) ∧ (mdB_2 = 0 ∨ zTab cr1_ inn1_ k11_ k21_ wyB_2 pc_B_2 f1B_2 f2B_2 f5B_2 n4B_2)) := by
  refine zMi_of (own := RX11) (by decide) rfl (Nat.le_of_ble_eq_true rfl) ?_
  intro p e s m args below meth c A ls C hr hlocks hnm hAe G hl
  refine zHide (fun Qz_ hQz_ => ?_)
  have hx := C.1
  have hb := C.2.1
  replace hmdA : zHd (mdA = 0 ∨ laA = l0) := hmdA
  replace hTbA : zHd (mdA = 0 ∨ zTab cr0_ inn0_ k10_ k20_ wyA pc_A f1A f2A f5A n4A) := hTbA
  replace hmdB : zHd (mdB = 0 ∨ laB = l1) := hmdB
  replace hTbB : zHd (mdB = 0 ∨ zTab cr1_ inn1_ k11_ k21_ wyB pc_B f1B f2B f5B n4B) := hTbB
  have hl : lv_has ls 9 [(0, .ref xo), (1, .int i1), (2, .int a_), (3, .int n), (4, .int w_)] := hl
  refine lv_aload_n hx hb dX11_game_0 rfl (lv_at hl 0 rfl) ?_
  refine z_get C G clX11 0 rfl 0 (by decide) m_fl_RX11_10 rfl dX11_game_1 ?_
  refine lv_iload_n hx hb dX11_game_4 rfl (lv_at hl 1 rfl) ?_
  refine z_Vq (bc := [wt]) (br := [[zO10 xo t im mk rd po co tr wa wb_ fi cd], z0_, z1_, wwA, wwB]) (As := [.int i1]) (rest := []) C G (c_landAt l T t l0 l1 d0 d1 g0 g1 ln fl pl ft fk wt i1 ht) (kV_RX11_121 C.2.2.2.2 (Nat.le_of_ble_eq_true rfl) (Nat.le_of_ble_eq_true rfl)) [1] [1] rfl rfl (ci := 8) (qc := (RX9, TX9, 8)) rfl rfl (List.mem_flatten.mpr ⟨_, List.mem_of_getElem? (i := 0) rfl, (bTold_mem ht).choose_spec⟩) rfl rfl hl.1 dX11_game_5 (Nat.le_of_ble_eq_true rfl) (by show _ + 0 ≤ 6 * (zNA (i1.toInt = 0 ∧ 0 < (fk 0).toInt ∧ 0 ≤ a_.toInt ∧ a_.toInt < cr0_.toInt ∧ a_.toInt < 7 ∧ 0 ≤ n.toInt ∧ n.toInt ≤ 3) mdA n4A (zPl cr0_ inn0_ k10_) - n4A) + 6 * (zNA (i1.toInt = 1 ∧ 1 < (fk 0).toInt ∧ 0 ≤ a_.toInt ∧ a_.toInt < cr1_.toInt ∧ a_.toInt < 7 ∧ 0 ≤ n.toInt ∧ n.toInt ≤ 3) mdB n4B (zPl cr1_ inn1_ k11_) - n4B); omega) (fun r_2 b1 H locs hw G => ?_)
  refine zAn2 hw ?_
  intro hbs9 hc_1
  clear hw
  subst hbs9
  have G : zS T A s.heap s [[zO10 xo t im mk rd po co tr wa wb_ fi cd], z0_, z1_, wwA, wwB, wt] _ _ := G
  rcases hc_1 with ⟨rfl, h_3⟩ | ⟨rfl, h_4, h_5⟩ | ⟨rfl, h_6, h_7⟩
  · have h_3 : (i1.toInt < 0 ∨ (fk 0).toInt ≤ i1.toInt ∨ 2 ≤ i1.toInt) := h_3
    refine lv_astoreN (lv' := [(5, .null), (0, .ref xo), (1, .int i1), (2, .int a_), (3, .int n), (4, .int w_)]) hx hb dX11_game_8 hl (by decide) (zLvf_h rfl) (fun ls hl => ?_)
    refine lv_aloadN hx hb dX11_game_10 (lv_at hl 0 rfl) ?_
    refine lv_ifnullN (tgt := 33) hx hb dX11_game_12 (by decide) ?_
    refine lv_bipush (v := (-9)) hx hb dX11_game_33 (by decide) ?_
    have G := G.sub (bs' := [[zO10 xo t im mk rd po co tr wa wb_ fi cd], wt, z0_, z1_, wwA, wwB]) [0, 5, 1, 2, 3, 4] rfl
    exact z_back hQz_ (z_iret C hr hlocks G (Nat.le_of_ble_eq_true rfl) (by omega) dX11_game_35 ⟨laA, mdA, wyA, pc_A, f1A, f2A, f3A, f4A, f5A, f6A, n4A, wwA, laB, mdB, wyB, pc_B, f1B, f2B, f3B, f4B, f5B, f6B, n4B, wwB, rfl, hwwA, hmdA, hwmA, (by first | exact hNAo.symm | exact (zNA_n (by first | omega | grind)).symm), hpwA, (fun q => q), hTbA, hwwB, hmdB, hwmB, (by first | exact hNAo.symm | exact (zNA_n (by first | omega | grind)).symm), hpwB, (fun q => q), hTbB⟩)
  · have h_4 : i1.toInt = 0 := h_4
    have h_5 : 0 < (fk 0).toInt := h_5
    refine lv_astore (lv' := [(5, .ref l0), (0, .ref xo), (1, .int i1), (2, .int a_), (3, .int n), (4, .int w_)]) hx hb dX11_game_8 hl (by decide) (zLvf_h rfl) (fun ls hl => ?_)
    refine lv_aload hx hb dX11_game_10 (lv_at hl 0 rfl) ?_
    refine lv_ifnull hx hb dX11_game_12 ?_
    refine lv_aload hx hb dX11_game_15 (lv_at hl 0 rfl) ?_
    refine lv_iload_n hx hb dX11_game_17 rfl (lv_at hl 3 rfl) ?_
    refine z_Vi (bc := [z0_]) (br := [[zO10 xo t im mk rd po co tr wa wb_ fi cd], z1_, wwA, wwB, wt]) (As := [.int a_]) (rest := []) C G (c_has l T l0 cr0_ inn0_ k10_ k20_ k30_ k40_ z0_ a_ hz0_) (kV_RX11_160 C.2.2.2.2 (Nat.le_of_ble_eq_true rfl) (Nat.le_of_ble_eq_true rfl)) [1] [1] rfl rfl (ci := 4) (qc := (RX4, TX4, 6)) rfl rfl (List.mem_flatten.mpr ⟨_, List.mem_of_getElem? (i := 0) rfl, (bLand_mem hz0_).choose_spec⟩) rfl rfl hl.1 dX11_game_18 (Nat.le_of_ble_eq_true rfl) (by show _ + 0 ≤ 6 * (zNA (i1.toInt = 0 ∧ 0 < (fk 0).toInt ∧ 0 ≤ a_.toInt ∧ a_.toInt < cr0_.toInt ∧ a_.toInt < 7 ∧ 0 ≤ n.toInt ∧ n.toInt ≤ 3) mdA n4A (zPl cr0_ inn0_ k10_) - n4A) + 6 * (zNA (i1.toInt = 1 ∧ 1 < (fk 0).toInt ∧ 0 ≤ a_.toInt ∧ a_.toInt < cr1_.toInt ∧ a_.toInt < 7 ∧ 0 ≤ n.toInt ∧ n.toInt ≤ 3) mdB n4B (zPl cr1_ inn1_ k11_) - n4B); omega) (fun r_9 b1 H locs hw G => ?_)
    refine zAn2 hw ?_
    intro hbs9 hc_8
    clear hw
    subst hbs9
    have G : zS T A s.heap s [[zO10 xo t im mk rd po co tr wa wb_ fi cd], z1_, wwA, wwB, wt, z0_] _ _ := G
    rcases hc_8 with ⟨rfl, h_10, h_11, h_12⟩ | ⟨rfl, h_13⟩
    · have h_10 : 0 ≤ a_.toInt := h_10
      have h_11 : a_.toInt < cr0_.toInt := h_11
      have h_12 : a_.toInt < 7 := h_12
      refine lv_if_eq (tgt := 33) hx hb dX11_game_21 (by decide) (fun q => absurd q (by decide)) (fun _ => ?_)
      refine lv_iload_n hx hb dX11_game_24 rfl (lv_at hl 4 rfl) ?_
      refine lv_if_lt (tgt := 33) hx hb dX11_game_25 (by decide) (fun c_14 => ?_) (fun c_14 => ?_)
      · have c_14n : n.toInt < (0 : Int) := (fa_lt _ _).mp c_14
        refine lv_bipush (v := (-9)) hx hb dX11_game_33 (by decide) ?_
        have G := G.sub (bs' := [[zO10 xo t im mk rd po co tr wa wb_ fi cd], wt, z0_, z1_, wwA, wwB]) [0, 4, 5, 1, 2, 3] rfl
        exact z_back hQz_ (z_iret C hr hlocks G (Nat.le_of_ble_eq_true rfl) (by omega) dX11_game_35 ⟨laA, mdA, wyA, pc_A, f1A, f2A, f3A, f4A, f5A, f6A, n4A, wwA, laB, mdB, wyB, pc_B, f1B, f2B, f3B, f4B, f5B, f6B, n4B, wwB, rfl, hwwA, hmdA, hwmA, (by first | exact hNAo.symm | exact (zNA_n (by first | omega | grind)).symm), hpwA, (fun q => q), hTbA, hwwB, hmdB, hwmB, (by first | exact hNAo.symm | exact (zNA_n (by first | omega | grind)).symm), hpwB, (fun q => q), hTbB⟩)
      · have c_14n : ¬ n.toInt < (0 : Int) := fun q => c_14 ((fa_lt _ _).mpr q)
        refine lv_iload_n hx hb dX11_game_28 rfl (lv_at hl 4 rfl) ?_
        refine lv_iconst (v := 3) hx hb dX11_game_29 (by decide) ?_
        refine lv_icmp_le (tgt := 36) hx hb dX11_game_30 (by decide) (fun c_15 => ?_) (fun c_15 => ?_)
        · have c_15n : n.toInt ≤ (3 : Int) := (fa_le _ _).mp c_15
          refine lv_aload_n hx hb dX11_game_36 rfl (lv_at hl 1 rfl) ?_
          refine lv_iload_n hx hb dX11_game_37 rfl (lv_at hl 2 rfl) ?_
          refine lv_aload hx hb dX11_game_38 (lv_at hl 0 rfl) ?_
          have hNAm : zNA (i1.toInt = 0 ∧ 0 < (fk 0).toInt ∧ 0 ≤ a_.toInt ∧ a_.toInt < cr0_.toInt ∧ a_.toInt < 7 ∧ 0 ≤ n.toInt ∧ n.toInt ≤ 3) mdA n4A (zPl cr0_ inn0_ k10_) = zMk mdA n4A (zPl cr0_ inn0_ k10_) := zNA_y (by first | omega | (repeat' (first | omega | assumption | constructor)))
          have hNAo : zNA (i1.toInt = 1 ∧ 1 < (fk 0).toInt ∧ 0 ≤ a_.toInt ∧ a_.toInt < cr1_.toInt ∧ a_.toInt < 7 ∧ 0 ≤ n.toInt ∧ n.toInt ≤ 3) mdB n4B (zPl cr1_ inn1_ k11_) = n4B := zNA_n (by omega)
          have hn9 : zMk mdA n4A (zPl cr0_ inn0_ k10_) ≤ 131072 := zPw_le (zMk_pw hpwA)
          refine z_Vq (bc := [[zO10 xo t im mk rd po co tr wa wb_ fi cd], wwA, z0_]) (br := [z1_, wwB, wt]) (As := [.int i1, .ref l0]) (rest := []) C G (c_f_waysInA l T xo t im mk rd po co tr wa wb_ fi cd i1 laA mdA wyA pc_A f1A f2A f3A f4A f5A f6A n4A wwA l0 cr0_ inn0_ k10_ k20_ k30_ k40_ z0_ hwwA hz0_ hI0_ hpwA hmdA (kaOk hI0_ hLq0).1 hTbA (by omega)) (kV_RX11_235 C.2.2.2.2 (Nat.le_of_ble_eq_true rfl) (Nat.le_of_ble_eq_true rfl)) [0, 2, 5] [0, 1, 2] rfl rfl (ci := 10) (qc := (RX11, TX11, 11)) rfl rfl (List.mem_flatten.mpr ⟨_, List.mem_of_getElem? (i := 0) rfl, List.mem_cons_self⟩) rfl rfl hl.1 dX11_game_40 (Nat.le_of_ble_eq_true rfl) (by show _ + (6 * (zMk mdA n4A (zPl cr0_ inn0_ k10_) - n4A)) ≤ 6 * (zNA (i1.toInt = 0 ∧ 0 < (fk 0).toInt ∧ 0 ≤ a_.toInt ∧ a_.toInt < cr0_.toInt ∧ a_.toInt < 7 ∧ 0 ≤ n.toInt ∧ n.toInt ≤ 3) mdA n4A (zPl cr0_ inn0_ k10_) - n4A) + 6 * (zNA (i1.toInt = 1 ∧ 1 < (fk 0).toInt ∧ 0 ≤ a_.toInt ∧ a_.toInt < cr1_.toInt ∧ a_.toInt < 7 ∧ 0 ≤ n.toInt ∧ n.toInt ≤ 3) mdB n4B (zPl cr1_ inn1_ k11_) - n4B); omega) (fun r_30 b1 H locs hw G => ?_)
          refine zEx9 hw ?_
          intro w2_16 m2_17 wy2_18 pc2_19 g1_20 g2_21 g4_22 g5_23 g6_24
          refine zCu6 ?_
          intro hbs9 h_25 h_26 h_27 h_28 h_29
          clear hw
          subst hbs9
          have G : zS T A s.heap s [z1_, wwB, wt, [zO10 xo t im mk rd po co tr wa wb_ fi cd], w2_16, z0_] _ _ := G
          subst h_25
          have hwy9 : 0 ≤ wy2_18.toInt ∧ wy2_18.toInt ≤ 16384 := by have q9 := zWy_in (inn := inn0_) hI0_; rw [h_27]; exact ⟨by omega, q9.2⟩
          have hp79 : aPr (aW cr0_ inn0_ k10_) 7 ≤ 16384 := aPr_7 hI0_
          have hwN9 : wy2_18 = nI (aPr (aW cr0_ inn0_ k10_) 7) := h_27.trans (zWy_z hI0_)
          have hwT9 : wy2_18.toInt = ((aPr (aW cr0_ inn0_ k10_) 7 : Nat) : Int) := by rw [hwN9, nI_toInt (by omega)]
          have hOk9 := (kaOk (inn := inn0_) hI0_ hLq0).1
          have hc79 := hI0_.1
          refine lv_astore (lv' := [(6, .ref wa), (5, .ref l0), (0, .ref xo), (1, .int i1), (2, .int a_), (3, .int n), (4, .int w_)]) hx hb dX11_game_43 hl (by decide) (zLvf_h rfl) (fun ls hl => ?_)
          refine lv_aload hx hb dX11_game_45 (lv_at hl 0 rfl) ?_
          refine z_Vi (bc := [w2_16, z0_]) (br := [z1_, wwB, wt, [zO10 xo t im mk rd po co tr wa wb_ fi cd]]) (As := []) (rest := []) C G (c_wayTold l T wa l0 m2_17 wy2_18 pc2_19 g1_20 g2_21 f3A g4_22 g5_23 g6_24 (zMk mdA n4A (zPl cr0_ inn0_ k10_)) w2_16 cr0_ inn0_ k10_ k20_ k30_ k40_ z0_ h_26 hz0_ (by first | with_reducible assumption | with_reducible rfl | omega | assumption | rfl)) (kV_RX11_242 C.2.2.2.2 (Nat.le_of_ble_eq_true rfl) (Nat.le_of_ble_eq_true rfl)) [4, 5] [4, 0] rfl rfl (ci := 0) (qc := (RX0, TX0, 10)) rfl rfl (List.mem_flatten.mpr ⟨_, List.mem_of_getElem? (i := 0) rfl, (bWays_mem h_26).choose_spec⟩) rfl rfl hl.1 dX11_game_47 (Nat.le_of_ble_eq_true rfl) (by show _ + 0 ≤ 6 * (zNA (i1.toInt = 0 ∧ 0 < (fk 0).toInt ∧ 0 ≤ a_.toInt ∧ a_.toInt < cr0_.toInt ∧ a_.toInt < 7 ∧ 0 ≤ n.toInt ∧ n.toInt ≤ 3) mdA n4A (zPl cr0_ inn0_ k10_) - n4A) + 6 * (zNA (i1.toInt = 1 ∧ 1 < (fk 0).toInt ∧ 0 ≤ a_.toInt ∧ a_.toInt < cr1_.toInt ∧ a_.toInt < 7 ∧ 0 ≤ n.toInt ∧ n.toInt ≤ 3) mdB n4B (zPl cr1_ inn1_ k11_) - n4B); omega) (fun r_31 b1 H locs hw G => ?_)
          obtain rfl := hw
          have G : zS T A s.heap s [z1_, wwB, wt, [zO10 xo t im mk rd po co tr wa wb_ fi cd], w2_16, z0_] _ _ := G
          refine lv_istore (lv' := [(7, .int r_31), (6, .ref wa), (5, .ref l0), (0, .ref xo), (1, .int i1), (2, .int a_), (3, .int n), (4, .int w_)]) hx hb dX11_game_50 hl (by decide) (zLvf_h rfl) (fun ls hl => ?_)
          refine lv_aload hx hb dX11_game_52 (lv_at hl 1 rfl) ?_
          refine lv_iload hx hb dX11_game_54 (lv_at hl 0 rfl) ?_
          refine lv_iload_n hx hb dX11_game_56 rfl (lv_at hl 5 rfl) ?_
          refine lv_iload_n hx hb dX11_game_57 rfl (lv_at hl 6 rfl) ?_
          refine lv_iconst (v := 1) hx hb dX11_game_58 (by decide) ?_
          refine z_Si (bc := [w2_16, z0_]) (br := [z1_, wwB, wt, [zO10 xo t im mk rd po co tr wa wb_ fi cd]]) (As := [.ref wa, .int r_31, .int a_, .int n, .int 1]) (rest := []) C G (c_worthN l T wa l0 m2_17 wy2_18 pc2_19 g1_20 g2_21 f3A g4_22 g5_23 g6_24 (zMk mdA n4A (zPl cr0_ inn0_ k10_)) w2_16 cr0_ inn0_ k10_ k20_ k30_ k40_ z0_ r_31 a_ n 1 h_26 hz0_ (by first | with_reducible assumption | with_reducible rfl | omega | assumption | rfl) hn9 (by omega)) (kS_RX11_278 C.2.2.2.2 (Nat.le_of_ble_eq_true rfl) (Nat.le_of_ble_eq_true rfl)) [4, 5] [4, 0] rfl rfl rfl rfl hl.1 dX11_game_59 (Nat.le_of_ble_eq_true rfl) (by show _ + 0 ≤ 6 * (zNA (i1.toInt = 0 ∧ 0 < (fk 0).toInt ∧ 0 ≤ a_.toInt ∧ a_.toInt < cr0_.toInt ∧ a_.toInt < 7 ∧ 0 ≤ n.toInt ∧ n.toInt ≤ 3) mdA n4A (zPl cr0_ inn0_ k10_) - n4A) + 6 * (zNA (i1.toInt = 1 ∧ 1 < (fk 0).toInt ∧ 0 ≤ a_.toInt ∧ a_.toInt < cr1_.toInt ∧ a_.toInt < 7 ∧ 0 ≤ n.toInt ∧ n.toInt ≤ 3) mdB n4B (zPl cr1_ inn1_ k11_) - n4B); omega) (fun r_32 b1 H locs hw G => ?_)
          obtain rfl := hw
          have G : zS T A s.heap s [z1_, wwB, wt, [zO10 xo t im mk rd po co tr wa wb_ fi cd], w2_16, z0_] _ _ := G
          refine lv_istore (lv' := [(8, .int r_32), (7, .int r_31), (6, .ref wa), (5, .ref l0), (0, .ref xo), (1, .int i1), (2, .int a_), (3, .int n), (4, .int w_)]) hx hb dX11_game_62 hl (by decide) (zLvf_h rfl) (fun ls hl => ?_)
          refine lv_iload hx hb dX11_game_64 (lv_at hl 8 rfl) ?_
          refine lv_if_ne (tgt := 72) hx hb dX11_game_66 (by decide) (fun c_33 => ?_) (fun c_33 => ?_)
          · have c_33n : ¬ w_.toInt = (0 : Int) := fun q => c_33 ((fa_eq _ _).mpr q)
            refine lv_iload_n hx hb dX11_game_72 rfl (lv_at hl 7 rfl) ?_
            refine lv_if_ne (tgt := 80) hx hb dX11_game_73 (by decide) (fun c_34 => ?_) (fun c_34 => ?_)
            · have c_34n : ¬ n.toInt = (0 : Int) := fun q => c_34 ((fa_eq _ _).mpr q)
              refine lv_aload hx hb dX11_game_80 (lv_at hl 2 rfl) ?_
              refine lv_iload hx hb dX11_game_82 (lv_at hl 1 rfl) ?_
              refine lv_iload_n hx hb dX11_game_84 rfl (lv_at hl 6 rfl) ?_
              refine lv_iload_n hx hb dX11_game_85 rfl (lv_at hl 7 rfl) ?_
              refine lv_iload hx hb dX11_game_86 (lv_at hl 0 rfl) ?_
              refine z_Si (bc := [w2_16, z0_]) (br := [z1_, wwB, wt, [zO10 xo t im mk rd po co tr wa wb_ fi cd]]) (As := [.ref wa, .int r_31, .int a_, .int n, .int r_32]) (rest := []) C G (c_bestTurnN l T wa l0 m2_17 wy2_18 pc2_19 g1_20 g2_21 f3A g4_22 g5_23 g6_24 (zMk mdA n4A (zPl cr0_ inn0_ k10_)) w2_16 cr0_ inn0_ k10_ k20_ k30_ k40_ z0_ r_31 a_ n r_32 h_26 hz0_ (by first | with_reducible assumption | with_reducible rfl | omega | assumption | rfl) hn9 (by omega)) (kS_RX11_282 C.2.2.2.2 (Nat.le_of_ble_eq_true rfl) (Nat.le_of_ble_eq_true rfl)) [4, 5] [4, 0] rfl rfl rfl rfl hl.1 dX11_game_88 (Nat.le_of_ble_eq_true rfl) (by show _ + 0 ≤ 6 * (zNA (i1.toInt = 0 ∧ 0 < (fk 0).toInt ∧ 0 ≤ a_.toInt ∧ a_.toInt < cr0_.toInt ∧ a_.toInt < 7 ∧ 0 ≤ n.toInt ∧ n.toInt ≤ 3) mdA n4A (zPl cr0_ inn0_ k10_) - n4A) + 6 * (zNA (i1.toInt = 1 ∧ 1 < (fk 0).toInt ∧ 0 ≤ a_.toInt ∧ a_.toInt < cr1_.toInt ∧ a_.toInt < 7 ∧ 0 ≤ n.toInt ∧ n.toInt ≤ 3) mdB n4B (zPl cr1_ inn1_ k11_) - n4B); omega) (fun r_35 b1 H locs hw G => ?_)
              obtain rfl := hw
              have G : zS T A s.heap s [z1_, wwB, wt, [zO10 xo t im mk rd po co tr wa wb_ fi cd], w2_16, z0_] _ _ := G
              have G := G.sub (bs' := [[zO10 xo t im mk rd po co tr wa wb_ fi cd], wt, z0_, z1_, w2_16, wwB]) [3, 2, 5, 0, 4, 1] rfl
              exact z_back hQz_ (z_iret C hr hlocks G (Nat.le_of_ble_eq_true rfl) (by omega) dX11_game_91 ⟨l0, m2_17, wy2_18, pc2_19, g1_20, g2_21, f3A, g4_22, g5_23, g6_24, (zMk mdA n4A (zPl cr0_ inn0_ k10_)), w2_16, laB, mdB, wyB, pc_B, f1B, f2B, f3B, f4B, f5B, f6B, n4B, wwB, rfl, h_26, (Or.inr rfl), hwy9, hNAm.symm, (zMk_pw hpwA), (fun _ => h_28), (Or.inr h_29), hwwB, hmdB, hwmB, (by first | exact hNAo.symm | exact (zNA_n (by first | omega | grind)).symm), hpwB, (fun q => q), hTbB⟩)
            · have c_34n : n.toInt = (0 : Int) := (fa_eq _ _).mp c_34
              refine lv_iconst (v := (-1)) hx hb dX11_game_76 (by decide) ?_
              refine lv_goto (tgt := 91) hx hb dX11_game_77 (by decide) ?_
              have G := G.sub (bs' := [[zO10 xo t im mk rd po co tr wa wb_ fi cd], wt, z0_, z1_, w2_16, wwB]) [3, 2, 5, 0, 4, 1] rfl
              exact z_back hQz_ (z_iret C hr hlocks G (Nat.le_of_ble_eq_true rfl) (by omega) dX11_game_91 ⟨l0, m2_17, wy2_18, pc2_19, g1_20, g2_21, f3A, g4_22, g5_23, g6_24, (zMk mdA n4A (zPl cr0_ inn0_ k10_)), w2_16, laB, mdB, wyB, pc_B, f1B, f2B, f3B, f4B, f5B, f6B, n4B, wwB, rfl, h_26, (Or.inr rfl), hwy9, hNAm.symm, (zMk_pw hpwA), (fun _ => h_28), (Or.inr h_29), hwwB, hmdB, hwmB, (by first | exact hNAo.symm | exact (zNA_n (by first | omega | grind)).symm), hpwB, (fun q => q), hTbB⟩)
          · have c_33n : w_.toInt = (0 : Int) := (fa_eq _ _).mp c_33
            refine lv_iload hx hb dX11_game_69 (lv_at hl 0 rfl) ?_
            have G := G.sub (bs' := [[zO10 xo t im mk rd po co tr wa wb_ fi cd], wt, z0_, z1_, w2_16, wwB]) [3, 2, 5, 0, 4, 1] rfl
            exact z_back hQz_ (z_iret C hr hlocks G (Nat.le_of_ble_eq_true rfl) (by omega) dX11_game_71 ⟨l0, m2_17, wy2_18, pc2_19, g1_20, g2_21, f3A, g4_22, g5_23, g6_24, (zMk mdA n4A (zPl cr0_ inn0_ k10_)), w2_16, laB, mdB, wyB, pc_B, f1B, f2B, f3B, f4B, f5B, f6B, n4B, wwB, rfl, h_26, (Or.inr rfl), hwy9, hNAm.symm, (zMk_pw hpwA), (fun _ => h_28), (Or.inr h_29), hwwB, hmdB, hwmB, (by first | exact hNAo.symm | exact (zNA_n (by first | omega | grind)).symm), hpwB, (fun q => q), hTbB⟩)
        · have c_15n : ¬ n.toInt ≤ (3 : Int) := fun q => c_15 ((fa_le _ _).mpr q)
          refine lv_bipush (v := (-9)) hx hb dX11_game_33 (by decide) ?_
          have G := G.sub (bs' := [[zO10 xo t im mk rd po co tr wa wb_ fi cd], wt, z0_, z1_, wwA, wwB]) [0, 4, 5, 1, 2, 3] rfl
          exact z_back hQz_ (z_iret C hr hlocks G (Nat.le_of_ble_eq_true rfl) (by omega) dX11_game_35 ⟨laA, mdA, wyA, pc_A, f1A, f2A, f3A, f4A, f5A, f6A, n4A, wwA, laB, mdB, wyB, pc_B, f1B, f2B, f3B, f4B, f5B, f6B, n4B, wwB, rfl, hwwA, hmdA, hwmA, (by first | exact hNAo.symm | exact (zNA_n (by first | omega | grind)).symm), hpwA, (fun q => q), hTbA, hwwB, hmdB, hwmB, (by first | exact hNAo.symm | exact (zNA_n (by first | omega | grind)).symm), hpwB, (fun q => q), hTbB⟩)
    · have h_13 : (a_.toInt < 0 ∨ cr0_.toInt ≤ a_.toInt ∨ 7 ≤ a_.toInt) := h_13
      refine lv_if_eq (tgt := 33) hx hb dX11_game_21 (by decide) (fun _ => ?_) (fun q => absurd (by decide) q)
      refine lv_bipush (v := (-9)) hx hb dX11_game_33 (by decide) ?_
      have G := G.sub (bs' := [[zO10 xo t im mk rd po co tr wa wb_ fi cd], wt, z0_, z1_, wwA, wwB]) [0, 4, 5, 1, 2, 3] rfl
      exact z_back hQz_ (z_iret C hr hlocks G (Nat.le_of_ble_eq_true rfl) (by omega) dX11_game_35 ⟨laA, mdA, wyA, pc_A, f1A, f2A, f3A, f4A, f5A, f6A, n4A, wwA, laB, mdB, wyB, pc_B, f1B, f2B, f3B, f4B, f5B, f6B, n4B, wwB, rfl, hwwA, hmdA, hwmA, (by first | exact hNAo.symm | exact (zNA_n (by first | omega | grind)).symm), hpwA, (fun q => q), hTbA, hwwB, hmdB, hwmB, (by first | exact hNAo.symm | exact (zNA_n (by first | omega | grind)).symm), hpwB, (fun q => q), hTbB⟩)
  · have h_6 : i1.toInt = 1 := h_6
    have h_7 : 1 < (fk 0).toInt := h_7
    refine lv_astore (lv' := [(5, .ref l1), (0, .ref xo), (1, .int i1), (2, .int a_), (3, .int n), (4, .int w_)]) hx hb dX11_game_8 hl (by decide) (zLvf_h rfl) (fun ls hl => ?_)
    refine lv_aload hx hb dX11_game_10 (lv_at hl 0 rfl) ?_
    refine lv_ifnull hx hb dX11_game_12 ?_
    refine lv_aload hx hb dX11_game_15 (lv_at hl 0 rfl) ?_
    refine lv_iload_n hx hb dX11_game_17 rfl (lv_at hl 3 rfl) ?_
    refine z_Vi (bc := [z1_]) (br := [[zO10 xo t im mk rd po co tr wa wb_ fi cd], z0_, wwA, wwB, wt]) (As := [.int a_]) (rest := []) C G (c_has l T l1 cr1_ inn1_ k11_ k21_ k31_ k41_ z1_ a_ hz1_) (kV_RX11_160 C.2.2.2.2 (Nat.le_of_ble_eq_true rfl) (Nat.le_of_ble_eq_true rfl)) [2] [2] rfl rfl (ci := 4) (qc := (RX4, TX4, 6)) rfl rfl (List.mem_flatten.mpr ⟨_, List.mem_of_getElem? (i := 0) rfl, (bLand_mem hz1_).choose_spec⟩) rfl rfl hl.1 dX11_game_18 (Nat.le_of_ble_eq_true rfl) (by show _ + 0 ≤ 6 * (zNA (i1.toInt = 0 ∧ 0 < (fk 0).toInt ∧ 0 ≤ a_.toInt ∧ a_.toInt < cr0_.toInt ∧ a_.toInt < 7 ∧ 0 ≤ n.toInt ∧ n.toInt ≤ 3) mdA n4A (zPl cr0_ inn0_ k10_) - n4A) + 6 * (zNA (i1.toInt = 1 ∧ 1 < (fk 0).toInt ∧ 0 ≤ a_.toInt ∧ a_.toInt < cr1_.toInt ∧ a_.toInt < 7 ∧ 0 ≤ n.toInt ∧ n.toInt ≤ 3) mdB n4B (zPl cr1_ inn1_ k11_) - n4B); omega) (fun r_37 b1 H locs hw G => ?_)
    refine zAn2 hw ?_
    intro hbs9 hc_36
    clear hw
    subst hbs9
    have G : zS T A s.heap s [[zO10 xo t im mk rd po co tr wa wb_ fi cd], z0_, wwA, wwB, wt, z1_] _ _ := G
    rcases hc_36 with ⟨rfl, h_38, h_39, h_40⟩ | ⟨rfl, h_41⟩
    · have h_38 : 0 ≤ a_.toInt := h_38
      have h_39 : a_.toInt < cr1_.toInt := h_39
      have h_40 : a_.toInt < 7 := h_40
      refine lv_if_eq (tgt := 33) hx hb dX11_game_21 (by decide) (fun q => absurd q (by decide)) (fun _ => ?_)
      refine lv_iload_n hx hb dX11_game_24 rfl (lv_at hl 4 rfl) ?_
      refine lv_if_lt (tgt := 33) hx hb dX11_game_25 (by decide) (fun c_42 => ?_) (fun c_42 => ?_)
      · have c_42n : n.toInt < (0 : Int) := (fa_lt _ _).mp c_42
        refine lv_bipush (v := (-9)) hx hb dX11_game_33 (by decide) ?_
        have G := G.sub (bs' := [[zO10 xo t im mk rd po co tr wa wb_ fi cd], wt, z0_, z1_, wwA, wwB]) [0, 4, 1, 5, 2, 3] rfl
        exact z_back hQz_ (z_iret C hr hlocks G (Nat.le_of_ble_eq_true rfl) (by omega) dX11_game_35 ⟨laA, mdA, wyA, pc_A, f1A, f2A, f3A, f4A, f5A, f6A, n4A, wwA, laB, mdB, wyB, pc_B, f1B, f2B, f3B, f4B, f5B, f6B, n4B, wwB, rfl, hwwA, hmdA, hwmA, (by first | exact hNAo.symm | exact (zNA_n (by first | omega | grind)).symm), hpwA, (fun q => q), hTbA, hwwB, hmdB, hwmB, (by first | exact hNAo.symm | exact (zNA_n (by first | omega | grind)).symm), hpwB, (fun q => q), hTbB⟩)
      · have c_42n : ¬ n.toInt < (0 : Int) := fun q => c_42 ((fa_lt _ _).mpr q)
        refine lv_iload_n hx hb dX11_game_28 rfl (lv_at hl 4 rfl) ?_
        refine lv_iconst (v := 3) hx hb dX11_game_29 (by decide) ?_
        refine lv_icmp_le (tgt := 36) hx hb dX11_game_30 (by decide) (fun c_43 => ?_) (fun c_43 => ?_)
        · have c_43n : n.toInt ≤ (3 : Int) := (fa_le _ _).mp c_43
          refine lv_aload_n hx hb dX11_game_36 rfl (lv_at hl 1 rfl) ?_
          refine lv_iload_n hx hb dX11_game_37 rfl (lv_at hl 2 rfl) ?_
          refine lv_aload hx hb dX11_game_38 (lv_at hl 0 rfl) ?_
          have hNAm : zNA (i1.toInt = 1 ∧ 1 < (fk 0).toInt ∧ 0 ≤ a_.toInt ∧ a_.toInt < cr1_.toInt ∧ a_.toInt < 7 ∧ 0 ≤ n.toInt ∧ n.toInt ≤ 3) mdB n4B (zPl cr1_ inn1_ k11_) = zMk mdB n4B (zPl cr1_ inn1_ k11_) := zNA_y (by first | omega | (repeat' (first | omega | assumption | constructor)))
          have hNAo : zNA (i1.toInt = 0 ∧ 0 < (fk 0).toInt ∧ 0 ≤ a_.toInt ∧ a_.toInt < cr0_.toInt ∧ a_.toInt < 7 ∧ 0 ≤ n.toInt ∧ n.toInt ≤ 3) mdA n4A (zPl cr0_ inn0_ k10_) = n4A := zNA_n (by omega)
          have hn9 : zMk mdB n4B (zPl cr1_ inn1_ k11_) ≤ 131072 := zPw_le (zMk_pw hpwB)
          refine z_Vq (bc := [[zO10 xo t im mk rd po co tr wa wb_ fi cd], wwB, z1_]) (br := [z0_, wwA, wt]) (As := [.int i1, .ref l1]) (rest := []) C G (c_f_waysInB l T xo t im mk rd po co tr wa wb_ fi cd i1 laB mdB wyB pc_B f1B f2B f3B f4B f5B f6B n4B wwB l1 cr1_ inn1_ k11_ k21_ k31_ k41_ z1_ hwwB hz1_ hI1_ hpwB hmdB (kaOk hI1_ hLq1).1 hTbB (by omega)) (kV_RX11_235 C.2.2.2.2 (Nat.le_of_ble_eq_true rfl) (Nat.le_of_ble_eq_true rfl)) [0, 3, 5] [0, 2, 1] rfl rfl (ci := 10) (qc := (RX11, TX11, 11)) rfl rfl (List.mem_flatten.mpr ⟨_, List.mem_of_getElem? (i := 0) rfl, List.mem_cons_self⟩) rfl rfl hl.1 dX11_game_40 (Nat.le_of_ble_eq_true rfl) (by show _ + (6 * (zMk mdB n4B (zPl cr1_ inn1_ k11_) - n4B)) ≤ 6 * (zNA (i1.toInt = 0 ∧ 0 < (fk 0).toInt ∧ 0 ≤ a_.toInt ∧ a_.toInt < cr0_.toInt ∧ a_.toInt < 7 ∧ 0 ≤ n.toInt ∧ n.toInt ≤ 3) mdA n4A (zPl cr0_ inn0_ k10_) - n4A) + 6 * (zNA (i1.toInt = 1 ∧ 1 < (fk 0).toInt ∧ 0 ≤ a_.toInt ∧ a_.toInt < cr1_.toInt ∧ a_.toInt < 7 ∧ 0 ≤ n.toInt ∧ n.toInt ≤ 3) mdB n4B (zPl cr1_ inn1_ k11_) - n4B); omega) (fun r_58 b1 H locs hw G => ?_)
          refine zEx9 hw ?_
          intro w2_44 m2_45 wy2_46 pc2_47 g1_48 g2_49 g4_50 g5_51 g6_52
          refine zCu6 ?_
          intro hbs9 h_53 h_54 h_55 h_56 h_57
          clear hw
          subst hbs9
          have G : zS T A s.heap s [z0_, wwA, wt, [zO10 xo t im mk rd po co tr wa wb_ fi cd], w2_44, z1_] _ _ := G
          subst h_53
          have hwy9 : 0 ≤ wy2_46.toInt ∧ wy2_46.toInt ≤ 16384 := by have q9 := zWy_in (inn := inn1_) hI1_; rw [h_55]; exact ⟨by omega, q9.2⟩
          have hp79 : aPr (aW cr1_ inn1_ k11_) 7 ≤ 16384 := aPr_7 hI1_
          have hwN9 : wy2_46 = nI (aPr (aW cr1_ inn1_ k11_) 7) := h_55.trans (zWy_z hI1_)
          have hwT9 : wy2_46.toInt = ((aPr (aW cr1_ inn1_ k11_) 7 : Nat) : Int) := by rw [hwN9, nI_toInt (by omega)]
          have hOk9 := (kaOk (inn := inn1_) hI1_ hLq1).1
          have hc79 := hI1_.1
          refine lv_astore (lv' := [(6, .ref wb_), (5, .ref l1), (0, .ref xo), (1, .int i1), (2, .int a_), (3, .int n), (4, .int w_)]) hx hb dX11_game_43 hl (by decide) (zLvf_h rfl) (fun ls hl => ?_)
          refine lv_aload hx hb dX11_game_45 (lv_at hl 0 rfl) ?_
          refine z_Vi (bc := [w2_44, z1_]) (br := [z0_, wwA, wt, [zO10 xo t im mk rd po co tr wa wb_ fi cd]]) (As := []) (rest := []) C G (c_wayTold l T wb_ l1 m2_45 wy2_46 pc2_47 g1_48 g2_49 f3B g4_50 g5_51 g6_52 (zMk mdB n4B (zPl cr1_ inn1_ k11_)) w2_44 cr1_ inn1_ k11_ k21_ k31_ k41_ z1_ h_54 hz1_ (by first | with_reducible assumption | with_reducible rfl | omega | assumption | rfl)) (kV_RX11_242 C.2.2.2.2 (Nat.le_of_ble_eq_true rfl) (Nat.le_of_ble_eq_true rfl)) [4, 5] [4, 0] rfl rfl (ci := 0) (qc := (RX0, TX0, 10)) rfl rfl (List.mem_flatten.mpr ⟨_, List.mem_of_getElem? (i := 0) rfl, (bWays_mem h_54).choose_spec⟩) rfl rfl hl.1 dX11_game_47 (Nat.le_of_ble_eq_true rfl) (by show _ + 0 ≤ 6 * (zNA (i1.toInt = 0 ∧ 0 < (fk 0).toInt ∧ 0 ≤ a_.toInt ∧ a_.toInt < cr0_.toInt ∧ a_.toInt < 7 ∧ 0 ≤ n.toInt ∧ n.toInt ≤ 3) mdA n4A (zPl cr0_ inn0_ k10_) - n4A) + 6 * (zNA (i1.toInt = 1 ∧ 1 < (fk 0).toInt ∧ 0 ≤ a_.toInt ∧ a_.toInt < cr1_.toInt ∧ a_.toInt < 7 ∧ 0 ≤ n.toInt ∧ n.toInt ≤ 3) mdB n4B (zPl cr1_ inn1_ k11_) - n4B); omega) (fun r_59 b1 H locs hw G => ?_)
          obtain rfl := hw
          have G : zS T A s.heap s [z0_, wwA, wt, [zO10 xo t im mk rd po co tr wa wb_ fi cd], w2_44, z1_] _ _ := G
          refine lv_istore (lv' := [(7, .int r_59), (6, .ref wb_), (5, .ref l1), (0, .ref xo), (1, .int i1), (2, .int a_), (3, .int n), (4, .int w_)]) hx hb dX11_game_50 hl (by decide) (zLvf_h rfl) (fun ls hl => ?_)
          refine lv_aload hx hb dX11_game_52 (lv_at hl 1 rfl) ?_
          refine lv_iload hx hb dX11_game_54 (lv_at hl 0 rfl) ?_
          refine lv_iload_n hx hb dX11_game_56 rfl (lv_at hl 5 rfl) ?_
          refine lv_iload_n hx hb dX11_game_57 rfl (lv_at hl 6 rfl) ?_
          refine lv_iconst (v := 1) hx hb dX11_game_58 (by decide) ?_
          refine z_Si (bc := [w2_44, z1_]) (br := [z0_, wwA, wt, [zO10 xo t im mk rd po co tr wa wb_ fi cd]]) (As := [.ref wb_, .int r_59, .int a_, .int n, .int 1]) (rest := []) C G (c_worthN l T wb_ l1 m2_45 wy2_46 pc2_47 g1_48 g2_49 f3B g4_50 g5_51 g6_52 (zMk mdB n4B (zPl cr1_ inn1_ k11_)) w2_44 cr1_ inn1_ k11_ k21_ k31_ k41_ z1_ r_59 a_ n 1 h_54 hz1_ (by first | with_reducible assumption | with_reducible rfl | omega | assumption | rfl) hn9 (by omega)) (kS_RX11_278 C.2.2.2.2 (Nat.le_of_ble_eq_true rfl) (Nat.le_of_ble_eq_true rfl)) [4, 5] [4, 0] rfl rfl rfl rfl hl.1 dX11_game_59 (Nat.le_of_ble_eq_true rfl) (by show _ + 0 ≤ 6 * (zNA (i1.toInt = 0 ∧ 0 < (fk 0).toInt ∧ 0 ≤ a_.toInt ∧ a_.toInt < cr0_.toInt ∧ a_.toInt < 7 ∧ 0 ≤ n.toInt ∧ n.toInt ≤ 3) mdA n4A (zPl cr0_ inn0_ k10_) - n4A) + 6 * (zNA (i1.toInt = 1 ∧ 1 < (fk 0).toInt ∧ 0 ≤ a_.toInt ∧ a_.toInt < cr1_.toInt ∧ a_.toInt < 7 ∧ 0 ≤ n.toInt ∧ n.toInt ≤ 3) mdB n4B (zPl cr1_ inn1_ k11_) - n4B); omega) (fun r_60 b1 H locs hw G => ?_)
          obtain rfl := hw
          have G : zS T A s.heap s [z0_, wwA, wt, [zO10 xo t im mk rd po co tr wa wb_ fi cd], w2_44, z1_] _ _ := G
          refine lv_istore (lv' := [(8, .int r_60), (7, .int r_59), (6, .ref wb_), (5, .ref l1), (0, .ref xo), (1, .int i1), (2, .int a_), (3, .int n), (4, .int w_)]) hx hb dX11_game_62 hl (by decide) (zLvf_h rfl) (fun ls hl => ?_)
          refine lv_iload hx hb dX11_game_64 (lv_at hl 8 rfl) ?_
          refine lv_if_ne (tgt := 72) hx hb dX11_game_66 (by decide) (fun c_61 => ?_) (fun c_61 => ?_)
          · have c_61n : ¬ w_.toInt = (0 : Int) := fun q => c_61 ((fa_eq _ _).mpr q)
            refine lv_iload_n hx hb dX11_game_72 rfl (lv_at hl 7 rfl) ?_
            refine lv_if_ne (tgt := 80) hx hb dX11_game_73 (by decide) (fun c_62 => ?_) (fun c_62 => ?_)
            · have c_62n : ¬ n.toInt = (0 : Int) := fun q => c_62 ((fa_eq _ _).mpr q)
              refine lv_aload hx hb dX11_game_80 (lv_at hl 2 rfl) ?_
              refine lv_iload hx hb dX11_game_82 (lv_at hl 1 rfl) ?_
              refine lv_iload_n hx hb dX11_game_84 rfl (lv_at hl 6 rfl) ?_
              refine lv_iload_n hx hb dX11_game_85 rfl (lv_at hl 7 rfl) ?_
              refine lv_iload hx hb dX11_game_86 (lv_at hl 0 rfl) ?_
              refine z_Si (bc := [w2_44, z1_]) (br := [z0_, wwA, wt, [zO10 xo t im mk rd po co tr wa wb_ fi cd]]) (As := [.ref wb_, .int r_59, .int a_, .int n, .int r_60]) (rest := []) C G (c_bestTurnN l T wb_ l1 m2_45 wy2_46 pc2_47 g1_48 g2_49 f3B g4_50 g5_51 g6_52 (zMk mdB n4B (zPl cr1_ inn1_ k11_)) w2_44 cr1_ inn1_ k11_ k21_ k31_ k41_ z1_ r_59 a_ n r_60 h_54 hz1_ (by first | with_reducible assumption | with_reducible rfl | omega | assumption | rfl) hn9 (by omega)) (kS_RX11_282 C.2.2.2.2 (Nat.le_of_ble_eq_true rfl) (Nat.le_of_ble_eq_true rfl)) [4, 5] [4, 0] rfl rfl rfl rfl hl.1 dX11_game_88 (Nat.le_of_ble_eq_true rfl) (by show _ + 0 ≤ 6 * (zNA (i1.toInt = 0 ∧ 0 < (fk 0).toInt ∧ 0 ≤ a_.toInt ∧ a_.toInt < cr0_.toInt ∧ a_.toInt < 7 ∧ 0 ≤ n.toInt ∧ n.toInt ≤ 3) mdA n4A (zPl cr0_ inn0_ k10_) - n4A) + 6 * (zNA (i1.toInt = 1 ∧ 1 < (fk 0).toInt ∧ 0 ≤ a_.toInt ∧ a_.toInt < cr1_.toInt ∧ a_.toInt < 7 ∧ 0 ≤ n.toInt ∧ n.toInt ≤ 3) mdB n4B (zPl cr1_ inn1_ k11_) - n4B); omega) (fun r_63 b1 H locs hw G => ?_)
              obtain rfl := hw
              have G : zS T A s.heap s [z0_, wwA, wt, [zO10 xo t im mk rd po co tr wa wb_ fi cd], w2_44, z1_] _ _ := G
              have G := G.sub (bs' := [[zO10 xo t im mk rd po co tr wa wb_ fi cd], wt, z0_, z1_, wwA, w2_44]) [3, 2, 0, 5, 1, 4] rfl
              exact z_back hQz_ (z_iret C hr hlocks G (Nat.le_of_ble_eq_true rfl) (by omega) dX11_game_91 ⟨laA, mdA, wyA, pc_A, f1A, f2A, f3A, f4A, f5A, f6A, n4A, wwA, l1, m2_45, wy2_46, pc2_47, g1_48, g2_49, f3B, g4_50, g5_51, g6_52, (zMk mdB n4B (zPl cr1_ inn1_ k11_)), w2_44, rfl, hwwA, hmdA, hwmA, (by first | exact hNAo.symm | exact (zNA_n (by first | omega | grind)).symm), hpwA, (fun q => q), hTbA, h_54, (Or.inr rfl), hwy9, hNAm.symm, (zMk_pw hpwB), (fun _ => h_56), (Or.inr h_57)⟩)
            · have c_62n : n.toInt = (0 : Int) := (fa_eq _ _).mp c_62
              refine lv_iconst (v := (-1)) hx hb dX11_game_76 (by decide) ?_
              refine lv_goto (tgt := 91) hx hb dX11_game_77 (by decide) ?_
              have G := G.sub (bs' := [[zO10 xo t im mk rd po co tr wa wb_ fi cd], wt, z0_, z1_, wwA, w2_44]) [3, 2, 0, 5, 1, 4] rfl
              exact z_back hQz_ (z_iret C hr hlocks G (Nat.le_of_ble_eq_true rfl) (by omega) dX11_game_91 ⟨laA, mdA, wyA, pc_A, f1A, f2A, f3A, f4A, f5A, f6A, n4A, wwA, l1, m2_45, wy2_46, pc2_47, g1_48, g2_49, f3B, g4_50, g5_51, g6_52, (zMk mdB n4B (zPl cr1_ inn1_ k11_)), w2_44, rfl, hwwA, hmdA, hwmA, (by first | exact hNAo.symm | exact (zNA_n (by first | omega | grind)).symm), hpwA, (fun q => q), hTbA, h_54, (Or.inr rfl), hwy9, hNAm.symm, (zMk_pw hpwB), (fun _ => h_56), (Or.inr h_57)⟩)
          · have c_61n : w_.toInt = (0 : Int) := (fa_eq _ _).mp c_61
            refine lv_iload hx hb dX11_game_69 (lv_at hl 0 rfl) ?_
            have G := G.sub (bs' := [[zO10 xo t im mk rd po co tr wa wb_ fi cd], wt, z0_, z1_, wwA, w2_44]) [3, 2, 0, 5, 1, 4] rfl
            exact z_back hQz_ (z_iret C hr hlocks G (Nat.le_of_ble_eq_true rfl) (by omega) dX11_game_71 ⟨laA, mdA, wyA, pc_A, f1A, f2A, f3A, f4A, f5A, f6A, n4A, wwA, l1, m2_45, wy2_46, pc2_47, g1_48, g2_49, f3B, g4_50, g5_51, g6_52, (zMk mdB n4B (zPl cr1_ inn1_ k11_)), w2_44, rfl, hwwA, hmdA, hwmA, (by first | exact hNAo.symm | exact (zNA_n (by first | omega | grind)).symm), hpwA, (fun q => q), hTbA, h_54, (Or.inr rfl), hwy9, hNAm.symm, (zMk_pw hpwB), (fun _ => h_56), (Or.inr h_57)⟩)
        · have c_43n : ¬ n.toInt ≤ (3 : Int) := fun q => c_43 ((fa_le _ _).mpr q)
          refine lv_bipush (v := (-9)) hx hb dX11_game_33 (by decide) ?_
          have G := G.sub (bs' := [[zO10 xo t im mk rd po co tr wa wb_ fi cd], wt, z0_, z1_, wwA, wwB]) [0, 4, 1, 5, 2, 3] rfl
          exact z_back hQz_ (z_iret C hr hlocks G (Nat.le_of_ble_eq_true rfl) (by omega) dX11_game_35 ⟨laA, mdA, wyA, pc_A, f1A, f2A, f3A, f4A, f5A, f6A, n4A, wwA, laB, mdB, wyB, pc_B, f1B, f2B, f3B, f4B, f5B, f6B, n4B, wwB, rfl, hwwA, hmdA, hwmA, (by first | exact hNAo.symm | exact (zNA_n (by first | omega | grind)).symm), hpwA, (fun q => q), hTbA, hwwB, hmdB, hwmB, (by first | exact hNAo.symm | exact (zNA_n (by first | omega | grind)).symm), hpwB, (fun q => q), hTbB⟩)
    · have h_41 : (a_.toInt < 0 ∨ cr1_.toInt ≤ a_.toInt ∨ 7 ≤ a_.toInt) := h_41
      refine lv_if_eq (tgt := 33) hx hb dX11_game_21 (by decide) (fun _ => ?_) (fun q => absurd (by decide) q)
      refine lv_bipush (v := (-9)) hx hb dX11_game_33 (by decide) ?_
      have G := G.sub (bs' := [[zO10 xo t im mk rd po co tr wa wb_ fi cd], wt, z0_, z1_, wwA, wwB]) [0, 4, 1, 5, 2, 3] rfl
      exact z_back hQz_ (z_iret C hr hlocks G (Nat.le_of_ble_eq_true rfl) (by omega) dX11_game_35 ⟨laA, mdA, wyA, pc_A, f1A, f2A, f3A, f4A, f5A, f6A, n4A, wwA, laB, mdB, wyB, pc_B, f1B, f2B, f3B, f4B, f5B, f6B, n4B, wwB, rfl, hwwA, hmdA, hwmA, (by first | exact hNAo.symm | exact (zNA_n (by first | omega | grind)).symm), hpwA, (fun q => q), hTbA, hwwB, hmdB, hwmB, (by first | exact hNAo.symm | exact (zNA_n (by first | omega | grind)).symm), hpwB, (fun q => q), hTbB⟩)
set_option maxHeartbeats 4000000 in
set_option maxRecDepth 100000 in
/-- treesOf -/
theorem c_t_treesOf (l : Launch) (T : zTy) (h : Nat) (la : Nat) (md : Int32) (wy : Int32) (pc_ : Int32) (f1 : Nat → Int32) (f2 : Nat → Int32) (f3 : Nat → Int32) (f4 : Nat → Int32) (f5 : Nat → Int32) (f6 : Nat → Int32) (n4 : Nat) (ww : va_W) (o : Nat) (cr : Int32) (inn : Int32) (k1 : Nat → Int32) (k2 : Nat → Int32) (k3 : Nat → Int32) (k4 : Nat → Int32) (z : va_W) (hww : bWays T h la md wy pc_ f1 f2 f3 f4 f5 f6 n4 ww) (hz : bLand T o cr inn k1 k2 k3 k4 z) (hI : zLI cr k1 k3) : zMi l T yX0_treesOf cX0_treesOf 4 (some .int) 5 0 0 [.ref h, .ref o] [ww, z] (fun (r : Int32) bs => ∃ (w2 : va_W) (g1 : Nat → Int32) (g2 : Nat → Int32) (g3 : Nat → Int32), bs = [w2, z] ∧ bWays T h o md (zWy cr inn k1) (zPl cr inn k1) g1 g2 g3 f4 f5 f6 n4 w2 ∧ aF cr inn k1 g1 g2) := by
  refine zMi_of (own := RX0) (by decide) rfl (Nat.le_of_ble_eq_true rfl) ?_
  intro p e s m args below meth c A ls C hr hlocks hnm hAe G hl
  refine zHide (fun Qz_ hQz_ => ?_)
  have hx := C.1
  have hb := C.2.1
  have hl : lv_has ls 4 [(0, .ref h), (1, .ref o)] := hl
  refine lv_aload_n hx hb dX0_treesOf_0 rfl (lv_at hl 0 rfl) ?_
  refine lv_aload_n hx hb dX0_treesOf_1 rfl (lv_at hl 1 rfl) ?_
  refine z_Vv (bc := [ww, z]) (br := []) (As := [.ref o]) (rest := []) C G (c_f_countWays l T h la md wy pc_ f1 f2 f3 f4 f5 f6 n4 ww o cr inn k1 k2 k3 k4 z hww hz) (kV_RX0_41 C.2.2.2.2 (Nat.le_of_ble_eq_true rfl) (Nat.le_of_ble_eq_true rfl)) [0, 1] [0, 0] rfl rfl (ci := 0) (qc := (RX0, TX0, 10)) rfl rfl (List.mem_flatten.mpr ⟨_, List.mem_of_getElem? (i := 0) rfl, (bWays_mem hww).choose_spec⟩) rfl rfl hl.1 dX0_treesOf_2 (Nat.le_of_ble_eq_true rfl) (Nat.le_of_ble_eq_true rfl) (fun b1 H locs hw G => ?_)
  refine zEx3 hw ?_
  intro w2_1 g1_2 g2_3
  refine zCu3 ?_
  intro hbs9 h_4 h_5
  clear hw
  subst hbs9
  have G : zS T A s.heap s [w2_1, z] _ _ := G
  have hwl := Int32.toInt_lt (zWy cr inn k1)
  refine lv_iconst (v := 0) hx hb dX0_treesOf_5 (by decide) ?_
  refine lv_istore_n (lv' := [(2, .int 0), (0, .ref h), (1, .ref o)]) hx hb dX0_treesOf_6 rfl hl (by decide) (zLvf_h rfl) (fun ls hl => ?_)
  refine lv_iconst (v := 0) hx hb dX0_treesOf_7 (by decide) ?_
  refine lv_istore_n (lv' := [(3, .int 0), (2, .int 0), (0, .ref h), (1, .ref o)]) hx hb dX0_treesOf_8 rfl hl (by decide) (zLvf_h rfl) (fun ls hl => ?_)
  refine zEx6 h_4 ?_
  intro a1_7 a2_8 a3_9 a4_10 a5_11 a6_12 hbs9
  clear h_4
  subst hbs9
  have G : zS T A s.heap s [[zO0 h md (zWy cr inn k1) o (zPl cr inn k1) a1_7 a2_8 a3_9 a4_10 a5_11 a6_12], [zAr T 0 a1_7 7 g1_2], [zAr T 0 a2_8 7 g2_3], [zAr T 0 a3_9 7 f3], [zAr T 0 a4_10 n4 f4], [zAr T 0 a5_11 n4 f5], [zAr T 0 a6_12 n4 f6], z] _ _ := G.re rfl
  have hw_13 : bWays T h o md (zWy cr inn k1) (zPl cr inn k1) g1_2 g2_3 f3 f4 f5 f6 n4 [zO0 h md (zWy cr inn k1) o (zPl cr inn k1) a1_7 a2_8 a3_9 a4_10 a5_11 a6_12, zAr T 0 a1_7 7 g1_2, zAr T 0 a2_8 7 g2_3, zAr T 0 a3_9 7 f3, zAr T 0 a4_10 n4 f4, zAr T 0 a5_11 n4 f5, zAr T 0 a6_12 n4 f6] := ⟨a1_7, a2_8, a3_9, a4_10, a5_11, a6_12, rfl⟩
  have G : zS T A s.heap s [[zO0 h md (zWy cr inn k1) o (zPl cr inn k1) a1_7 a2_8 a3_9 a4_10 a5_11 a6_12, zAr T 0 a1_7 7 g1_2, zAr T 0 a2_8 7 g2_3, zAr T 0 a3_9 7 f3, zAr T 0 a4_10 n4 f4, zAr T 0 a5_11 n4 f5, zAr T 0 a6_12 n4 f6], z] _ _ := G.re rfl
  refine z_lp3 (T := T) 9 (fun (i : Nat) (wt : va_W) (x3 : Nat → Int32) => [wt, z]) (fun (i : Nat) (wt : va_W) (x3 : Nat → Int32) => [(3, .int (nI i)), (2, .int 0), (0, .ref h), (1, .ref o)]) (fun (i : Nat) (wt : va_W) (x3 : Nat → Int32) => bWays T h o md (zWy cr inn k1) (zPl cr inn k1) g1_2 g2_3 x3 f4 f5 f6 n4 wt ∧ i ≤ 7) (fun (i : Nat) (wt : va_W) (x3 : Nat → Int32) => 7 - i) ?_ 0 ([zO0 h md (zWy cr inn k1) o (zPl cr inn k1) a1_7 a2_8 a3_9 a4_10 a5_11 a6_12, zAr T 0 a1_7 7 g1_2, zAr T 0 a2_8 7 g2_3, zAr T 0 a3_9 7 f3, zAr T 0 a4_10 n4 f4, zAr T 0 a5_11 n4 f5, zAr T 0 a6_12 n4 f6]) f3 (show bWays T h o md (zWy cr inn k1) (zPl cr inn k1) g1_2 g2_3 f3 f4 f5 f6 n4 ([zO0 h md (zWy cr inn k1) o (zPl cr inn k1) a1_7 a2_8 a3_9 a4_10 a5_11 a6_12, zAr T 0 a1_7 7 g1_2, zAr T 0 a2_8 7 g2_3, zAr T 0 a3_9 7 f3, zAr T 0 a4_10 n4 f4, zAr T 0 a5_11 n4 f5, zAr T 0 a6_12 n4 f6]) ∧ 0 ≤ 7 from ⟨hw_13, by omega⟩) G (lv_sub hl [0, 1, 2, 3] rfl)
  intro i wt x3 hI9 ih_9 H locs ls G hl
  replace hI9 : bWays T h o md (zWy cr inn k1) (zPl cr inn k1) g1_2 g2_3 x3 f4 f5 f6 n4 wt ∧ i ≤ 7 := hI9
  refine zAn2 hI9 ?_
  intro hwt hi
  clear hI9
  replace G : zS T A s.heap s [wt, z] _ _ := G
  replace hl : lv_has ls 4 [(3, .int (nI i)), (2, .int 0), (0, .ref h), (1, .ref o)] := hl
  refine lv_iload_n hx hb dX0_treesOf_9 rfl (lv_at hl 0 rfl) ?_
  refine lv_bipush (v := 7) hx hb dX0_treesOf_10 (by decide) ?_
  refine lv_icmp_ge (tgt := 28) hx hb dX0_treesOf_12 (by decide) (fun c_14 => ?_) (fun c_14 => ?_)
  · have c_14n : 7 ≤ i := (nI_leI (a := 7) (b := i) (by omega) (by omega)).mp c_14
    refine lv_iconst (v := 0) hx hb dX0_treesOf_28 (by decide) ?_
    refine lv_istore_n (lv' := [(3, .int 0), (2, .int 0), (0, .ref h), (1, .ref o)]) hx hb dX0_treesOf_29 rfl hl (by decide) (zLvf_h rfl) (fun ls hl => ?_)
    refine zEx6 hwt ?_
    intro a1_15 a2_16 a3_17 a4_18 a5_19 a6_20 hbs9
    clear hwt
    subst hbs9
    have G : zS T A s.heap s [[zO0 h md (zWy cr inn k1) o (zPl cr inn k1) a1_15 a2_16 a3_17 a4_18 a5_19 a6_20], [zAr T 0 a1_15 7 g1_2], [zAr T 0 a2_16 7 g2_3], [zAr T 0 a3_17 7 x3], [zAr T 0 a4_18 n4 f4], [zAr T 0 a5_19 n4 f5], [zAr T 0 a6_20 n4 f6], z] _ _ := G.re rfl
    have hw_21 : bWays T h o md (zWy cr inn k1) (zPl cr inn k1) g1_2 g2_3 x3 f4 f5 f6 n4 [zO0 h md (zWy cr inn k1) o (zPl cr inn k1) a1_15 a2_16 a3_17 a4_18 a5_19 a6_20, zAr T 0 a1_15 7 g1_2, zAr T 0 a2_16 7 g2_3, zAr T 0 a3_17 7 x3, zAr T 0 a4_18 n4 f4, zAr T 0 a5_19 n4 f5, zAr T 0 a6_20 n4 f6] := ⟨a1_15, a2_16, a3_17, a4_18, a5_19, a6_20, rfl⟩
    have G : zS T A s.heap s [[zO0 h md (zWy cr inn k1) o (zPl cr inn k1) a1_15 a2_16 a3_17 a4_18 a5_19 a6_20, zAr T 0 a1_15 7 g1_2, zAr T 0 a2_16 7 g2_3, zAr T 0 a3_17 7 x3, zAr T 0 a4_18 n4 f4, zAr T 0 a5_19 n4 f5, zAr T 0 a6_20 n4 f6], z] _ _ := G.re rfl
    refine z_lp4 (T := T) 30 (fun (j : Nat) (u : Int32) (wu : va_W) (y3 : Nat → Int32) => [wu, z]) (fun (j : Nat) (u : Int32) (wu : va_W) (y3 : Nat → Int32) => [(3, .int (nI j)), (2, .int u), (0, .ref h), (1, .ref o)]) (fun (j : Nat) (u : Int32) (wu : va_W) (y3 : Nat → Int32) => bWays T h o md (zWy cr inn k1) (zPl cr inn k1) g1_2 g2_3 y3 f4 f5 f6 n4 wu ∧ j ≤ (zWy cr inn k1).toInt.toNat) (fun (j : Nat) (u : Int32) (wu : va_W) (y3 : Nat → Int32) => (zWy cr inn k1).toInt.toNat - j) ?_ 0 0 ([zO0 h md (zWy cr inn k1) o (zPl cr inn k1) a1_15 a2_16 a3_17 a4_18 a5_19 a6_20, zAr T 0 a1_15 7 g1_2, zAr T 0 a2_16 7 g2_3, zAr T 0 a3_17 7 x3, zAr T 0 a4_18 n4 f4, zAr T 0 a5_19 n4 f5, zAr T 0 a6_20 n4 f6]) x3 (show bWays T h o md (zWy cr inn k1) (zPl cr inn k1) g1_2 g2_3 x3 f4 f5 f6 n4 ([zO0 h md (zWy cr inn k1) o (zPl cr inn k1) a1_15 a2_16 a3_17 a4_18 a5_19 a6_20, zAr T 0 a1_15 7 g1_2, zAr T 0 a2_16 7 g2_3, zAr T 0 a3_17 7 x3, zAr T 0 a4_18 n4 f4, zAr T 0 a5_19 n4 f5, zAr T 0 a6_20 n4 f6]) ∧ 0 ≤ (zWy cr inn k1).toInt.toNat from ⟨hw_21, by omega⟩) G (lv_sub hl [0, 1, 2, 3] rfl)
    intro j u wu y3 hI9 ih_30 H locs ls G hl
    replace hI9 : bWays T h o md (zWy cr inn k1) (zPl cr inn k1) g1_2 g2_3 y3 f4 f5 f6 n4 wu ∧ j ≤ (zWy cr inn k1).toInt.toNat := hI9
    refine zAn2 hI9 ?_
    intro hwu hj
    clear hI9
    replace G : zS T A s.heap s [wu, z] _ _ := G
    replace hl : lv_has ls 4 [(3, .int (nI j)), (2, .int u), (0, .ref h), (1, .ref o)] := hl
    refine lv_iload_n hx hb dX0_treesOf_30 rfl (lv_at hl 0 rfl) ?_
    refine lv_aload_n hx hb dX0_treesOf_31 rfl (lv_at hl 2 rfl) ?_
    refine zEx6 hwu ?_
    intro a1_22 a2_23 a3_24 a4_25 a5_26 a6_27 hbs9
    clear hwu
    subst hbs9
    have G : zS T A s.heap s [[zO0 h md (zWy cr inn k1) o (zPl cr inn k1) a1_22 a2_23 a3_24 a4_25 a5_26 a6_27], [zAr T 0 a1_22 7 g1_2], [zAr T 0 a2_23 7 g2_3], [zAr T 0 a3_24 7 y3], [zAr T 0 a4_25 n4 f4], [zAr T 0 a5_26 n4 f5], [zAr T 0 a6_27 n4 f6], z] _ _ := G.re rfl
    refine z_get C G clX0 0 rfl 1 (by decide) m_fl_RX0_57 rfl dX0_treesOf_32 ?_
    refine lv_icmp_ge (tgt := 58) hx hb dX0_treesOf_35 (by decide) (fun c_28 => ?_) (fun c_28 => ?_)
    · have c_28n : (zWy cr inn k1).toInt ≤ (j : Int) := by have q := (fa_le _ _).mp c_28; rw [nI_toInt (n := j) (by omega)] at q; exact q
      refine lv_iload_n hx hb dX0_treesOf_58 rfl (lv_at hl 1 rfl) ?_
      have hw_29 : bWays T h o md (zWy cr inn k1) (zPl cr inn k1) g1_2 g2_3 y3 f4 f5 f6 n4 [zO0 h md (zWy cr inn k1) o (zPl cr inn k1) a1_22 a2_23 a3_24 a4_25 a5_26 a6_27, zAr T 0 a1_22 7 g1_2, zAr T 0 a2_23 7 g2_3, zAr T 0 a3_24 7 y3, zAr T 0 a4_25 n4 f4, zAr T 0 a5_26 n4 f5, zAr T 0 a6_27 n4 f6] := ⟨a1_22, a2_23, a3_24, a4_25, a5_26, a6_27, rfl⟩
      have G : zS T A s.heap s [[zO0 h md (zWy cr inn k1) o (zPl cr inn k1) a1_22 a2_23 a3_24 a4_25 a5_26 a6_27, zAr T 0 a1_22 7 g1_2, zAr T 0 a2_23 7 g2_3, zAr T 0 a3_24 7 y3, zAr T 0 a4_25 n4 f4, zAr T 0 a5_26 n4 f5, zAr T 0 a6_27 n4 f6], z] _ _ := G.re rfl
      exact z_back hQz_ (z_iret C hr hlocks G (Nat.le_of_ble_eq_true rfl) (Nat.le_of_ble_eq_true rfl) dX0_treesOf_59 ⟨([zO0 h md (zWy cr inn k1) o (zPl cr inn k1) a1_22 a2_23 a3_24 a4_25 a5_26 a6_27, zAr T 0 a1_22 7 g1_2, zAr T 0 a2_23 7 g2_3, zAr T 0 a3_24 7 y3, zAr T 0 a4_25 n4 f4, zAr T 0 a5_26 n4 f5, zAr T 0 a6_27 n4 f6]), g1_2, g2_3, y3, rfl, hw_29, h_5⟩)
    · have c_28n : ¬ (zWy cr inn k1).toInt ≤ (j : Int) := fun q => c_28 ((fa_le _ _).mpr (by rw [nI_toInt (n := j) (by omega)]; exact q))
      refine lv_aload_n hx hb dX0_treesOf_38 rfl (lv_at hl 2 rfl) ?_
      have hw_30 : bWays T h o md (zWy cr inn k1) (zPl cr inn k1) g1_2 g2_3 y3 f4 f5 f6 n4 [zO0 h md (zWy cr inn k1) o (zPl cr inn k1) a1_22 a2_23 a3_24 a4_25 a5_26 a6_27, zAr T 0 a1_22 7 g1_2, zAr T 0 a2_23 7 g2_3, zAr T 0 a3_24 7 y3, zAr T 0 a4_25 n4 f4, zAr T 0 a5_26 n4 f5, zAr T 0 a6_27 n4 f6] := ⟨a1_22, a2_23, a3_24, a4_25, a5_26, a6_27, rfl⟩
      have G : zS T A s.heap s [[zO0 h md (zWy cr inn k1) o (zPl cr inn k1) a1_22 a2_23 a3_24 a4_25 a5_26 a6_27, zAr T 0 a1_22 7 g1_2, zAr T 0 a2_23 7 g2_3, zAr T 0 a3_24 7 y3, zAr T 0 a4_25 n4 f4, zAr T 0 a5_26 n4 f5, zAr T 0 a6_27 n4 f6], z] _ _ := G.re rfl
      refine z_Vi (bc := [[zO0 h md (zWy cr inn k1) o (zPl cr inn k1) a1_22 a2_23 a3_24 a4_25 a5_26 a6_27, zAr T 0 a1_22 7 g1_2, zAr T 0 a2_23 7 g2_3, zAr T 0 a3_24 7 y3, zAr T 0 a4_25 n4 f4, zAr T 0 a5_26 n4 f5, zAr T 0 a6_27 n4 f6], z]) (br := []) (As := []) (rest := []) C G (c_allComeByRow l T h o md (zWy cr inn k1) (zPl cr inn k1) g1_2 g2_3 y3 f4 f5 f6 n4 ([zO0 h md (zWy cr inn k1) o (zPl cr inn k1) a1_22 a2_23 a3_24 a4_25 a5_26 a6_27, zAr T 0 a1_22 7 g1_2, zAr T 0 a2_23 7 g2_3, zAr T 0 a3_24 7 y3, zAr T 0 a4_25 n4 f4, zAr T 0 a5_26 n4 f5, zAr T 0 a6_27 n4 f6]) cr inn k1 k2 k3 k4 z hw_30 hz (by first | with_reducible assumption | with_reducible rfl | omega | assumption | rfl)) (kV_RX0_122 C.2.2.2.2 (Nat.le_of_ble_eq_true rfl) (Nat.le_of_ble_eq_true rfl)) [0, 1] [0, 0] rfl rfl (ci := 0) (qc := (RX0, TX0, 10)) rfl rfl (List.mem_flatten.mpr ⟨_, List.mem_of_getElem? (i := 0) rfl, (bWays_mem hw_30).choose_spec⟩) rfl rfl hl.1 dX0_treesOf_39 (Nat.le_of_ble_eq_true rfl) (Nat.le_of_ble_eq_true rfl) (fun r_32 b1 H locs hw G => ?_)
      refine zAn2 hw ?_
      intro hbs9 h_31
      clear hw
      subst hbs9
      have G : zS T A s.heap s [[zO0 h md (zWy cr inn k1) o (zPl cr inn k1) a1_22 a2_23 a3_24 a4_25 a5_26 a6_27, zAr T 0 a1_22 7 g1_2, zAr T 0 a2_23 7 g2_3, zAr T 0 a3_24 7 y3, zAr T 0 a4_25 n4 f4, zAr T 0 a5_26 n4 f5, zAr T 0 a6_27 n4 f6], z] _ _ := G
      replace h_31 : zHd ((r_32 = 0 ∨ r_32 = 1)) := h_31
      refine lv_if_eq (tgt := 48) hx hb dX0_treesOf_42 (by decide) (fun c_33 => ?_) (fun c_33 => ?_)
      · have c_33n : r_32.toInt = (0 : Int) := (fa_eq _ _).mp c_33
        refine lv_aload_n hx hb dX0_treesOf_48 rfl (lv_at hl 2 rfl) ?_
        refine z_Vv (bc := [[zO0 h md (zWy cr inn k1) o (zPl cr inn k1) a1_22 a2_23 a3_24 a4_25 a5_26 a6_27, zAr T 0 a1_22 7 g1_2, zAr T 0 a2_23 7 g2_3, zAr T 0 a3_24 7 y3, zAr T 0 a4_25 n4 f4, zAr T 0 a5_26 n4 f5, zAr T 0 a6_27 n4 f6]]) (br := [z]) (As := []) (rest := []) C G (c_nextRow l T h o md (zWy cr inn k1) (zPl cr inn k1) g1_2 g2_3 y3 f4 f5 f6 n4 ([zO0 h md (zWy cr inn k1) o (zPl cr inn k1) a1_22 a2_23 a3_24 a4_25 a5_26 a6_27, zAr T 0 a1_22 7 g1_2, zAr T 0 a2_23 7 g2_3, zAr T 0 a3_24 7 y3, zAr T 0 a4_25 n4 f4, zAr T 0 a5_26 n4 f5, zAr T 0 a6_27 n4 f6]) hw_30) (kV_RX0_126 C.2.2.2.2 (Nat.le_of_ble_eq_true rfl) (Nat.le_of_ble_eq_true rfl)) [0] [0] rfl rfl (ci := 0) (qc := (RX0, TX0, 10)) rfl rfl (List.mem_flatten.mpr ⟨_, List.mem_of_getElem? (i := 0) rfl, (bWays_mem hw_30).choose_spec⟩) rfl rfl hl.1 dX0_treesOf_49 (Nat.le_of_ble_eq_true rfl) (Nat.le_of_ble_eq_true rfl) (fun b1 H locs hw G => ?_)
        refine zEx2 hw ?_
        intro w2_34 g3_35
        refine zCu2 ?_
        intro hbs9 h_36
        clear hw
        subst hbs9
        have G : zS T A s.heap s [z, w2_34] _ _ := G
        refine lv_iinc (v := nI (j + 1)) (lv' := [(3, .int (nI (j + 1))), (2, .int u), (0, .ref h), (1, .ref o)]) hx hb dX0_treesOf_52 hl (k := 0) rfl (z_inc j 1) (by decide) (zLvf_h rfl) (fun ls hl => ?_)
        refine lv_goto (tgt := 30) hx hb dX0_treesOf_55 (by decide) ?_
        have G := G.sub (bs' := [w2_34, z]) [1, 0] rfl
        exact ih_30 (j + 1) u w2_34 g3_35 (show bWays T h o md (zWy cr inn k1) (zPl cr inn k1) g1_2 g2_3 g3_35 f4 f5 f6 n4 w2_34 ∧ (j + 1) ≤ (zWy cr inn k1).toInt.toNat from ⟨h_36, by omega⟩) (show (zWy cr inn k1).toInt.toNat - (j + 1) < (zWy cr inn k1).toInt.toNat - j from by omega) _ _ ls G (lv_sub hl [0, 1, 2, 3] rfl)
      · have c_33n : ¬ r_32.toInt = (0 : Int) := fun q => c_33 ((fa_eq _ _).mpr q)
        refine lv_iinc (v := u + 1) (lv' := [(2, .int (u + 1)), (3, .int (nI j)), (0, .ref h), (1, .ref o)]) hx hb dX0_treesOf_45 hl (k := 1) rfl rfl (by decide) (zLvf_h rfl) (fun ls hl => ?_)
        refine lv_aload_n hx hb dX0_treesOf_48 rfl (lv_at hl 2 rfl) ?_
        refine z_Vv (bc := [[zO0 h md (zWy cr inn k1) o (zPl cr inn k1) a1_22 a2_23 a3_24 a4_25 a5_26 a6_27, zAr T 0 a1_22 7 g1_2, zAr T 0 a2_23 7 g2_3, zAr T 0 a3_24 7 y3, zAr T 0 a4_25 n4 f4, zAr T 0 a5_26 n4 f5, zAr T 0 a6_27 n4 f6]]) (br := [z]) (As := []) (rest := []) C G (c_nextRow l T h o md (zWy cr inn k1) (zPl cr inn k1) g1_2 g2_3 y3 f4 f5 f6 n4 ([zO0 h md (zWy cr inn k1) o (zPl cr inn k1) a1_22 a2_23 a3_24 a4_25 a5_26 a6_27, zAr T 0 a1_22 7 g1_2, zAr T 0 a2_23 7 g2_3, zAr T 0 a3_24 7 y3, zAr T 0 a4_25 n4 f4, zAr T 0 a5_26 n4 f5, zAr T 0 a6_27 n4 f6]) hw_30) (kV_RX0_126 C.2.2.2.2 (Nat.le_of_ble_eq_true rfl) (Nat.le_of_ble_eq_true rfl)) [0] [0] rfl rfl (ci := 0) (qc := (RX0, TX0, 10)) rfl rfl (List.mem_flatten.mpr ⟨_, List.mem_of_getElem? (i := 0) rfl, (bWays_mem hw_30).choose_spec⟩) rfl rfl hl.1 dX0_treesOf_49 (Nat.le_of_ble_eq_true rfl) (Nat.le_of_ble_eq_true rfl) (fun b1 H locs hw G => ?_)
        refine zEx2 hw ?_
        intro w2_38 g3_39
        refine zCu2 ?_
        intro hbs9 h_40
        clear hw
        subst hbs9
        have G : zS T A s.heap s [z, w2_38] _ _ := G
        refine lv_iinc (v := nI (j + 1)) (lv' := [(3, .int (nI (j + 1))), (2, .int (u + 1)), (0, .ref h), (1, .ref o)]) hx hb dX0_treesOf_52 hl (k := 1) rfl (z_inc j 1) (by decide) (zLvf_h rfl) (fun ls hl => ?_)
        refine lv_goto (tgt := 30) hx hb dX0_treesOf_55 (by decide) ?_
        have G := G.sub (bs' := [w2_38, z]) [1, 0] rfl
        exact ih_30 (j + 1) (u + 1) w2_38 g3_39 (show bWays T h o md (zWy cr inn k1) (zPl cr inn k1) g1_2 g2_3 g3_39 f4 f5 f6 n4 w2_38 ∧ (j + 1) ≤ (zWy cr inn k1).toInt.toNat from ⟨h_40, by omega⟩) (show (zWy cr inn k1).toInt.toNat - (j + 1) < (zWy cr inn k1).toInt.toNat - j from by omega) _ _ ls G (lv_sub hl [0, 1, 2, 3] rfl)
  · have c_14n : ¬ 7 ≤ i := fun q => c_14 ((nI_leI (a := 7) (b := i) (by omega) (by omega)).mpr q)
    refine lv_aload_n hx hb dX0_treesOf_15 rfl (lv_at hl 2 rfl) ?_
    refine zEx6 hwt ?_
    intro a1_42 a2_43 a3_44 a4_45 a5_46 a6_47 hbs9
    clear hwt
    subst hbs9
    have G : zS T A s.heap s [[zO0 h md (zWy cr inn k1) o (zPl cr inn k1) a1_42 a2_43 a3_44 a4_45 a5_46 a6_47], [zAr T 0 a1_42 7 g1_2], [zAr T 0 a2_43 7 g2_3], [zAr T 0 a3_44 7 x3], [zAr T 0 a4_45 n4 f4], [zAr T 0 a5_46 n4 f5], [zAr T 0 a6_47 n4 f6], z] _ _ := G.re rfl
    refine z_get C G clX0 0 rfl 6 (by decide) m_fl_RX0_25 rfl dX0_treesOf_16 ?_
    refine lv_iload_n hx hb dX0_treesOf_19 rfl (lv_at hl 0 rfl) ?_
    refine lv_iconst (v := 0) hx hb dX0_treesOf_20 (by decide) ?_
    refine z_ist C G 3 rfl (vp_in_nI (by omega) (by decide)) dX0_treesOf_21 (fun H locs G => ?_)
    rw [nI_clamp (by omega)] at G
    have G : zS T A s.heap s [[zO0 h md (zWy cr inn k1) o (zPl cr inn k1) a1_42 a2_43 a3_44 a4_45 a5_46 a6_47], [zAr T 0 a1_42 7 g1_2], [zAr T 0 a2_43 7 g2_3], [zAr T 0 a3_44 7 (upd x3 i 0)], [zAr T 0 a4_45 n4 f4], [zAr T 0 a5_46 n4 f5], [zAr T 0 a6_47 n4 f6], z] _ _ := G
    refine lv_iinc (v := nI (i + 1)) (lv' := [(3, .int (nI (i + 1))), (2, .int 0), (0, .ref h), (1, .ref o)]) hx hb dX0_treesOf_22 hl (k := 0) rfl (z_inc i 1) (by decide) (zLvf_h rfl) (fun ls hl => ?_)
    refine lv_goto (tgt := 9) hx hb dX0_treesOf_25 (by decide) ?_
    have hw_48 : bWays T h o md (zWy cr inn k1) (zPl cr inn k1) g1_2 g2_3 (upd x3 i 0) f4 f5 f6 n4 [zO0 h md (zWy cr inn k1) o (zPl cr inn k1) a1_42 a2_43 a3_44 a4_45 a5_46 a6_47, zAr T 0 a1_42 7 g1_2, zAr T 0 a2_43 7 g2_3, zAr T 0 a3_44 7 (upd x3 i 0), zAr T 0 a4_45 n4 f4, zAr T 0 a5_46 n4 f5, zAr T 0 a6_47 n4 f6] := ⟨a1_42, a2_43, a3_44, a4_45, a5_46, a6_47, rfl⟩
    have G : zS T A s.heap s [[zO0 h md (zWy cr inn k1) o (zPl cr inn k1) a1_42 a2_43 a3_44 a4_45 a5_46 a6_47, zAr T 0 a1_42 7 g1_2, zAr T 0 a2_43 7 g2_3, zAr T 0 a3_44 7 (upd x3 i 0), zAr T 0 a4_45 n4 f4, zAr T 0 a5_46 n4 f5, zAr T 0 a6_47 n4 f6], z] _ _ := G.re rfl
    exact ih_9 (i + 1) ([zO0 h md (zWy cr inn k1) o (zPl cr inn k1) a1_42 a2_43 a3_44 a4_45 a5_46 a6_47, zAr T 0 a1_42 7 g1_2, zAr T 0 a2_43 7 g2_3, zAr T 0 a3_44 7 (upd x3 i 0), zAr T 0 a4_45 n4 f4, zAr T 0 a5_46 n4 f5, zAr T 0 a6_47 n4 f6]) (upd x3 i 0) (show bWays T h o md (zWy cr inn k1) (zPl cr inn k1) g1_2 g2_3 (upd x3 i 0) f4 f5 f6 n4 ([zO0 h md (zWy cr inn k1) o (zPl cr inn k1) a1_42 a2_43 a3_44 a4_45 a5_46 a6_47, zAr T 0 a1_42 7 g1_2, zAr T 0 a2_43 7 g2_3, zAr T 0 a3_44 7 (upd x3 i 0), zAr T 0 a4_45 n4 f4, zAr T 0 a5_46 n4 f5, zAr T 0 a6_47 n4 f6]) ∧ (i + 1) ≤ 7 from ⟨hw_48, by omega⟩) (show 7 - (i + 1) < 7 - i from by omega) _ _ ls G (lv_sub hl [0, 1, 2, 3] rfl)
set_option maxHeartbeats 4000000 in
set_option maxRecDepth 100000 in
/-- c_t_trees -/
theorem c_t_trees (l : Launch) (T : zTy) (xo : Nat) (t : Nat) (im : Nat) (mk : Nat) (rd : Nat) (po : Nat) (co : Nat) (tr : Nat) (wa : Nat) (wb_ : Nat) (fi : Nat) (cd : Nat) (l0 : Nat) (l1 : Nat) (d0 : Nat) (d1 : Nat) (g0 : Nat) (g1 : Nat) (ln : Int32) (fl : Int32) (pl : Int32) (ft : Nat → Int32) (fk : Nat → Int32) (wt : va_W) (cr0_ : Int32) (inn0_ : Int32) (k10_ : Nat → Int32) (k20_ : Nat → Int32) (k30_ : Nat → Int32) (k40_ : Nat → Int32) (z0_ : va_W) (cr1_ : Int32) (inn1_ : Int32) (k11_ : Nat → Int32) (k21_ : Nat → Int32) (k31_ : Nat → Int32) (k41_ : Nat → Int32) (z1_ : va_W) (laA : Nat) (mdA : Int32) (wyA : Int32) (pc_A : Int32) (f1A : Nat → Int32) (f2A : Nat → Int32) (f3A : Nat → Int32) (f4A : Nat → Int32) (f5A : Nat → Int32) (f6A : Nat → Int32) (n4A : Nat) (wwA : va_W) (laB : Nat) (mdB : Int32) (wyB : Int32) (pc_B : Int32) (f1B : Nat → Int32) (f2B : Nat → Int32) (f3B : Nat → Int32) (f4B : Nat → Int32) (f5B : Nat → Int32) (f6B : Nat → Int32) (n4B : Nat) (wwB : va_W) (i1 : Int32) (ht : bTold T t l0 l1 d0 d1 g0 g1 ln fl pl ft fk wt) (hK : zKT fk) (hz0_ : bLand T l0 cr0_ inn0_ k10_ k20_ k30_ k40_ z0_) (hI0_ : zLI cr0_ k10_ k30_) (hz1_ : bLand T l1 cr1_ inn1_ k11_ k21_ k31_ k41_ z1_) (hI1_ : zLI cr1_ k11_ k31_) (hwwA : bWays T wa laA mdA wyA pc_A f1A f2A f3A f4A f5A f6A n4A wwA) (hpwA : zPw n4A) (hmdA : mdA = 0 ∨ laA = l0) (hwmA : 0 ≤ wyA.toInt ∧ wyA.toInt ≤ 16384) (hTbA : mdA = 0 ∨ zTab cr0_ inn0_ k10_ k20_ wyA pc_A f1A f2A f5A n4A) (hLq0 : zLq cr0_ k10_ k20_) (hwwB : bWays T wb_ laB mdB wyB pc_B f1B f2B f3B f4B f5B f6B n4B wwB) (hpwB : zPw n4B) (hmdB : mdB = 0 ∨ laB = l1) (hwmB : 0 ≤ wyB.toInt ∧ wyB.toInt ≤ 16384) (hTbB : mdB = 0 ∨ zTab cr1_ inn1_ k11_ k21_ wyB pc_B f1B f2B f5B n4B) (hLq1 : zLq cr1_ k11_ k21_) : zMi l T yX11_trees cX11_trees 4 (some .int) 6 0 0 [.ref xo, .int i1] [[zO10 xo t im mk rd po co tr wa wb_ fi cd], wt, z0_, z1_, wwA, wwB] (fun (r : Int32) bs => ∃ (laA_2 : Nat) (mdA_2 : Int32) (wyA_2 : Int32) (pc_A_2 : Int32) (f1A_2 : Nat → Int32) (f2A_2 : Nat → Int32) (f3A_2 : Nat → Int32) (f4A_2 : Nat → Int32) (f5A_2 : Nat → Int32) (f6A_2 : Nat → Int32) (n4A_2 : Nat) (wwA_2 : va_W) (laB_2 : Nat) (mdB_2 : Int32) (wyB_2 : Int32) (pc_B_2 : Int32) (f1B_2 : Nat → Int32) (f2B_2 : Nat → Int32) (f3B_2 : Nat → Int32) (f4B_2 : Nat → Int32) (f5B_2 : Nat → Int32) (f6B_2 : Nat → Int32) (n4B_2 : Nat) (wwB_2 : va_W), bs = [[zO10 xo t im mk rd po co tr wa wb_ fi cd], wt, z0_, z1_, wwA_2, wwB_2] ∧ bWays T wa laA_2 mdA_2 wyA_2 pc_A_2 f1A_2 f2A_2 f3A_2 f4A_2 f5A_2 f6A_2 n4A_2 wwA_2 ∧ (mdA_2 = 0 ∨ laA_2 = l0) ∧ (0 ≤ wyA_2.toInt ∧ wyA_2.toInt ≤ 16384) ∧ n4A_2 = n4A ∧ mdA_2 = mdA ∧ (mdA_2 = 0 ∨ zTab cr0_ inn0_ k10_ k20_ wyA_2 pc_A_2 f1A_2 f2A_2 f5A_2 n4A_2) ∧ bWays T wb_ laB_2 mdB_2 wyB_2 pc_B_2 f1B_2 f2B_2 f3B_2 f4B_2 f5B_2 f6B_2 n4B_2 wwB_2 ∧ (mdB_2 = 0 ∨ laB_2 = l1) ∧ (0 ≤ wyB_2.toInt ∧ wyB_2.toInt ≤ 16384) ∧ n4B_2 = n4B ∧ mdB_2 = mdB ∧ (mdB_2 = 0 ∨ zTab cr1_ inn1_ k11_ k21_ wyB_2 pc_B_2 f1B_2 f2B_2 f5B_2 n4B_2)) := by
  refine zMi_of (own := RX11) (by decide) rfl (Nat.le_of_ble_eq_true rfl) ?_
  intro p e s m args below meth c A ls C hr hlocks hnm hAe G hl
  refine zHide (fun Qz_ hQz_ => ?_)
  have hx := C.1
  have hb := C.2.1
  replace hmdA : zHd (mdA = 0 ∨ laA = l0) := hmdA
  replace hTbA : zHd (mdA = 0 ∨ zTab cr0_ inn0_ k10_ k20_ wyA pc_A f1A f2A f5A n4A) := hTbA
  replace hmdB : zHd (mdB = 0 ∨ laB = l1) := hmdB
  replace hTbB : zHd (mdB = 0 ∨ zTab cr1_ inn1_ k11_ k21_ wyB pc_B f1B f2B f5B n4B) := hTbB
  have hl : lv_has ls 4 [(0, .ref xo), (1, .int i1)] := hl
  refine lv_aload_n hx hb dX11_trees_0 rfl (lv_at hl 0 rfl) ?_
  refine z_get C G clX11 0 rfl 0 (by decide) m_fl_RX11_10 rfl dX11_trees_1 ?_
  refine lv_iload_n hx hb dX11_trees_4 rfl (lv_at hl 1 rfl) ?_
  refine z_Vq (bc := [wt]) (br := [[zO10 xo t im mk rd po co tr wa wb_ fi cd], z0_, z1_, wwA, wwB]) (As := [.int i1]) (rest := []) C G (c_landAt l T t l0 l1 d0 d1 g0 g1 ln fl pl ft fk wt i1 ht) (kV_RX11_121 C.2.2.2.2 (Nat.le_of_ble_eq_true rfl) (Nat.le_of_ble_eq_true rfl)) [1] [1] rfl rfl (ci := 8) (qc := (RX9, TX9, 8)) rfl rfl (List.mem_flatten.mpr ⟨_, List.mem_of_getElem? (i := 0) rfl, (bTold_mem ht).choose_spec⟩) rfl rfl hl.1 dX11_trees_5 (Nat.le_of_ble_eq_true rfl) (Nat.le_of_ble_eq_true rfl) (fun r_2 b1 H locs hw G => ?_)
  refine zAn2 hw ?_
  intro hbs9 hc_1
  clear hw
  subst hbs9
  have G : zS T A s.heap s [[zO10 xo t im mk rd po co tr wa wb_ fi cd], z0_, z1_, wwA, wwB, wt] _ _ := G
  rcases hc_1 with ⟨rfl, h_3⟩ | ⟨rfl, h_4, h_5⟩ | ⟨rfl, h_6, h_7⟩
  · have h_3 : (i1.toInt < 0 ∨ (fk 0).toInt ≤ i1.toInt ∨ 2 ≤ i1.toInt) := h_3
    refine lv_astore_nN (lv' := [(2, .null), (0, .ref xo), (1, .int i1)]) hx hb dX11_trees_8 rfl hl (by decide) (zLvf_h rfl) (fun ls hl => ?_)
    refine lv_aload_nN hx hb dX11_trees_9 rfl (lv_at hl 0 rfl) ?_
    refine lv_ifnonnullN hx hb dX11_trees_10 ?_
    refine lv_iconst (v := (-1)) hx hb dX11_trees_13 (by decide) ?_
    have G := G.sub (bs' := [[zO10 xo t im mk rd po co tr wa wb_ fi cd], wt, z0_, z1_, wwA, wwB]) [0, 5, 1, 2, 3, 4] rfl
    exact z_back hQz_ (z_iret C hr hlocks G (Nat.le_of_ble_eq_true rfl) (Nat.le_of_ble_eq_true rfl) dX11_trees_14 ⟨laA, mdA, wyA, pc_A, f1A, f2A, f3A, f4A, f5A, f6A, n4A, wwA, laB, mdB, wyB, pc_B, f1B, f2B, f3B, f4B, f5B, f6B, n4B, wwB, rfl, hwwA, hmdA, hwmA, rfl, rfl, hTbA, hwwB, hmdB, hwmB, rfl, rfl, hTbB⟩)
  · have h_4 : i1.toInt = 0 := h_4
    have h_5 : 0 < (fk 0).toInt := h_5
    refine lv_astore_n (lv' := [(2, .ref l0), (0, .ref xo), (1, .int i1)]) hx hb dX11_trees_8 rfl hl (by decide) (zLvf_h rfl) (fun ls hl => ?_)
    refine lv_aload_n hx hb dX11_trees_9 rfl (lv_at hl 0 rfl) ?_
    refine lv_ifnonnull (tgt := 15) hx hb dX11_trees_10 (by decide) ?_
    refine lv_iload_n hx hb dX11_trees_15 rfl (lv_at hl 2 rfl) ?_
    refine lv_if_ne (tgt := 26) hx hb dX11_trees_16 (by decide) (fun q => absurd ((fa_eq i1 (0 : Int32)).mpr (by show i1.toInt = (0 : Int); omega)) q) (fun _ => ?_)
    refine lv_aload_n hx hb dX11_trees_19 rfl (lv_at hl 1 rfl) ?_
    refine z_get C G clX11 0 rfl 7 (by decide) m_fl_RX11_55 rfl dX11_trees_20 ?_
    refine lv_goto (tgt := 30) hx hb dX11_trees_23 (by decide) ?_
    refine lv_astore_n (lv' := [(3, .ref wa), (2, .ref l0), (0, .ref xo), (1, .int i1)]) hx hb dX11_trees_30 rfl hl (by decide) (zLvf_h rfl) (fun ls hl => ?_)
    refine lv_aload_n hx hb dX11_trees_31 rfl (lv_at hl 0 rfl) ?_
    refine lv_aload_n hx hb dX11_trees_32 rfl (lv_at hl 1 rfl) ?_
    refine z_Vi (bc := [wwA, z0_]) (br := [[zO10 xo t im mk rd po co tr wa wb_ fi cd], z1_, wwB, wt]) (As := [.ref l0]) (rest := []) C G (c_t_treesOf l T wa laA mdA wyA pc_A f1A f2A f3A f4A f5A f6A n4A wwA l0 cr0_ inn0_ k10_ k20_ k30_ k40_ z0_ hwwA hz0_ (by first | with_reducible assumption | with_reducible rfl | omega | assumption | rfl)) (kV_RX11_268 C.2.2.2.2 (Nat.le_of_ble_eq_true rfl) (Nat.le_of_ble_eq_true rfl)) [3, 1] [1, 1] rfl rfl (ci := 0) (qc := (RX0, TX0, 10)) rfl rfl (List.mem_flatten.mpr ⟨_, List.mem_of_getElem? (i := 0) rfl, (bWays_mem hwwA).choose_spec⟩) rfl rfl hl.1 dX11_trees_33 (Nat.le_of_ble_eq_true rfl) (Nat.le_of_ble_eq_true rfl) (fun r_14 b1 H locs hw G => ?_)
    refine zEx4 hw ?_
    intro w2_8 g1_9 g2_10 g3_11
    refine zCu3 ?_
    intro hbs9 h_12 h_13
    clear hw
    subst hbs9
    have G : zS T A s.heap s [[zO10 xo t im mk rd po co tr wa wb_ fi cd], z1_, wwB, wt, w2_8, z0_] _ _ := G
    have G := G.sub (bs' := [[zO10 xo t im mk rd po co tr wa wb_ fi cd], wt, z0_, z1_, w2_8, wwB]) [0, 3, 5, 1, 4, 2] rfl
    exact z_back hQz_ (z_iret C hr hlocks G (Nat.le_of_ble_eq_true rfl) (Nat.le_of_ble_eq_true rfl) dX11_trees_36 ⟨l0, mdA, (zWy cr0_ inn0_ k10_), (zPl cr0_ inn0_ k10_), g1_9, g2_10, g3_11, f4A, f5A, f6A, n4A, w2_8, laB, mdB, wyB, pc_B, f1B, f2B, f3B, f4B, f5B, f6B, n4B, wwB, rfl, h_12, (Or.inr rfl), (by have q := zWy_in (inn := inn0_) hI0_; omega), rfl, rfl, (hTbA.imp id (fun q => ⟨rfl, rfl, h_13, q.2.2.2⟩)), hwwB, hmdB, hwmB, rfl, rfl, hTbB⟩)
  · have h_6 : i1.toInt = 1 := h_6
    have h_7 : 1 < (fk 0).toInt := h_7
    refine lv_astore_n (lv' := [(2, .ref l1), (0, .ref xo), (1, .int i1)]) hx hb dX11_trees_8 rfl hl (by decide) (zLvf_h rfl) (fun ls hl => ?_)
    refine lv_aload_n hx hb dX11_trees_9 rfl (lv_at hl 0 rfl) ?_
    refine lv_ifnonnull (tgt := 15) hx hb dX11_trees_10 (by decide) ?_
    refine lv_iload_n hx hb dX11_trees_15 rfl (lv_at hl 2 rfl) ?_
    refine lv_if_ne (tgt := 26) hx hb dX11_trees_16 (by decide) (fun _ => ?_) (fun q => absurd q (fun q2 => absurd (show i1.toInt = (0 : Int) from (fa_eq i1 (0 : Int32)).mp q2) (by omega)))
    refine lv_aload_n hx hb dX11_trees_26 rfl (lv_at hl 1 rfl) ?_
    refine z_get C G clX11 0 rfl 8 (by decide) m_fl_RX11_59 rfl dX11_trees_27 ?_
    refine lv_astore_n (lv' := [(3, .ref wb_), (2, .ref l1), (0, .ref xo), (1, .int i1)]) hx hb dX11_trees_30 rfl hl (by decide) (zLvf_h rfl) (fun ls hl => ?_)
    refine lv_aload_n hx hb dX11_trees_31 rfl (lv_at hl 0 rfl) ?_
    refine lv_aload_n hx hb dX11_trees_32 rfl (lv_at hl 1 rfl) ?_
    refine z_Vi (bc := [wwB, z1_]) (br := [[zO10 xo t im mk rd po co tr wa wb_ fi cd], z0_, wwA, wt]) (As := [.ref l1]) (rest := []) C G (c_t_treesOf l T wb_ laB mdB wyB pc_B f1B f2B f3B f4B f5B f6B n4B wwB l1 cr1_ inn1_ k11_ k21_ k31_ k41_ z1_ hwwB hz1_ (by first | with_reducible assumption | with_reducible rfl | omega | assumption | rfl)) (kV_RX11_268 C.2.2.2.2 (Nat.le_of_ble_eq_true rfl) (Nat.le_of_ble_eq_true rfl)) [4, 2] [2, 1] rfl rfl (ci := 0) (qc := (RX0, TX0, 10)) rfl rfl (List.mem_flatten.mpr ⟨_, List.mem_of_getElem? (i := 0) rfl, (bWays_mem hwwB).choose_spec⟩) rfl rfl hl.1 dX11_trees_33 (Nat.le_of_ble_eq_true rfl) (Nat.le_of_ble_eq_true rfl) (fun r_21 b1 H locs hw G => ?_)
    refine zEx4 hw ?_
    intro w2_15 g1_16 g2_17 g3_18
    refine zCu3 ?_
    intro hbs9 h_19 h_20
    clear hw
    subst hbs9
    have G : zS T A s.heap s [[zO10 xo t im mk rd po co tr wa wb_ fi cd], z0_, wwA, wt, w2_15, z1_] _ _ := G
    have G := G.sub (bs' := [[zO10 xo t im mk rd po co tr wa wb_ fi cd], wt, z0_, z1_, wwA, w2_15]) [0, 3, 1, 5, 2, 4] rfl
    exact z_back hQz_ (z_iret C hr hlocks G (Nat.le_of_ble_eq_true rfl) (Nat.le_of_ble_eq_true rfl) dX11_trees_36 ⟨laA, mdA, wyA, pc_A, f1A, f2A, f3A, f4A, f5A, f6A, n4A, wwA, l1, mdB, (zWy cr1_ inn1_ k11_), (zPl cr1_ inn1_ k11_), g1_16, g2_17, g3_18, f4B, f5B, f6B, n4B, w2_15, rfl, hwwA, hmdA, hwmA, rfl, rfl, hTbA, h_19, (Or.inr rfl), (by have q := zWy_in (inn := inn1_) hI1_; omega), rfl, rfl, (hTbB.imp id (fun q => ⟨rfl, rfl, h_20, q.2.2.2⟩))⟩)
set_option maxHeartbeats 4000000 in
set_option maxRecDepth 100000 in
/-- c_t_lot -/
theorem c_t_lot (l : Launch) (T : zTy) (xo : Nat) (t : Nat) (im : Nat) (mk : Nat) (rd : Nat) (po : Nat) (co : Nat) (tr : Nat) (wa : Nat) (wb_ : Nat) (fi : Nat) (cd : Nat) (l0 : Nat) (l1 : Nat) (d0 : Nat) (d1 : Nat) (g0 : Nat) (g1 : Nat) (ln : Int32) (fl : Int32) (pl : Int32) (ft : Nat → Int32) (fk : Nat → Int32) (wt : va_W) (cr0_ : Int32) (inn0_ : Int32) (k10_ : Nat → Int32) (k20_ : Nat → Int32) (k30_ : Nat → Int32) (k40_ : Nat → Int32) (z0_ : va_W) (cr1_ : Int32) (inn1_ : Int32) (k11_ : Nat → Int32) (k21_ : Nat → Int32) (k31_ : Nat → Int32) (k41_ : Nat → Int32) (z1_ : va_W) (laA : Nat) (mdA : Int32) (wyA : Int32) (pc_A : Int32) (f1A : Nat → Int32) (f2A : Nat → Int32) (f3A : Nat → Int32) (f4A : Nat → Int32) (f5A : Nat → Int32) (f6A : Nat → Int32) (n4A : Nat) (wwA : va_W) (laB : Nat) (mdB : Int32) (wyB : Int32) (pc_B : Int32) (f1B : Nat → Int32) (f2B : Nat → Int32) (f3B : Nat → Int32) (f4B : Nat → Int32) (f5B : Nat → Int32) (f6B : Nat → Int32) (n4B : Nat) (wwB : va_W) (i1 : Int32) (a_ : Int32) (b_ : Int32) (w_ : Int32) (ht : bTold T t l0 l1 d0 d1 g0 g1 ln fl pl ft fk wt) (hK : zKT fk) (hz0_ : bLand T l0 cr0_ inn0_ k10_ k20_ k30_ k40_ z0_) (hI0_ : zLI cr0_ k10_ k30_) (hz1_ : bLand T l1 cr1_ inn1_ k11_ k21_ k31_ k41_ z1_) (hI1_ : zLI cr1_ k11_ k31_) (hwwA : bWays T wa laA mdA wyA pc_A f1A f2A f3A f4A f5A f6A n4A wwA) (hpwA : zPw n4A) (hmdA : mdA = 0 ∨ laA = l0) (hwmA : 0 ≤ wyA.toInt ∧ wyA.toInt ≤ 16384) (hTbA : mdA = 0 ∨ zTab cr0_ inn0_ k10_ k20_ wyA pc_A f1A f2A f5A n4A) (hLq0 : zLq cr0_ k10_ k20_) (hwwB : bWays T wb_ laB mdB wyB pc_B f1B f2B f3B f4B f5B f6B n4B wwB) (hpwB : zPw n4B) (hmdB : mdB = 0 ∨ laB = l1) (hwmB : 0 ≤ wyB.toInt ∧ wyB.toInt ≤ 16384) (hTbB : mdB = 0 ∨ zTab cr1_ inn1_ k11_ k21_ wyB pc_B f1B f2B f5B n4B) (hLq1 : zLq cr1_ k11_ k21_) : zMi l T yX11_lot cX11_lot 9 (some .int) 7 3 (6 * (zNA (i1.toInt = 0 ∧ 0 < (fk 0).toInt ∧ 0 ≤ a_.toInt ∧ a_.toInt < cr0_.toInt ∧ a_.toInt < 7 ∧ 0 ≤ b_.toInt ∧ b_.toInt < cr0_.toInt ∧ b_.toInt < 7 ∧ ¬ zBit inn0_ b_ = 0) mdA n4A (zPl cr0_ inn0_ k10_) - n4A) + 6 * (zNA (i1.toInt = 1 ∧ 1 < (fk 0).toInt ∧ 0 ≤ a_.toInt ∧ a_.toInt < cr1_.toInt ∧ a_.toInt < 7 ∧ 0 ≤ b_.toInt ∧ b_.toInt < cr1_.toInt ∧ b_.toInt < 7 ∧ ¬ zBit inn1_ b_ = 0) mdB n4B (zPl cr1_ inn1_ k11_) - n4B)) [.ref xo, .int i1, .int a_, .int b_, .int w_] [[zO10 xo t im mk rd po co tr wa wb_ fi cd], wt, z0_, z1_, wwA, wwB] (fun (r : Int32) bs => ∃ (laA_2 : Nat) (mdA_2 : Int32) (wyA_2 : Int32) (pc_A_2 : Int32) (f1A_2 : Nat → Int32) (f2A_2 : Nat → Int32) (f3A_2 : Nat → Int32) (f4A_2 : Nat → Int32) (f5A_2 : Nat → Int32) (f6A_2 : Nat → Int32) (n4A_2 : Nat) (wwA_2 : va_W) (laB_2 : Nat) (mdB_2 : Int32) (wyB_2 : Int32) (pc_B_2 : Int32) (f1B_2 : Nat → Int32) (f2B_2 : Nat → Int32) (f3B_2 : Nat → Int32) (f4B_2 : Nat → Int32) (f5B_2 : Nat → Int32) (f6B_2 : Nat → Int32) (n4B_2 : Nat) (wwB_2 : va_W), bs = [[zO10 xo t im mk rd po co tr wa wb_ fi cd], wt, z0_, z1_, wwA_2, wwB_2] ∧ bWays T wa laA_2 mdA_2 wyA_2 pc_A_2 f1A_2 f2A_2 f3A_2 f4A_2 f5A_2 f6A_2 n4A_2 wwA_2 ∧ (mdA_2 = 0 ∨ laA_2 = l0) ∧ (0 ≤ wyA_2.toInt ∧ wyA_2.toInt ≤ 16384) ∧ n4A_2 = zNA (i1.toInt = 0 ∧ 0 < (fk 0).toInt ∧ 0 ≤ a_.toInt ∧ a_.toInt < cr0_.toInt ∧ a_.toInt < 7 ∧ 0 ≤ b_.toInt ∧ b_.toInt < cr0_.toInt ∧ b_.toInt < 7 ∧ ¬ zBit inn0_ b_ = 0) mdA n4A (zPl cr0_ inn0_ k10_) ∧ zPw n4A_2 ∧ (¬ mdA = 0 → ¬ mdA_2 = 0) ∧ (mdA_2 = 0 ∨ zTab cr0_ inn0_ k10_ k20_ wyA_2 pc_A_2 f1A_2 f2A_2 f5A_2 n4A_2) ∧ bWays T wb_ laB_2 mdB_2 wyB_2 pc_B_2 f1B_2 f2B_2 f3B_2 f4B_2 f5B_2 f6B_2 n4B_2 wwB_2 ∧ (mdB_2 = 0 ∨ laB_2 = l1) ∧ (0 ≤ wyB_2.toInt ∧ wyB_2.toInt ≤ 16384) ∧ n4B_2 = zNA (i1.toInt = 1 ∧ 1 < (fk 0).toInt ∧ 0 ≤ a_.toInt ∧ a_.toInt < cr1_.toInt ∧ a_.toInt < 7 ∧ 0 ≤ b_.toInt ∧ b_.toInt < cr1_.toInt ∧ b_.toInt < 7 ∧ ¬ zBit inn1_ b_ = 0) mdB n4B (zPl cr1_ inn1_ k11_) ∧ zPw n4B_2 ∧ (¬ mdB = 0 → ¬ mdB_2 = 0) ∧ (mdB_2 = 0 ∨ zTab cr1_ inn1_ k11_ k21_ wyB_2 pc_B_2 f1B_2 f2B_2 f5B_2 n4B_2)) := by
  refine zMi_of (own := RX11) (by decide) rfl (Nat.le_of_ble_eq_true rfl) ?_
  intro p e s m args below meth c A ls C hr hlocks hnm hAe G hl
  refine zHide (fun Qz_ hQz_ => ?_)
  have hx := C.1
  have hb := C.2.1
  replace hmdA : zHd (mdA = 0 ∨ laA = l0) := hmdA
  replace hTbA : zHd (mdA = 0 ∨ zTab cr0_ inn0_ k10_ k20_ wyA pc_A f1A f2A f5A n4A) := hTbA
  replace hmdB : zHd (mdB = 0 ∨ laB = l1) := hmdB
  replace hTbB : zHd (mdB = 0 ∨ zTab cr1_ inn1_ k11_ k21_ wyB pc_B f1B f2B f5B n4B) := hTbB
  have hl : lv_has ls 9 [(0, .ref xo), (1, .int i1), (2, .int a_), (3, .int b_), (4, .int w_)] := hl
  refine lv_aload_n hx hb dX11_lot_0 rfl (lv_at hl 0 rfl) ?_
  refine z_get C G clX11 0 rfl 0 (by decide) m_fl_RX11_10 rfl dX11_lot_1 ?_
  refine lv_iload_n hx hb dX11_lot_4 rfl (lv_at hl 1 rfl) ?_
  refine z_Vq (bc := [wt]) (br := [[zO10 xo t im mk rd po co tr wa wb_ fi cd], z0_, z1_, wwA, wwB]) (As := [.int i1]) (rest := []) C G (c_landAt l T t l0 l1 d0 d1 g0 g1 ln fl pl ft fk wt i1 ht) (kV_RX11_121 C.2.2.2.2 (Nat.le_of_ble_eq_true rfl) (Nat.le_of_ble_eq_true rfl)) [1] [1] rfl rfl (ci := 8) (qc := (RX9, TX9, 8)) rfl rfl (List.mem_flatten.mpr ⟨_, List.mem_of_getElem? (i := 0) rfl, (bTold_mem ht).choose_spec⟩) rfl rfl hl.1 dX11_lot_5 (Nat.le_of_ble_eq_true rfl) (by show _ + 0 ≤ 6 * (zNA (i1.toInt = 0 ∧ 0 < (fk 0).toInt ∧ 0 ≤ a_.toInt ∧ a_.toInt < cr0_.toInt ∧ a_.toInt < 7 ∧ 0 ≤ b_.toInt ∧ b_.toInt < cr0_.toInt ∧ b_.toInt < 7 ∧ ¬ zBit inn0_ b_ = 0) mdA n4A (zPl cr0_ inn0_ k10_) - n4A) + 6 * (zNA (i1.toInt = 1 ∧ 1 < (fk 0).toInt ∧ 0 ≤ a_.toInt ∧ a_.toInt < cr1_.toInt ∧ a_.toInt < 7 ∧ 0 ≤ b_.toInt ∧ b_.toInt < cr1_.toInt ∧ b_.toInt < 7 ∧ ¬ zBit inn1_ b_ = 0) mdB n4B (zPl cr1_ inn1_ k11_) - n4B); omega) (fun r_2 b1 H locs hw G => ?_)
  refine zAn2 hw ?_
  intro hbs9 hc_1
  clear hw
  subst hbs9
  have G : zS T A s.heap s [[zO10 xo t im mk rd po co tr wa wb_ fi cd], z0_, z1_, wwA, wwB, wt] _ _ := G
  rcases hc_1 with ⟨rfl, h_3⟩ | ⟨rfl, h_4, h_5⟩ | ⟨rfl, h_6, h_7⟩
  · have h_3 : (i1.toInt < 0 ∨ (fk 0).toInt ≤ i1.toInt ∨ 2 ≤ i1.toInt) := h_3
    refine lv_astoreN (lv' := [(5, .null), (0, .ref xo), (1, .int i1), (2, .int a_), (3, .int b_), (4, .int w_)]) hx hb dX11_lot_8 hl (by decide) (zLvf_h rfl) (fun ls hl => ?_)
    refine lv_aloadN hx hb dX11_lot_10 (lv_at hl 0 rfl) ?_
    refine lv_ifnullN (tgt := 33) hx hb dX11_lot_12 (by decide) ?_
    refine lv_iconst (v := (-1)) hx hb dX11_lot_33 (by decide) ?_
    have G := G.sub (bs' := [[zO10 xo t im mk rd po co tr wa wb_ fi cd], wt, z0_, z1_, wwA, wwB]) [0, 5, 1, 2, 3, 4] rfl
    exact z_back hQz_ (z_iret C hr hlocks G (Nat.le_of_ble_eq_true rfl) (by omega) dX11_lot_34 ⟨laA, mdA, wyA, pc_A, f1A, f2A, f3A, f4A, f5A, f6A, n4A, wwA, laB, mdB, wyB, pc_B, f1B, f2B, f3B, f4B, f5B, f6B, n4B, wwB, rfl, hwwA, hmdA, hwmA, (by first | exact hNAo.symm | exact (zNA_n (by first | omega | grind)).symm), hpwA, (fun q => q), hTbA, hwwB, hmdB, hwmB, (by first | exact hNAo.symm | exact (zNA_n (by first | omega | grind)).symm), hpwB, (fun q => q), hTbB⟩)
  · have h_4 : i1.toInt = 0 := h_4
    have h_5 : 0 < (fk 0).toInt := h_5
    refine lv_astore (lv' := [(5, .ref l0), (0, .ref xo), (1, .int i1), (2, .int a_), (3, .int b_), (4, .int w_)]) hx hb dX11_lot_8 hl (by decide) (zLvf_h rfl) (fun ls hl => ?_)
    refine lv_aload hx hb dX11_lot_10 (lv_at hl 0 rfl) ?_
    refine lv_ifnull hx hb dX11_lot_12 ?_
    refine lv_aload hx hb dX11_lot_15 (lv_at hl 0 rfl) ?_
    refine lv_iload_n hx hb dX11_lot_17 rfl (lv_at hl 3 rfl) ?_
    refine z_Vi (bc := [z0_]) (br := [[zO10 xo t im mk rd po co tr wa wb_ fi cd], z1_, wwA, wwB, wt]) (As := [.int a_]) (rest := []) C G (c_has l T l0 cr0_ inn0_ k10_ k20_ k30_ k40_ z0_ a_ hz0_) (kV_RX11_160 C.2.2.2.2 (Nat.le_of_ble_eq_true rfl) (Nat.le_of_ble_eq_true rfl)) [1] [1] rfl rfl (ci := 4) (qc := (RX4, TX4, 6)) rfl rfl (List.mem_flatten.mpr ⟨_, List.mem_of_getElem? (i := 0) rfl, (bLand_mem hz0_).choose_spec⟩) rfl rfl hl.1 dX11_lot_18 (Nat.le_of_ble_eq_true rfl) (by show _ + 0 ≤ 6 * (zNA (i1.toInt = 0 ∧ 0 < (fk 0).toInt ∧ 0 ≤ a_.toInt ∧ a_.toInt < cr0_.toInt ∧ a_.toInt < 7 ∧ 0 ≤ b_.toInt ∧ b_.toInt < cr0_.toInt ∧ b_.toInt < 7 ∧ ¬ zBit inn0_ b_ = 0) mdA n4A (zPl cr0_ inn0_ k10_) - n4A) + 6 * (zNA (i1.toInt = 1 ∧ 1 < (fk 0).toInt ∧ 0 ≤ a_.toInt ∧ a_.toInt < cr1_.toInt ∧ a_.toInt < 7 ∧ 0 ≤ b_.toInt ∧ b_.toInt < cr1_.toInt ∧ b_.toInt < 7 ∧ ¬ zBit inn1_ b_ = 0) mdB n4B (zPl cr1_ inn1_ k11_) - n4B); omega) (fun r_9 b1 H locs hw G => ?_)
    refine zAn2 hw ?_
    intro hbs9 hc_8
    clear hw
    subst hbs9
    have G : zS T A s.heap s [[zO10 xo t im mk rd po co tr wa wb_ fi cd], z1_, wwA, wwB, wt, z0_] _ _ := G
    rcases hc_8 with ⟨rfl, h_10, h_11, h_12⟩ | ⟨rfl, h_13⟩
    · have h_10 : 0 ≤ a_.toInt := h_10
      have h_11 : a_.toInt < cr0_.toInt := h_11
      have h_12 : a_.toInt < 7 := h_12
      refine lv_if_eq (tgt := 33) hx hb dX11_lot_21 (by decide) (fun q => absurd q (by decide)) (fun _ => ?_)
      refine lv_aload hx hb dX11_lot_24 (lv_at hl 0 rfl) ?_
      refine lv_iload_n hx hb dX11_lot_26 rfl (lv_at hl 4 rfl) ?_
      refine z_Vi (bc := [z0_]) (br := [[zO10 xo t im mk rd po co tr wa wb_ fi cd], z1_, wwA, wwB, wt]) (As := [.int b_]) (rest := []) C G (c_isInn l T l0 cr0_ inn0_ k10_ k20_ k30_ k40_ z0_ b_ hz0_) (kV_RX11_174 C.2.2.2.2 (Nat.le_of_ble_eq_true rfl) (Nat.le_of_ble_eq_true rfl)) [5] [5] rfl rfl (ci := 4) (qc := (RX4, TX4, 6)) rfl rfl (List.mem_flatten.mpr ⟨_, List.mem_of_getElem? (i := 0) rfl, (bLand_mem hz0_).choose_spec⟩) rfl rfl hl.1 dX11_lot_27 (Nat.le_of_ble_eq_true rfl) (by show _ + 0 ≤ 6 * (zNA (i1.toInt = 0 ∧ 0 < (fk 0).toInt ∧ 0 ≤ a_.toInt ∧ a_.toInt < cr0_.toInt ∧ a_.toInt < 7 ∧ 0 ≤ b_.toInt ∧ b_.toInt < cr0_.toInt ∧ b_.toInt < 7 ∧ ¬ zBit inn0_ b_ = 0) mdA n4A (zPl cr0_ inn0_ k10_) - n4A) + 6 * (zNA (i1.toInt = 1 ∧ 1 < (fk 0).toInt ∧ 0 ≤ a_.toInt ∧ a_.toInt < cr1_.toInt ∧ a_.toInt < 7 ∧ 0 ≤ b_.toInt ∧ b_.toInt < cr1_.toInt ∧ b_.toInt < 7 ∧ ¬ zBit inn1_ b_ = 0) mdB n4B (zPl cr1_ inn1_ k11_) - n4B); omega) (fun r_15 b1 H locs hw G => ?_)
      refine zAn2 hw ?_
      intro hbs9 hc_14
      clear hw
      subst hbs9
      have G : zS T A s.heap s [[zO10 xo t im mk rd po co tr wa wb_ fi cd], z1_, wwA, wwB, wt, z0_] _ _ := G
      rcases hc_14 with ⟨rfl, h_16, h_17, h_18, h_19⟩ | ⟨rfl, h_20⟩
      · have h_16 : 0 ≤ b_.toInt := h_16
        have h_17 : b_.toInt < cr0_.toInt := h_17
        have h_18 : b_.toInt < 7 := h_18
        have h_19 : ¬ zBit inn0_ b_ = 0 := h_19
        refine lv_if_ne (tgt := 35) hx hb dX11_lot_30 (by decide) (fun _ => ?_) (fun q => absurd q (by decide))
        refine lv_aload_n hx hb dX11_lot_35 rfl (lv_at hl 1 rfl) ?_
        refine lv_iload_n hx hb dX11_lot_36 rfl (lv_at hl 2 rfl) ?_
        refine lv_aload hx hb dX11_lot_37 (lv_at hl 0 rfl) ?_
        have hNAm : zNA (i1.toInt = 0 ∧ 0 < (fk 0).toInt ∧ 0 ≤ a_.toInt ∧ a_.toInt < cr0_.toInt ∧ a_.toInt < 7 ∧ 0 ≤ b_.toInt ∧ b_.toInt < cr0_.toInt ∧ b_.toInt < 7 ∧ ¬ zBit inn0_ b_ = 0) mdA n4A (zPl cr0_ inn0_ k10_) = zMk mdA n4A (zPl cr0_ inn0_ k10_) := zNA_y (by first | omega | (repeat' (first | omega | assumption | constructor)))
        have hNAo : zNA (i1.toInt = 1 ∧ 1 < (fk 0).toInt ∧ 0 ≤ a_.toInt ∧ a_.toInt < cr1_.toInt ∧ a_.toInt < 7 ∧ 0 ≤ b_.toInt ∧ b_.toInt < cr1_.toInt ∧ b_.toInt < 7 ∧ ¬ zBit inn1_ b_ = 0) mdB n4B (zPl cr1_ inn1_ k11_) = n4B := zNA_n (by omega)
        have hn9 : zMk mdA n4A (zPl cr0_ inn0_ k10_) ≤ 131072 := zPw_le (zMk_pw hpwA)
        refine z_Vq (bc := [[zO10 xo t im mk rd po co tr wa wb_ fi cd], wwA, z0_]) (br := [z1_, wwB, wt]) (As := [.int i1, .ref l0]) (rest := []) C G (c_f_waysInA l T xo t im mk rd po co tr wa wb_ fi cd i1 laA mdA wyA pc_A f1A f2A f3A f4A f5A f6A n4A wwA l0 cr0_ inn0_ k10_ k20_ k30_ k40_ z0_ hwwA hz0_ hI0_ hpwA hmdA (kaOk hI0_ hLq0).1 hTbA (by omega)) (kV_RX11_235 C.2.2.2.2 (Nat.le_of_ble_eq_true rfl) (Nat.le_of_ble_eq_true rfl)) [0, 2, 5] [0, 1, 2] rfl rfl (ci := 10) (qc := (RX11, TX11, 11)) rfl rfl (List.mem_flatten.mpr ⟨_, List.mem_of_getElem? (i := 0) rfl, List.mem_cons_self⟩) rfl rfl hl.1 dX11_lot_39 (Nat.le_of_ble_eq_true rfl) (by show _ + (6 * (zMk mdA n4A (zPl cr0_ inn0_ k10_) - n4A)) ≤ 6 * (zNA (i1.toInt = 0 ∧ 0 < (fk 0).toInt ∧ 0 ≤ a_.toInt ∧ a_.toInt < cr0_.toInt ∧ a_.toInt < 7 ∧ 0 ≤ b_.toInt ∧ b_.toInt < cr0_.toInt ∧ b_.toInt < 7 ∧ ¬ zBit inn0_ b_ = 0) mdA n4A (zPl cr0_ inn0_ k10_) - n4A) + 6 * (zNA (i1.toInt = 1 ∧ 1 < (fk 0).toInt ∧ 0 ≤ a_.toInt ∧ a_.toInt < cr1_.toInt ∧ a_.toInt < 7 ∧ 0 ≤ b_.toInt ∧ b_.toInt < cr1_.toInt ∧ b_.toInt < 7 ∧ ¬ zBit inn1_ b_ = 0) mdB n4B (zPl cr1_ inn1_ k11_) - n4B); omega) (fun r_35 b1 H locs hw G => ?_)
        refine zEx9 hw ?_
        intro w2_21 m2_22 wy2_23 pc2_24 g1_25 g2_26 g4_27 g5_28 g6_29
        refine zCu6 ?_
        intro hbs9 h_30 h_31 h_32 h_33 h_34
        clear hw
        subst hbs9
        have G : zS T A s.heap s [z1_, wwB, wt, [zO10 xo t im mk rd po co tr wa wb_ fi cd], w2_21, z0_] _ _ := G
        subst h_30
        have hwy9 : 0 ≤ wy2_23.toInt ∧ wy2_23.toInt ≤ 16384 := by have q9 := zWy_in (inn := inn0_) hI0_; rw [h_32]; exact ⟨by omega, q9.2⟩
        have hp79 : aPr (aW cr0_ inn0_ k10_) 7 ≤ 16384 := aPr_7 hI0_
        have hwN9 : wy2_23 = nI (aPr (aW cr0_ inn0_ k10_) 7) := h_32.trans (zWy_z hI0_)
        have hwT9 : wy2_23.toInt = ((aPr (aW cr0_ inn0_ k10_) 7 : Nat) : Int) := by rw [hwN9, nI_toInt (by omega)]
        have hOk9 := (kaOk (inn := inn0_) hI0_ hLq0).1
        have hc79 := hI0_.1
        refine lv_astore (lv' := [(6, .ref wa), (5, .ref l0), (0, .ref xo), (1, .int i1), (2, .int a_), (3, .int b_), (4, .int w_)]) hx hb dX11_lot_42 hl (by decide) (zLvf_h rfl) (fun ls hl => ?_)
        refine lv_iconst (v := 0) hx hb dX11_lot_44 (by decide) ?_
        refine lv_istore (lv' := [(7, .int 0), (6, .ref wa), (5, .ref l0), (0, .ref xo), (1, .int i1), (2, .int a_), (3, .int b_), (4, .int w_)]) hx hb dX11_lot_45 hl (by decide) (zLvf_h rfl) (fun ls hl => ?_)
        refine lv_iconst (v := 0) hx hb dX11_lot_47 (by decide) ?_
        refine lv_istore (lv' := [(8, .int 0), (7, .int 0), (6, .ref wa), (5, .ref l0), (0, .ref xo), (1, .int i1), (2, .int a_), (3, .int b_), (4, .int w_)]) hx hb dX11_lot_48 hl (by decide) (zLvf_h rfl) (fun ls hl => ?_)
        refine zEx6 h_31 ?_
        intro a1_36 a2_37 a3_38 a4_39 a5_40 a6_41 hbs9
        clear h_31
        subst hbs9
        have G : zS T A s.heap s [z1_, wwB, wt, [zO10 xo t im mk rd po co tr wa wb_ fi cd], [zO0 wa m2_22 wy2_23 l0 pc2_24 a1_36 a2_37 a3_38 a4_39 a5_40 a6_41], [zAr T 0 a1_36 7 g1_25], [zAr T 0 a2_37 7 g2_26], [zAr T 0 a3_38 7 f3A], [zAr T 0 a4_39 (zMk mdA n4A (zPl cr0_ inn0_ k10_)) g4_27], [zAr T 0 a5_40 (zMk mdA n4A (zPl cr0_ inn0_ k10_)) g5_28], [zAr T 0 a6_41 (zMk mdA n4A (zPl cr0_ inn0_ k10_)) g6_29], z0_] _ _ := G.re rfl
        have hw_42 : bWays T wa l0 m2_22 wy2_23 pc2_24 g1_25 g2_26 f3A g4_27 g5_28 g6_29 (zMk mdA n4A (zPl cr0_ inn0_ k10_)) [zO0 wa m2_22 wy2_23 l0 pc2_24 a1_36 a2_37 a3_38 a4_39 a5_40 a6_41, zAr T 0 a1_36 7 g1_25, zAr T 0 a2_37 7 g2_26, zAr T 0 a3_38 7 f3A, zAr T 0 a4_39 (zMk mdA n4A (zPl cr0_ inn0_ k10_)) g4_27, zAr T 0 a5_40 (zMk mdA n4A (zPl cr0_ inn0_ k10_)) g5_28, zAr T 0 a6_41 (zMk mdA n4A (zPl cr0_ inn0_ k10_)) g6_29] := ⟨a1_36, a2_37, a3_38, a4_39, a5_40, a6_41, rfl⟩
        have G : zS T A s.heap s [z1_, wwB, wt, [zO10 xo t im mk rd po co tr wa wb_ fi cd], [zO0 wa m2_22 wy2_23 l0 pc2_24 a1_36 a2_37 a3_38 a4_39 a5_40 a6_41, zAr T 0 a1_36 7 g1_25, zAr T 0 a2_37 7 g2_26, zAr T 0 a3_38 7 f3A, zAr T 0 a4_39 (zMk mdA n4A (zPl cr0_ inn0_ k10_)) g4_27, zAr T 0 a5_40 (zMk mdA n4A (zPl cr0_ inn0_ k10_)) g5_28, zAr T 0 a6_41 (zMk mdA n4A (zPl cr0_ inn0_ k10_)) g6_29], z0_] _ _ := G.re rfl
        refine z_lp2 (T := T) 50 (fun (i : Nat) (u7 : Int32) => [z1_, wwB, wt, [zO10 xo t im mk rd po co tr wa wb_ fi cd], [zO0 wa m2_22 wy2_23 l0 pc2_24 a1_36 a2_37 a3_38 a4_39 a5_40 a6_41, zAr T 0 a1_36 7 g1_25, zAr T 0 a2_37 7 g2_26, zAr T 0 a3_38 7 f3A, zAr T 0 a4_39 (zMk mdA n4A (zPl cr0_ inn0_ k10_)) g4_27, zAr T 0 a5_40 (zMk mdA n4A (zPl cr0_ inn0_ k10_)) g5_28, zAr T 0 a6_41 (zMk mdA n4A (zPl cr0_ inn0_ k10_)) g6_29], z0_]) (fun (i : Nat) (u7 : Int32) => [(8, .int (nI i)), (7, .int u7), (6, .ref wa), (5, .ref l0), (0, .ref xo), (1, .int i1), (2, .int a_), (3, .int b_), (4, .int w_)]) (fun (i : Nat) (u7 : Int32) => i ≤ aPr (aW cr0_ inn0_ k10_) 7) (fun (i : Nat) (u7 : Int32) => aPr (aW cr0_ inn0_ k10_) 7 - i) ?_ 0 0 (show 0 ≤ aPr (aW cr0_ inn0_ k10_) 7 from (Nat.zero_le _)) G (lv_sub hl [0, 1, 2, 3, 4, 5, 6, 7, 8] rfl)
        intro i u7 hi ih_50 H locs ls G hl
        replace hi : i ≤ aPr (aW cr0_ inn0_ k10_) 7 := hi
        replace G : zS T A s.heap s [z1_, wwB, wt, [zO10 xo t im mk rd po co tr wa wb_ fi cd], [zO0 wa m2_22 wy2_23 l0 pc2_24 a1_36 a2_37 a3_38 a4_39 a5_40 a6_41, zAr T 0 a1_36 7 g1_25, zAr T 0 a2_37 7 g2_26, zAr T 0 a3_38 7 f3A, zAr T 0 a4_39 (zMk mdA n4A (zPl cr0_ inn0_ k10_)) g4_27, zAr T 0 a5_40 (zMk mdA n4A (zPl cr0_ inn0_ k10_)) g5_28, zAr T 0 a6_41 (zMk mdA n4A (zPl cr0_ inn0_ k10_)) g6_29], z0_] _ _ := G
        replace hl : lv_has ls 9 [(8, .int (nI i)), (7, .int u7), (6, .ref wa), (5, .ref l0), (0, .ref xo), (1, .int i1), (2, .int a_), (3, .int b_), (4, .int w_)] := hl
        refine lv_iload hx hb dX11_lot_50 (lv_at hl 0 rfl) ?_
        refine lv_aload hx hb dX11_lot_52 (lv_at hl 2 rfl) ?_
        have G : zS T A s.heap s [z1_, wwB, wt, [zO10 xo t im mk rd po co tr wa wb_ fi cd], [zO0 wa m2_22 wy2_23 l0 pc2_24 a1_36 a2_37 a3_38 a4_39 a5_40 a6_41], [zAr T 0 a1_36 7 g1_25], [zAr T 0 a2_37 7 g2_26], [zAr T 0 a3_38 7 f3A], [zAr T 0 a4_39 (zMk mdA n4A (zPl cr0_ inn0_ k10_)) g4_27], [zAr T 0 a5_40 (zMk mdA n4A (zPl cr0_ inn0_ k10_)) g5_28], [zAr T 0 a6_41 (zMk mdA n4A (zPl cr0_ inn0_ k10_)) g6_29], z0_] _ _ := G.re rfl
        refine z_get C G clX0 4 rfl 1 (by decide) m_fl_RX11_257 rfl dX11_lot_54 ?_
        refine lv_icmp_ge (tgt := 81) hx hb dX11_lot_57 (by decide) (fun c_43 => ?_) (fun c_43 => ?_)
        · have c_43n : wy2_23.toInt ≤ (i : Int) := by have q := (fa_le _ _).mp c_43; rw [nI_toInt (n := i) (by omega)] at q; exact q
          refine lv_iload hx hb dX11_lot_81 (lv_at hl 1 rfl) ?_
          refine lv_aload hx hb dX11_lot_83 (lv_at hl 2 rfl) ?_
          refine z_get C G clX0 4 rfl 1 (by decide) m_fl_RX11_257 rfl dX11_lot_85 ?_
          refine lv_iload hx hb dX11_lot_88 (lv_at hl 8 rfl) ?_
          refine z_Si (bc := []) (br := [z1_, wwB, wt, [zO10 xo t im mk rd po co tr wa wb_ fi cd], [zO0 wa m2_22 wy2_23 l0 pc2_24 a1_36 a2_37 a3_38 a4_39 a5_40 a6_41], [zAr T 0 a1_36 7 g1_25], [zAr T 0 a2_37 7 g2_26], [zAr T 0 a3_38 7 f3A], [zAr T 0 a4_39 (zMk mdA n4A (zPl cr0_ inn0_ k10_)) g4_27], [zAr T 0 a5_40 (zMk mdA n4A (zPl cr0_ inn0_ k10_)) g5_28], [zAr T 0 a6_41 (zMk mdA n4A (zPl cr0_ inn0_ k10_)) g6_29], z0_]) (As := [.int u7, .int wy2_23, .int w_]) (rest := []) C G (c_inLeastTerms l T u7 wy2_23 w_) (kS_RX11_262 C.2.2.2.2 (Nat.le_of_ble_eq_true rfl) (Nat.le_of_ble_eq_true rfl)) [] [] rfl rfl rfl rfl hl.1 dX11_lot_90 (Nat.le_of_ble_eq_true rfl) (by show _ + 0 ≤ 6 * (zNA (i1.toInt = 0 ∧ 0 < (fk 0).toInt ∧ 0 ≤ a_.toInt ∧ a_.toInt < cr0_.toInt ∧ a_.toInt < 7 ∧ 0 ≤ b_.toInt ∧ b_.toInt < cr0_.toInt ∧ b_.toInt < 7 ∧ ¬ zBit inn0_ b_ = 0) mdA n4A (zPl cr0_ inn0_ k10_) - n4A) + 6 * (zNA (i1.toInt = 1 ∧ 1 < (fk 0).toInt ∧ 0 ≤ a_.toInt ∧ a_.toInt < cr1_.toInt ∧ a_.toInt < 7 ∧ 0 ≤ b_.toInt ∧ b_.toInt < cr1_.toInt ∧ b_.toInt < 7 ∧ ¬ zBit inn1_ b_ = 0) mdB n4B (zPl cr1_ inn1_ k11_) - n4B); omega) (fun r_44 b1 H locs hw G => ?_)
          obtain rfl := hw
          have G : zS T A s.heap s [z1_, wwB, wt, [zO10 xo t im mk rd po co tr wa wb_ fi cd], [zO0 wa m2_22 wy2_23 l0 pc2_24 a1_36 a2_37 a3_38 a4_39 a5_40 a6_41], [zAr T 0 a1_36 7 g1_25], [zAr T 0 a2_37 7 g2_26], [zAr T 0 a3_38 7 f3A], [zAr T 0 a4_39 (zMk mdA n4A (zPl cr0_ inn0_ k10_)) g4_27], [zAr T 0 a5_40 (zMk mdA n4A (zPl cr0_ inn0_ k10_)) g5_28], [zAr T 0 a6_41 (zMk mdA n4A (zPl cr0_ inn0_ k10_)) g6_29], z0_] _ _ := G
          have hw_45 : bWays T wa l0 m2_22 wy2_23 pc2_24 g1_25 g2_26 f3A g4_27 g5_28 g6_29 (zMk mdA n4A (zPl cr0_ inn0_ k10_)) [zO0 wa m2_22 wy2_23 l0 pc2_24 a1_36 a2_37 a3_38 a4_39 a5_40 a6_41, zAr T 0 a1_36 7 g1_25, zAr T 0 a2_37 7 g2_26, zAr T 0 a3_38 7 f3A, zAr T 0 a4_39 (zMk mdA n4A (zPl cr0_ inn0_ k10_)) g4_27, zAr T 0 a5_40 (zMk mdA n4A (zPl cr0_ inn0_ k10_)) g5_28, zAr T 0 a6_41 (zMk mdA n4A (zPl cr0_ inn0_ k10_)) g6_29] := ⟨a1_36, a2_37, a3_38, a4_39, a5_40, a6_41, rfl⟩
          have G : zS T A s.heap s [z1_, wwB, wt, [zO10 xo t im mk rd po co tr wa wb_ fi cd], [zO0 wa m2_22 wy2_23 l0 pc2_24 a1_36 a2_37 a3_38 a4_39 a5_40 a6_41, zAr T 0 a1_36 7 g1_25, zAr T 0 a2_37 7 g2_26, zAr T 0 a3_38 7 f3A, zAr T 0 a4_39 (zMk mdA n4A (zPl cr0_ inn0_ k10_)) g4_27, zAr T 0 a5_40 (zMk mdA n4A (zPl cr0_ inn0_ k10_)) g5_28, zAr T 0 a6_41 (zMk mdA n4A (zPl cr0_ inn0_ k10_)) g6_29], z0_] _ _ := G.re rfl
          have G := G.sub (bs' := [[zO10 xo t im mk rd po co tr wa wb_ fi cd], wt, z0_, z1_, [zO0 wa m2_22 wy2_23 l0 pc2_24 a1_36 a2_37 a3_38 a4_39 a5_40 a6_41, zAr T 0 a1_36 7 g1_25, zAr T 0 a2_37 7 g2_26, zAr T 0 a3_38 7 f3A, zAr T 0 a4_39 (zMk mdA n4A (zPl cr0_ inn0_ k10_)) g4_27, zAr T 0 a5_40 (zMk mdA n4A (zPl cr0_ inn0_ k10_)) g5_28, zAr T 0 a6_41 (zMk mdA n4A (zPl cr0_ inn0_ k10_)) g6_29], wwB]) [3, 2, 5, 0, 4, 1] rfl
          exact z_back hQz_ (z_iret C hr hlocks G (Nat.le_of_ble_eq_true rfl) (by omega) dX11_lot_93 ⟨l0, m2_22, wy2_23, pc2_24, g1_25, g2_26, f3A, g4_27, g5_28, g6_29, (zMk mdA n4A (zPl cr0_ inn0_ k10_)), ([zO0 wa m2_22 wy2_23 l0 pc2_24 a1_36 a2_37 a3_38 a4_39 a5_40 a6_41, zAr T 0 a1_36 7 g1_25, zAr T 0 a2_37 7 g2_26, zAr T 0 a3_38 7 f3A, zAr T 0 a4_39 (zMk mdA n4A (zPl cr0_ inn0_ k10_)) g4_27, zAr T 0 a5_40 (zMk mdA n4A (zPl cr0_ inn0_ k10_)) g5_28, zAr T 0 a6_41 (zMk mdA n4A (zPl cr0_ inn0_ k10_)) g6_29]), laB, mdB, wyB, pc_B, f1B, f2B, f3B, f4B, f5B, f6B, n4B, wwB, rfl, hw_45, (Or.inr rfl), hwy9, hNAm.symm, (zMk_pw hpwA), (fun _ => h_33), (Or.inr h_34), hwwB, hmdB, hwmB, (by first | exact hNAo.symm | exact (zNA_n (by first | omega | grind)).symm), hpwB, (fun q => q), hTbB⟩)
        · have c_43n : ¬ wy2_23.toInt ≤ (i : Int) := fun q => c_43 ((fa_le _ _).mpr (by rw [nI_toInt (n := i) (by omega)]; exact q))
          refine lv_aload hx hb dX11_lot_60 (lv_at hl 2 rfl) ?_
          refine lv_iload hx hb dX11_lot_62 (lv_at hl 0 rfl) ?_
          refine lv_iload_n hx hb dX11_lot_64 rfl (lv_at hl 6 rfl) ?_
          have hw_46 : bWays T wa l0 m2_22 wy2_23 pc2_24 g1_25 g2_26 f3A g4_27 g5_28 g6_29 (zMk mdA n4A (zPl cr0_ inn0_ k10_)) [zO0 wa m2_22 wy2_23 l0 pc2_24 a1_36 a2_37 a3_38 a4_39 a5_40 a6_41, zAr T 0 a1_36 7 g1_25, zAr T 0 a2_37 7 g2_26, zAr T 0 a3_38 7 f3A, zAr T 0 a4_39 (zMk mdA n4A (zPl cr0_ inn0_ k10_)) g4_27, zAr T 0 a5_40 (zMk mdA n4A (zPl cr0_ inn0_ k10_)) g5_28, zAr T 0 a6_41 (zMk mdA n4A (zPl cr0_ inn0_ k10_)) g6_29] := ⟨a1_36, a2_37, a3_38, a4_39, a5_40, a6_41, rfl⟩
          have G : zS T A s.heap s [z1_, wwB, wt, [zO10 xo t im mk rd po co tr wa wb_ fi cd], [zO0 wa m2_22 wy2_23 l0 pc2_24 a1_36 a2_37 a3_38 a4_39 a5_40 a6_41, zAr T 0 a1_36 7 g1_25, zAr T 0 a2_37 7 g2_26, zAr T 0 a3_38 7 f3A, zAr T 0 a4_39 (zMk mdA n4A (zPl cr0_ inn0_ k10_)) g4_27, zAr T 0 a5_40 (zMk mdA n4A (zPl cr0_ inn0_ k10_)) g5_28, zAr T 0 a6_41 (zMk mdA n4A (zPl cr0_ inn0_ k10_)) g6_29], z0_] _ _ := G.re rfl
          refine z_Vi (bc := [[zO0 wa m2_22 wy2_23 l0 pc2_24 a1_36 a2_37 a3_38 a4_39 a5_40 a6_41, zAr T 0 a1_36 7 g1_25, zAr T 0 a2_37 7 g2_26, zAr T 0 a3_38 7 f3A, zAr T 0 a4_39 (zMk mdA n4A (zPl cr0_ inn0_ k10_)) g4_27, zAr T 0 a5_40 (zMk mdA n4A (zPl cr0_ inn0_ k10_)) g5_28, zAr T 0 a6_41 (zMk mdA n4A (zPl cr0_ inn0_ k10_)) g6_29]]) (br := [z1_, wwB, wt, [zO10 xo t im mk rd po co tr wa wb_ fi cd], z0_]) (As := [.int (nI i), .int a_]) (rest := []) C G (c_where l T wa l0 m2_22 wy2_23 pc2_24 g1_25 g2_26 f3A g4_27 g5_28 g6_29 (zMk mdA n4A (zPl cr0_ inn0_ k10_)) ([zO0 wa m2_22 wy2_23 l0 pc2_24 a1_36 a2_37 a3_38 a4_39 a5_40 a6_41, zAr T 0 a1_36 7 g1_25, zAr T 0 a2_37 7 g2_26, zAr T 0 a3_38 7 f3A, zAr T 0 a4_39 (zMk mdA n4A (zPl cr0_ inn0_ k10_)) g4_27, zAr T 0 a5_40 (zMk mdA n4A (zPl cr0_ inn0_ k10_)) g5_28, zAr T 0 a6_41 (zMk mdA n4A (zPl cr0_ inn0_ k10_)) g6_29]) (nI i) a_ hw_46 (by first | with_reducible assumption | with_reducible rfl | omega | assumption | rfl)) (kV_RX11_260 C.2.2.2.2 (Nat.le_of_ble_eq_true rfl) (Nat.le_of_ble_eq_true rfl)) [4] [4] rfl rfl (ci := 0) (qc := (RX0, TX0, 10)) rfl rfl (List.mem_flatten.mpr ⟨_, List.mem_of_getElem? (i := 0) rfl, (bWays_mem hw_46).choose_spec⟩) rfl rfl hl.1 dX11_lot_65 (Nat.le_of_ble_eq_true rfl) (by show _ + 0 ≤ 6 * (zNA (i1.toInt = 0 ∧ 0 < (fk 0).toInt ∧ 0 ≤ a_.toInt ∧ a_.toInt < cr0_.toInt ∧ a_.toInt < 7 ∧ 0 ≤ b_.toInt ∧ b_.toInt < cr0_.toInt ∧ b_.toInt < 7 ∧ ¬ zBit inn0_ b_ = 0) mdA n4A (zPl cr0_ inn0_ k10_) - n4A) + 6 * (zNA (i1.toInt = 1 ∧ 1 < (fk 0).toInt ∧ 0 ≤ a_.toInt ∧ a_.toInt < cr1_.toInt ∧ a_.toInt < 7 ∧ 0 ≤ b_.toInt ∧ b_.toInt < cr1_.toInt ∧ b_.toInt < 7 ∧ ¬ zBit inn1_ b_ = 0) mdB n4B (zPl cr1_ inn1_ k11_) - n4B); omega) (fun r_48 b1 H locs hw G => ?_)
          refine zAn2 hw ?_
          intro hbs9 h_47
          clear hw
          subst hbs9
          have G : zS T A s.heap s [z1_, wwB, wt, [zO10 xo t im mk rd po co tr wa wb_ fi cd], z0_, [zO0 wa m2_22 wy2_23 l0 pc2_24 a1_36 a2_37 a3_38 a4_39 a5_40 a6_41, zAr T 0 a1_36 7 g1_25, zAr T 0 a2_37 7 g2_26, zAr T 0 a3_38 7 f3A, zAr T 0 a4_39 (zMk mdA n4A (zPl cr0_ inn0_ k10_)) g4_27, zAr T 0 a5_40 (zMk mdA n4A (zPl cr0_ inn0_ k10_)) g5_28, zAr T 0 a6_41 (zMk mdA n4A (zPl cr0_ inn0_ k10_)) g6_29]] _ _ := G
          subst h_47
          refine lv_iload_n hx hb dX11_lot_68 rfl (lv_at hl 7 rfl) ?_
          refine lv_icmp_ne (tgt := 75) hx hb dX11_lot_69 (by decide) (fun c_49 => ?_) (fun c_49 => ?_)
          · have c_49n : ¬ (zEntry g5_28 (zMk mdA n4A (zPl cr0_ inn0_ k10_)) (nI i) a_ &&& 7).toInt = b_.toInt := fun q => c_49 ((fa_eq _ _).mpr q)
            refine lv_iinc (v := nI (i + 1)) (lv' := [(8, .int (nI (i + 1))), (7, .int u7), (6, .ref wa), (5, .ref l0), (0, .ref xo), (1, .int i1), (2, .int a_), (3, .int b_), (4, .int w_)]) hx hb dX11_lot_75 hl (k := 0) rfl (z_inc i 1) (by decide) (zLvf_h rfl) (fun ls hl => ?_)
            refine lv_goto (tgt := 50) hx hb dX11_lot_78 (by decide) ?_
            have G := G.sub (bs' := [z1_, wwB, wt, [zO10 xo t im mk rd po co tr wa wb_ fi cd], [zO0 wa m2_22 wy2_23 l0 pc2_24 a1_36 a2_37 a3_38 a4_39 a5_40 a6_41, zAr T 0 a1_36 7 g1_25, zAr T 0 a2_37 7 g2_26, zAr T 0 a3_38 7 f3A, zAr T 0 a4_39 (zMk mdA n4A (zPl cr0_ inn0_ k10_)) g4_27, zAr T 0 a5_40 (zMk mdA n4A (zPl cr0_ inn0_ k10_)) g5_28, zAr T 0 a6_41 (zMk mdA n4A (zPl cr0_ inn0_ k10_)) g6_29], z0_]) [0, 1, 2, 3, 5, 4] rfl
            exact ih_50 (i + 1) u7 (show (i + 1) ≤ aPr (aW cr0_ inn0_ k10_) 7 from (by omega)) (show aPr (aW cr0_ inn0_ k10_) 7 - (i + 1) < aPr (aW cr0_ inn0_ k10_) 7 - i from by omega) _ _ ls G (lv_sub hl [0, 1, 2, 3, 4, 5, 6, 7, 8] rfl)
          · have c_49n : (zEntry g5_28 (zMk mdA n4A (zPl cr0_ inn0_ k10_)) (nI i) a_ &&& 7).toInt = b_.toInt := (fa_eq _ _).mp c_49
            refine lv_iinc (v := u7 + 1) (lv' := [(7, .int (u7 + 1)), (8, .int (nI i)), (6, .ref wa), (5, .ref l0), (0, .ref xo), (1, .int i1), (2, .int a_), (3, .int b_), (4, .int w_)]) hx hb dX11_lot_72 hl (k := 1) rfl rfl (by decide) (zLvf_h rfl) (fun ls hl => ?_)
            refine lv_iinc (v := nI (i + 1)) (lv' := [(8, .int (nI (i + 1))), (7, .int (u7 + 1)), (6, .ref wa), (5, .ref l0), (0, .ref xo), (1, .int i1), (2, .int a_), (3, .int b_), (4, .int w_)]) hx hb dX11_lot_75 hl (k := 1) rfl (z_inc i 1) (by decide) (zLvf_h rfl) (fun ls hl => ?_)
            refine lv_goto (tgt := 50) hx hb dX11_lot_78 (by decide) ?_
            have G := G.sub (bs' := [z1_, wwB, wt, [zO10 xo t im mk rd po co tr wa wb_ fi cd], [zO0 wa m2_22 wy2_23 l0 pc2_24 a1_36 a2_37 a3_38 a4_39 a5_40 a6_41, zAr T 0 a1_36 7 g1_25, zAr T 0 a2_37 7 g2_26, zAr T 0 a3_38 7 f3A, zAr T 0 a4_39 (zMk mdA n4A (zPl cr0_ inn0_ k10_)) g4_27, zAr T 0 a5_40 (zMk mdA n4A (zPl cr0_ inn0_ k10_)) g5_28, zAr T 0 a6_41 (zMk mdA n4A (zPl cr0_ inn0_ k10_)) g6_29], z0_]) [0, 1, 2, 3, 5, 4] rfl
            exact ih_50 (i + 1) (u7 + 1) (show (i + 1) ≤ aPr (aW cr0_ inn0_ k10_) 7 from (by omega)) (show aPr (aW cr0_ inn0_ k10_) 7 - (i + 1) < aPr (aW cr0_ inn0_ k10_) 7 - i from by omega) _ _ ls G (lv_sub hl [0, 1, 2, 3, 4, 5, 6, 7, 8] rfl)
      · have h_20 : (b_.toInt < 0 ∨ cr0_.toInt ≤ b_.toInt ∨ 7 ≤ b_.toInt ∨ zBit inn0_ b_ = 0) := h_20
        refine lv_if_ne (tgt := 35) hx hb dX11_lot_30 (by decide) (fun q => absurd (by decide) q) (fun _ => ?_)
        refine lv_iconst (v := (-1)) hx hb dX11_lot_33 (by decide) ?_
        have G := G.sub (bs' := [[zO10 xo t im mk rd po co tr wa wb_ fi cd], wt, z0_, z1_, wwA, wwB]) [0, 4, 5, 1, 2, 3] rfl
        exact z_back hQz_ (z_iret C hr hlocks G (Nat.le_of_ble_eq_true rfl) (by omega) dX11_lot_34 ⟨laA, mdA, wyA, pc_A, f1A, f2A, f3A, f4A, f5A, f6A, n4A, wwA, laB, mdB, wyB, pc_B, f1B, f2B, f3B, f4B, f5B, f6B, n4B, wwB, rfl, hwwA, hmdA, hwmA, (by first | exact hNAo.symm | exact (zNA_n (by first | omega | grind)).symm), hpwA, (fun q => q), hTbA, hwwB, hmdB, hwmB, (by first | exact hNAo.symm | exact (zNA_n (by first | omega | grind)).symm), hpwB, (fun q => q), hTbB⟩)
    · have h_13 : (a_.toInt < 0 ∨ cr0_.toInt ≤ a_.toInt ∨ 7 ≤ a_.toInt) := h_13
      refine lv_if_eq (tgt := 33) hx hb dX11_lot_21 (by decide) (fun _ => ?_) (fun q => absurd (by decide) q)
      refine lv_iconst (v := (-1)) hx hb dX11_lot_33 (by decide) ?_
      have G := G.sub (bs' := [[zO10 xo t im mk rd po co tr wa wb_ fi cd], wt, z0_, z1_, wwA, wwB]) [0, 4, 5, 1, 2, 3] rfl
      exact z_back hQz_ (z_iret C hr hlocks G (Nat.le_of_ble_eq_true rfl) (by omega) dX11_lot_34 ⟨laA, mdA, wyA, pc_A, f1A, f2A, f3A, f4A, f5A, f6A, n4A, wwA, laB, mdB, wyB, pc_B, f1B, f2B, f3B, f4B, f5B, f6B, n4B, wwB, rfl, hwwA, hmdA, hwmA, (by first | exact hNAo.symm | exact (zNA_n (by first | omega | grind)).symm), hpwA, (fun q => q), hTbA, hwwB, hmdB, hwmB, (by first | exact hNAo.symm | exact (zNA_n (by first | omega | grind)).symm), hpwB, (fun q => q), hTbB⟩)
  · have h_6 : i1.toInt = 1 := h_6
    have h_7 : 1 < (fk 0).toInt := h_7
    refine lv_astore (lv' := [(5, .ref l1), (0, .ref xo), (1, .int i1), (2, .int a_), (3, .int b_), (4, .int w_)]) hx hb dX11_lot_8 hl (by decide) (zLvf_h rfl) (fun ls hl => ?_)
    refine lv_aload hx hb dX11_lot_10 (lv_at hl 0 rfl) ?_
    refine lv_ifnull hx hb dX11_lot_12 ?_
    refine lv_aload hx hb dX11_lot_15 (lv_at hl 0 rfl) ?_
    refine lv_iload_n hx hb dX11_lot_17 rfl (lv_at hl 3 rfl) ?_
    refine z_Vi (bc := [z1_]) (br := [[zO10 xo t im mk rd po co tr wa wb_ fi cd], z0_, wwA, wwB, wt]) (As := [.int a_]) (rest := []) C G (c_has l T l1 cr1_ inn1_ k11_ k21_ k31_ k41_ z1_ a_ hz1_) (kV_RX11_160 C.2.2.2.2 (Nat.le_of_ble_eq_true rfl) (Nat.le_of_ble_eq_true rfl)) [2] [2] rfl rfl (ci := 4) (qc := (RX4, TX4, 6)) rfl rfl (List.mem_flatten.mpr ⟨_, List.mem_of_getElem? (i := 0) rfl, (bLand_mem hz1_).choose_spec⟩) rfl rfl hl.1 dX11_lot_18 (Nat.le_of_ble_eq_true rfl) (by show _ + 0 ≤ 6 * (zNA (i1.toInt = 0 ∧ 0 < (fk 0).toInt ∧ 0 ≤ a_.toInt ∧ a_.toInt < cr0_.toInt ∧ a_.toInt < 7 ∧ 0 ≤ b_.toInt ∧ b_.toInt < cr0_.toInt ∧ b_.toInt < 7 ∧ ¬ zBit inn0_ b_ = 0) mdA n4A (zPl cr0_ inn0_ k10_) - n4A) + 6 * (zNA (i1.toInt = 1 ∧ 1 < (fk 0).toInt ∧ 0 ≤ a_.toInt ∧ a_.toInt < cr1_.toInt ∧ a_.toInt < 7 ∧ 0 ≤ b_.toInt ∧ b_.toInt < cr1_.toInt ∧ b_.toInt < 7 ∧ ¬ zBit inn1_ b_ = 0) mdB n4B (zPl cr1_ inn1_ k11_) - n4B); omega) (fun r_51 b1 H locs hw G => ?_)
    refine zAn2 hw ?_
    intro hbs9 hc_50
    clear hw
    subst hbs9
    have G : zS T A s.heap s [[zO10 xo t im mk rd po co tr wa wb_ fi cd], z0_, wwA, wwB, wt, z1_] _ _ := G
    rcases hc_50 with ⟨rfl, h_52, h_53, h_54⟩ | ⟨rfl, h_55⟩
    · have h_52 : 0 ≤ a_.toInt := h_52
      have h_53 : a_.toInt < cr1_.toInt := h_53
      have h_54 : a_.toInt < 7 := h_54
      refine lv_if_eq (tgt := 33) hx hb dX11_lot_21 (by decide) (fun q => absurd q (by decide)) (fun _ => ?_)
      refine lv_aload hx hb dX11_lot_24 (lv_at hl 0 rfl) ?_
      refine lv_iload_n hx hb dX11_lot_26 rfl (lv_at hl 4 rfl) ?_
      refine z_Vi (bc := [z1_]) (br := [[zO10 xo t im mk rd po co tr wa wb_ fi cd], z0_, wwA, wwB, wt]) (As := [.int b_]) (rest := []) C G (c_isInn l T l1 cr1_ inn1_ k11_ k21_ k31_ k41_ z1_ b_ hz1_) (kV_RX11_174 C.2.2.2.2 (Nat.le_of_ble_eq_true rfl) (Nat.le_of_ble_eq_true rfl)) [5] [5] rfl rfl (ci := 4) (qc := (RX4, TX4, 6)) rfl rfl (List.mem_flatten.mpr ⟨_, List.mem_of_getElem? (i := 0) rfl, (bLand_mem hz1_).choose_spec⟩) rfl rfl hl.1 dX11_lot_27 (Nat.le_of_ble_eq_true rfl) (by show _ + 0 ≤ 6 * (zNA (i1.toInt = 0 ∧ 0 < (fk 0).toInt ∧ 0 ≤ a_.toInt ∧ a_.toInt < cr0_.toInt ∧ a_.toInt < 7 ∧ 0 ≤ b_.toInt ∧ b_.toInt < cr0_.toInt ∧ b_.toInt < 7 ∧ ¬ zBit inn0_ b_ = 0) mdA n4A (zPl cr0_ inn0_ k10_) - n4A) + 6 * (zNA (i1.toInt = 1 ∧ 1 < (fk 0).toInt ∧ 0 ≤ a_.toInt ∧ a_.toInt < cr1_.toInt ∧ a_.toInt < 7 ∧ 0 ≤ b_.toInt ∧ b_.toInt < cr1_.toInt ∧ b_.toInt < 7 ∧ ¬ zBit inn1_ b_ = 0) mdB n4B (zPl cr1_ inn1_ k11_) - n4B); omega) (fun r_57 b1 H locs hw G => ?_)
      refine zAn2 hw ?_
      intro hbs9 hc_56
      clear hw
      subst hbs9
      have G : zS T A s.heap s [[zO10 xo t im mk rd po co tr wa wb_ fi cd], z0_, wwA, wwB, wt, z1_] _ _ := G
      rcases hc_56 with ⟨rfl, h_58, h_59, h_60, h_61⟩ | ⟨rfl, h_62⟩
      · have h_58 : 0 ≤ b_.toInt := h_58
        have h_59 : b_.toInt < cr1_.toInt := h_59
        have h_60 : b_.toInt < 7 := h_60
        have h_61 : ¬ zBit inn1_ b_ = 0 := h_61
        refine lv_if_ne (tgt := 35) hx hb dX11_lot_30 (by decide) (fun _ => ?_) (fun q => absurd q (by decide))
        refine lv_aload_n hx hb dX11_lot_35 rfl (lv_at hl 1 rfl) ?_
        refine lv_iload_n hx hb dX11_lot_36 rfl (lv_at hl 2 rfl) ?_
        refine lv_aload hx hb dX11_lot_37 (lv_at hl 0 rfl) ?_
        have hNAm : zNA (i1.toInt = 1 ∧ 1 < (fk 0).toInt ∧ 0 ≤ a_.toInt ∧ a_.toInt < cr1_.toInt ∧ a_.toInt < 7 ∧ 0 ≤ b_.toInt ∧ b_.toInt < cr1_.toInt ∧ b_.toInt < 7 ∧ ¬ zBit inn1_ b_ = 0) mdB n4B (zPl cr1_ inn1_ k11_) = zMk mdB n4B (zPl cr1_ inn1_ k11_) := zNA_y (by first | omega | (repeat' (first | omega | assumption | constructor)))
        have hNAo : zNA (i1.toInt = 0 ∧ 0 < (fk 0).toInt ∧ 0 ≤ a_.toInt ∧ a_.toInt < cr0_.toInt ∧ a_.toInt < 7 ∧ 0 ≤ b_.toInt ∧ b_.toInt < cr0_.toInt ∧ b_.toInt < 7 ∧ ¬ zBit inn0_ b_ = 0) mdA n4A (zPl cr0_ inn0_ k10_) = n4A := zNA_n (by omega)
        have hn9 : zMk mdB n4B (zPl cr1_ inn1_ k11_) ≤ 131072 := zPw_le (zMk_pw hpwB)
        refine z_Vq (bc := [[zO10 xo t im mk rd po co tr wa wb_ fi cd], wwB, z1_]) (br := [z0_, wwA, wt]) (As := [.int i1, .ref l1]) (rest := []) C G (c_f_waysInB l T xo t im mk rd po co tr wa wb_ fi cd i1 laB mdB wyB pc_B f1B f2B f3B f4B f5B f6B n4B wwB l1 cr1_ inn1_ k11_ k21_ k31_ k41_ z1_ hwwB hz1_ hI1_ hpwB hmdB (kaOk hI1_ hLq1).1 hTbB (by omega)) (kV_RX11_235 C.2.2.2.2 (Nat.le_of_ble_eq_true rfl) (Nat.le_of_ble_eq_true rfl)) [0, 3, 5] [0, 2, 1] rfl rfl (ci := 10) (qc := (RX11, TX11, 11)) rfl rfl (List.mem_flatten.mpr ⟨_, List.mem_of_getElem? (i := 0) rfl, List.mem_cons_self⟩) rfl rfl hl.1 dX11_lot_39 (Nat.le_of_ble_eq_true rfl) (by show _ + (6 * (zMk mdB n4B (zPl cr1_ inn1_ k11_) - n4B)) ≤ 6 * (zNA (i1.toInt = 0 ∧ 0 < (fk 0).toInt ∧ 0 ≤ a_.toInt ∧ a_.toInt < cr0_.toInt ∧ a_.toInt < 7 ∧ 0 ≤ b_.toInt ∧ b_.toInt < cr0_.toInt ∧ b_.toInt < 7 ∧ ¬ zBit inn0_ b_ = 0) mdA n4A (zPl cr0_ inn0_ k10_) - n4A) + 6 * (zNA (i1.toInt = 1 ∧ 1 < (fk 0).toInt ∧ 0 ≤ a_.toInt ∧ a_.toInt < cr1_.toInt ∧ a_.toInt < 7 ∧ 0 ≤ b_.toInt ∧ b_.toInt < cr1_.toInt ∧ b_.toInt < 7 ∧ ¬ zBit inn1_ b_ = 0) mdB n4B (zPl cr1_ inn1_ k11_) - n4B); omega) (fun r_77 b1 H locs hw G => ?_)
        refine zEx9 hw ?_
        intro w2_63 m2_64 wy2_65 pc2_66 g1_67 g2_68 g4_69 g5_70 g6_71
        refine zCu6 ?_
        intro hbs9 h_72 h_73 h_74 h_75 h_76
        clear hw
        subst hbs9
        have G : zS T A s.heap s [z0_, wwA, wt, [zO10 xo t im mk rd po co tr wa wb_ fi cd], w2_63, z1_] _ _ := G
        subst h_72
        have hwy9 : 0 ≤ wy2_65.toInt ∧ wy2_65.toInt ≤ 16384 := by have q9 := zWy_in (inn := inn1_) hI1_; rw [h_74]; exact ⟨by omega, q9.2⟩
        have hp79 : aPr (aW cr1_ inn1_ k11_) 7 ≤ 16384 := aPr_7 hI1_
        have hwN9 : wy2_65 = nI (aPr (aW cr1_ inn1_ k11_) 7) := h_74.trans (zWy_z hI1_)
        have hwT9 : wy2_65.toInt = ((aPr (aW cr1_ inn1_ k11_) 7 : Nat) : Int) := by rw [hwN9, nI_toInt (by omega)]
        have hOk9 := (kaOk (inn := inn1_) hI1_ hLq1).1
        have hc79 := hI1_.1
        refine lv_astore (lv' := [(6, .ref wb_), (5, .ref l1), (0, .ref xo), (1, .int i1), (2, .int a_), (3, .int b_), (4, .int w_)]) hx hb dX11_lot_42 hl (by decide) (zLvf_h rfl) (fun ls hl => ?_)
        refine lv_iconst (v := 0) hx hb dX11_lot_44 (by decide) ?_
        refine lv_istore (lv' := [(7, .int 0), (6, .ref wb_), (5, .ref l1), (0, .ref xo), (1, .int i1), (2, .int a_), (3, .int b_), (4, .int w_)]) hx hb dX11_lot_45 hl (by decide) (zLvf_h rfl) (fun ls hl => ?_)
        refine lv_iconst (v := 0) hx hb dX11_lot_47 (by decide) ?_
        refine lv_istore (lv' := [(8, .int 0), (7, .int 0), (6, .ref wb_), (5, .ref l1), (0, .ref xo), (1, .int i1), (2, .int a_), (3, .int b_), (4, .int w_)]) hx hb dX11_lot_48 hl (by decide) (zLvf_h rfl) (fun ls hl => ?_)
        refine zEx6 h_73 ?_
        intro a1_78 a2_79 a3_80 a4_81 a5_82 a6_83 hbs9
        clear h_73
        subst hbs9
        have G : zS T A s.heap s [z0_, wwA, wt, [zO10 xo t im mk rd po co tr wa wb_ fi cd], [zO0 wb_ m2_64 wy2_65 l1 pc2_66 a1_78 a2_79 a3_80 a4_81 a5_82 a6_83], [zAr T 0 a1_78 7 g1_67], [zAr T 0 a2_79 7 g2_68], [zAr T 0 a3_80 7 f3B], [zAr T 0 a4_81 (zMk mdB n4B (zPl cr1_ inn1_ k11_)) g4_69], [zAr T 0 a5_82 (zMk mdB n4B (zPl cr1_ inn1_ k11_)) g5_70], [zAr T 0 a6_83 (zMk mdB n4B (zPl cr1_ inn1_ k11_)) g6_71], z1_] _ _ := G.re rfl
        have hw_84 : bWays T wb_ l1 m2_64 wy2_65 pc2_66 g1_67 g2_68 f3B g4_69 g5_70 g6_71 (zMk mdB n4B (zPl cr1_ inn1_ k11_)) [zO0 wb_ m2_64 wy2_65 l1 pc2_66 a1_78 a2_79 a3_80 a4_81 a5_82 a6_83, zAr T 0 a1_78 7 g1_67, zAr T 0 a2_79 7 g2_68, zAr T 0 a3_80 7 f3B, zAr T 0 a4_81 (zMk mdB n4B (zPl cr1_ inn1_ k11_)) g4_69, zAr T 0 a5_82 (zMk mdB n4B (zPl cr1_ inn1_ k11_)) g5_70, zAr T 0 a6_83 (zMk mdB n4B (zPl cr1_ inn1_ k11_)) g6_71] := ⟨a1_78, a2_79, a3_80, a4_81, a5_82, a6_83, rfl⟩
        have G : zS T A s.heap s [z0_, wwA, wt, [zO10 xo t im mk rd po co tr wa wb_ fi cd], [zO0 wb_ m2_64 wy2_65 l1 pc2_66 a1_78 a2_79 a3_80 a4_81 a5_82 a6_83, zAr T 0 a1_78 7 g1_67, zAr T 0 a2_79 7 g2_68, zAr T 0 a3_80 7 f3B, zAr T 0 a4_81 (zMk mdB n4B (zPl cr1_ inn1_ k11_)) g4_69, zAr T 0 a5_82 (zMk mdB n4B (zPl cr1_ inn1_ k11_)) g5_70, zAr T 0 a6_83 (zMk mdB n4B (zPl cr1_ inn1_ k11_)) g6_71], z1_] _ _ := G.re rfl
        refine z_lp2 (T := T) 50 (fun (i : Nat) (u7 : Int32) => [z0_, wwA, wt, [zO10 xo t im mk rd po co tr wa wb_ fi cd], [zO0 wb_ m2_64 wy2_65 l1 pc2_66 a1_78 a2_79 a3_80 a4_81 a5_82 a6_83, zAr T 0 a1_78 7 g1_67, zAr T 0 a2_79 7 g2_68, zAr T 0 a3_80 7 f3B, zAr T 0 a4_81 (zMk mdB n4B (zPl cr1_ inn1_ k11_)) g4_69, zAr T 0 a5_82 (zMk mdB n4B (zPl cr1_ inn1_ k11_)) g5_70, zAr T 0 a6_83 (zMk mdB n4B (zPl cr1_ inn1_ k11_)) g6_71], z1_]) (fun (i : Nat) (u7 : Int32) => [(8, .int (nI i)), (7, .int u7), (6, .ref wb_), (5, .ref l1), (0, .ref xo), (1, .int i1), (2, .int a_), (3, .int b_), (4, .int w_)]) (fun (i : Nat) (u7 : Int32) => i ≤ aPr (aW cr1_ inn1_ k11_) 7) (fun (i : Nat) (u7 : Int32) => aPr (aW cr1_ inn1_ k11_) 7 - i) ?_ 0 0 (show 0 ≤ aPr (aW cr1_ inn1_ k11_) 7 from (Nat.zero_le _)) G (lv_sub hl [0, 1, 2, 3, 4, 5, 6, 7, 8] rfl)
        intro i u7 hi ih_50 H locs ls G hl
        replace hi : i ≤ aPr (aW cr1_ inn1_ k11_) 7 := hi
        replace G : zS T A s.heap s [z0_, wwA, wt, [zO10 xo t im mk rd po co tr wa wb_ fi cd], [zO0 wb_ m2_64 wy2_65 l1 pc2_66 a1_78 a2_79 a3_80 a4_81 a5_82 a6_83, zAr T 0 a1_78 7 g1_67, zAr T 0 a2_79 7 g2_68, zAr T 0 a3_80 7 f3B, zAr T 0 a4_81 (zMk mdB n4B (zPl cr1_ inn1_ k11_)) g4_69, zAr T 0 a5_82 (zMk mdB n4B (zPl cr1_ inn1_ k11_)) g5_70, zAr T 0 a6_83 (zMk mdB n4B (zPl cr1_ inn1_ k11_)) g6_71], z1_] _ _ := G
        replace hl : lv_has ls 9 [(8, .int (nI i)), (7, .int u7), (6, .ref wb_), (5, .ref l1), (0, .ref xo), (1, .int i1), (2, .int a_), (3, .int b_), (4, .int w_)] := hl
        refine lv_iload hx hb dX11_lot_50 (lv_at hl 0 rfl) ?_
        refine lv_aload hx hb dX11_lot_52 (lv_at hl 2 rfl) ?_
        have G : zS T A s.heap s [z0_, wwA, wt, [zO10 xo t im mk rd po co tr wa wb_ fi cd], [zO0 wb_ m2_64 wy2_65 l1 pc2_66 a1_78 a2_79 a3_80 a4_81 a5_82 a6_83], [zAr T 0 a1_78 7 g1_67], [zAr T 0 a2_79 7 g2_68], [zAr T 0 a3_80 7 f3B], [zAr T 0 a4_81 (zMk mdB n4B (zPl cr1_ inn1_ k11_)) g4_69], [zAr T 0 a5_82 (zMk mdB n4B (zPl cr1_ inn1_ k11_)) g5_70], [zAr T 0 a6_83 (zMk mdB n4B (zPl cr1_ inn1_ k11_)) g6_71], z1_] _ _ := G.re rfl
        refine z_get C G clX0 4 rfl 1 (by decide) m_fl_RX11_257 rfl dX11_lot_54 ?_
        refine lv_icmp_ge (tgt := 81) hx hb dX11_lot_57 (by decide) (fun c_85 => ?_) (fun c_85 => ?_)
        · have c_85n : wy2_65.toInt ≤ (i : Int) := by have q := (fa_le _ _).mp c_85; rw [nI_toInt (n := i) (by omega)] at q; exact q
          refine lv_iload hx hb dX11_lot_81 (lv_at hl 1 rfl) ?_
          refine lv_aload hx hb dX11_lot_83 (lv_at hl 2 rfl) ?_
          refine z_get C G clX0 4 rfl 1 (by decide) m_fl_RX11_257 rfl dX11_lot_85 ?_
          refine lv_iload hx hb dX11_lot_88 (lv_at hl 8 rfl) ?_
          refine z_Si (bc := []) (br := [z0_, wwA, wt, [zO10 xo t im mk rd po co tr wa wb_ fi cd], [zO0 wb_ m2_64 wy2_65 l1 pc2_66 a1_78 a2_79 a3_80 a4_81 a5_82 a6_83], [zAr T 0 a1_78 7 g1_67], [zAr T 0 a2_79 7 g2_68], [zAr T 0 a3_80 7 f3B], [zAr T 0 a4_81 (zMk mdB n4B (zPl cr1_ inn1_ k11_)) g4_69], [zAr T 0 a5_82 (zMk mdB n4B (zPl cr1_ inn1_ k11_)) g5_70], [zAr T 0 a6_83 (zMk mdB n4B (zPl cr1_ inn1_ k11_)) g6_71], z1_]) (As := [.int u7, .int wy2_65, .int w_]) (rest := []) C G (c_inLeastTerms l T u7 wy2_65 w_) (kS_RX11_262 C.2.2.2.2 (Nat.le_of_ble_eq_true rfl) (Nat.le_of_ble_eq_true rfl)) [] [] rfl rfl rfl rfl hl.1 dX11_lot_90 (Nat.le_of_ble_eq_true rfl) (by show _ + 0 ≤ 6 * (zNA (i1.toInt = 0 ∧ 0 < (fk 0).toInt ∧ 0 ≤ a_.toInt ∧ a_.toInt < cr0_.toInt ∧ a_.toInt < 7 ∧ 0 ≤ b_.toInt ∧ b_.toInt < cr0_.toInt ∧ b_.toInt < 7 ∧ ¬ zBit inn0_ b_ = 0) mdA n4A (zPl cr0_ inn0_ k10_) - n4A) + 6 * (zNA (i1.toInt = 1 ∧ 1 < (fk 0).toInt ∧ 0 ≤ a_.toInt ∧ a_.toInt < cr1_.toInt ∧ a_.toInt < 7 ∧ 0 ≤ b_.toInt ∧ b_.toInt < cr1_.toInt ∧ b_.toInt < 7 ∧ ¬ zBit inn1_ b_ = 0) mdB n4B (zPl cr1_ inn1_ k11_) - n4B); omega) (fun r_86 b1 H locs hw G => ?_)
          obtain rfl := hw
          have G : zS T A s.heap s [z0_, wwA, wt, [zO10 xo t im mk rd po co tr wa wb_ fi cd], [zO0 wb_ m2_64 wy2_65 l1 pc2_66 a1_78 a2_79 a3_80 a4_81 a5_82 a6_83], [zAr T 0 a1_78 7 g1_67], [zAr T 0 a2_79 7 g2_68], [zAr T 0 a3_80 7 f3B], [zAr T 0 a4_81 (zMk mdB n4B (zPl cr1_ inn1_ k11_)) g4_69], [zAr T 0 a5_82 (zMk mdB n4B (zPl cr1_ inn1_ k11_)) g5_70], [zAr T 0 a6_83 (zMk mdB n4B (zPl cr1_ inn1_ k11_)) g6_71], z1_] _ _ := G
          have hw_87 : bWays T wb_ l1 m2_64 wy2_65 pc2_66 g1_67 g2_68 f3B g4_69 g5_70 g6_71 (zMk mdB n4B (zPl cr1_ inn1_ k11_)) [zO0 wb_ m2_64 wy2_65 l1 pc2_66 a1_78 a2_79 a3_80 a4_81 a5_82 a6_83, zAr T 0 a1_78 7 g1_67, zAr T 0 a2_79 7 g2_68, zAr T 0 a3_80 7 f3B, zAr T 0 a4_81 (zMk mdB n4B (zPl cr1_ inn1_ k11_)) g4_69, zAr T 0 a5_82 (zMk mdB n4B (zPl cr1_ inn1_ k11_)) g5_70, zAr T 0 a6_83 (zMk mdB n4B (zPl cr1_ inn1_ k11_)) g6_71] := ⟨a1_78, a2_79, a3_80, a4_81, a5_82, a6_83, rfl⟩
          have G : zS T A s.heap s [z0_, wwA, wt, [zO10 xo t im mk rd po co tr wa wb_ fi cd], [zO0 wb_ m2_64 wy2_65 l1 pc2_66 a1_78 a2_79 a3_80 a4_81 a5_82 a6_83, zAr T 0 a1_78 7 g1_67, zAr T 0 a2_79 7 g2_68, zAr T 0 a3_80 7 f3B, zAr T 0 a4_81 (zMk mdB n4B (zPl cr1_ inn1_ k11_)) g4_69, zAr T 0 a5_82 (zMk mdB n4B (zPl cr1_ inn1_ k11_)) g5_70, zAr T 0 a6_83 (zMk mdB n4B (zPl cr1_ inn1_ k11_)) g6_71], z1_] _ _ := G.re rfl
          have G := G.sub (bs' := [[zO10 xo t im mk rd po co tr wa wb_ fi cd], wt, z0_, z1_, wwA, [zO0 wb_ m2_64 wy2_65 l1 pc2_66 a1_78 a2_79 a3_80 a4_81 a5_82 a6_83, zAr T 0 a1_78 7 g1_67, zAr T 0 a2_79 7 g2_68, zAr T 0 a3_80 7 f3B, zAr T 0 a4_81 (zMk mdB n4B (zPl cr1_ inn1_ k11_)) g4_69, zAr T 0 a5_82 (zMk mdB n4B (zPl cr1_ inn1_ k11_)) g5_70, zAr T 0 a6_83 (zMk mdB n4B (zPl cr1_ inn1_ k11_)) g6_71]]) [3, 2, 0, 5, 1, 4] rfl
          exact z_back hQz_ (z_iret C hr hlocks G (Nat.le_of_ble_eq_true rfl) (by omega) dX11_lot_93 ⟨laA, mdA, wyA, pc_A, f1A, f2A, f3A, f4A, f5A, f6A, n4A, wwA, l1, m2_64, wy2_65, pc2_66, g1_67, g2_68, f3B, g4_69, g5_70, g6_71, (zMk mdB n4B (zPl cr1_ inn1_ k11_)), ([zO0 wb_ m2_64 wy2_65 l1 pc2_66 a1_78 a2_79 a3_80 a4_81 a5_82 a6_83, zAr T 0 a1_78 7 g1_67, zAr T 0 a2_79 7 g2_68, zAr T 0 a3_80 7 f3B, zAr T 0 a4_81 (zMk mdB n4B (zPl cr1_ inn1_ k11_)) g4_69, zAr T 0 a5_82 (zMk mdB n4B (zPl cr1_ inn1_ k11_)) g5_70, zAr T 0 a6_83 (zMk mdB n4B (zPl cr1_ inn1_ k11_)) g6_71]), rfl, hwwA, hmdA, hwmA, (by first | exact hNAo.symm | exact (zNA_n (by first | omega | grind)).symm), hpwA, (fun q => q), hTbA, hw_87, (Or.inr rfl), hwy9, hNAm.symm, (zMk_pw hpwB), (fun _ => h_75), (Or.inr h_76)⟩)
        · have c_85n : ¬ wy2_65.toInt ≤ (i : Int) := fun q => c_85 ((fa_le _ _).mpr (by rw [nI_toInt (n := i) (by omega)]; exact q))
          refine lv_aload hx hb dX11_lot_60 (lv_at hl 2 rfl) ?_
          refine lv_iload hx hb dX11_lot_62 (lv_at hl 0 rfl) ?_
          refine lv_iload_n hx hb dX11_lot_64 rfl (lv_at hl 6 rfl) ?_
          have hw_88 : bWays T wb_ l1 m2_64 wy2_65 pc2_66 g1_67 g2_68 f3B g4_69 g5_70 g6_71 (zMk mdB n4B (zPl cr1_ inn1_ k11_)) [zO0 wb_ m2_64 wy2_65 l1 pc2_66 a1_78 a2_79 a3_80 a4_81 a5_82 a6_83, zAr T 0 a1_78 7 g1_67, zAr T 0 a2_79 7 g2_68, zAr T 0 a3_80 7 f3B, zAr T 0 a4_81 (zMk mdB n4B (zPl cr1_ inn1_ k11_)) g4_69, zAr T 0 a5_82 (zMk mdB n4B (zPl cr1_ inn1_ k11_)) g5_70, zAr T 0 a6_83 (zMk mdB n4B (zPl cr1_ inn1_ k11_)) g6_71] := ⟨a1_78, a2_79, a3_80, a4_81, a5_82, a6_83, rfl⟩
          have G : zS T A s.heap s [z0_, wwA, wt, [zO10 xo t im mk rd po co tr wa wb_ fi cd], [zO0 wb_ m2_64 wy2_65 l1 pc2_66 a1_78 a2_79 a3_80 a4_81 a5_82 a6_83, zAr T 0 a1_78 7 g1_67, zAr T 0 a2_79 7 g2_68, zAr T 0 a3_80 7 f3B, zAr T 0 a4_81 (zMk mdB n4B (zPl cr1_ inn1_ k11_)) g4_69, zAr T 0 a5_82 (zMk mdB n4B (zPl cr1_ inn1_ k11_)) g5_70, zAr T 0 a6_83 (zMk mdB n4B (zPl cr1_ inn1_ k11_)) g6_71], z1_] _ _ := G.re rfl
          refine z_Vi (bc := [[zO0 wb_ m2_64 wy2_65 l1 pc2_66 a1_78 a2_79 a3_80 a4_81 a5_82 a6_83, zAr T 0 a1_78 7 g1_67, zAr T 0 a2_79 7 g2_68, zAr T 0 a3_80 7 f3B, zAr T 0 a4_81 (zMk mdB n4B (zPl cr1_ inn1_ k11_)) g4_69, zAr T 0 a5_82 (zMk mdB n4B (zPl cr1_ inn1_ k11_)) g5_70, zAr T 0 a6_83 (zMk mdB n4B (zPl cr1_ inn1_ k11_)) g6_71]]) (br := [z0_, wwA, wt, [zO10 xo t im mk rd po co tr wa wb_ fi cd], z1_]) (As := [.int (nI i), .int a_]) (rest := []) C G (c_where l T wb_ l1 m2_64 wy2_65 pc2_66 g1_67 g2_68 f3B g4_69 g5_70 g6_71 (zMk mdB n4B (zPl cr1_ inn1_ k11_)) ([zO0 wb_ m2_64 wy2_65 l1 pc2_66 a1_78 a2_79 a3_80 a4_81 a5_82 a6_83, zAr T 0 a1_78 7 g1_67, zAr T 0 a2_79 7 g2_68, zAr T 0 a3_80 7 f3B, zAr T 0 a4_81 (zMk mdB n4B (zPl cr1_ inn1_ k11_)) g4_69, zAr T 0 a5_82 (zMk mdB n4B (zPl cr1_ inn1_ k11_)) g5_70, zAr T 0 a6_83 (zMk mdB n4B (zPl cr1_ inn1_ k11_)) g6_71]) (nI i) a_ hw_88 (by first | with_reducible assumption | with_reducible rfl | omega | assumption | rfl)) (kV_RX11_260 C.2.2.2.2 (Nat.le_of_ble_eq_true rfl) (Nat.le_of_ble_eq_true rfl)) [4] [4] rfl rfl (ci := 0) (qc := (RX0, TX0, 10)) rfl rfl (List.mem_flatten.mpr ⟨_, List.mem_of_getElem? (i := 0) rfl, (bWays_mem hw_88).choose_spec⟩) rfl rfl hl.1 dX11_lot_65 (Nat.le_of_ble_eq_true rfl) (by show _ + 0 ≤ 6 * (zNA (i1.toInt = 0 ∧ 0 < (fk 0).toInt ∧ 0 ≤ a_.toInt ∧ a_.toInt < cr0_.toInt ∧ a_.toInt < 7 ∧ 0 ≤ b_.toInt ∧ b_.toInt < cr0_.toInt ∧ b_.toInt < 7 ∧ ¬ zBit inn0_ b_ = 0) mdA n4A (zPl cr0_ inn0_ k10_) - n4A) + 6 * (zNA (i1.toInt = 1 ∧ 1 < (fk 0).toInt ∧ 0 ≤ a_.toInt ∧ a_.toInt < cr1_.toInt ∧ a_.toInt < 7 ∧ 0 ≤ b_.toInt ∧ b_.toInt < cr1_.toInt ∧ b_.toInt < 7 ∧ ¬ zBit inn1_ b_ = 0) mdB n4B (zPl cr1_ inn1_ k11_) - n4B); omega) (fun r_90 b1 H locs hw G => ?_)
          refine zAn2 hw ?_
          intro hbs9 h_89
          clear hw
          subst hbs9
          have G : zS T A s.heap s [z0_, wwA, wt, [zO10 xo t im mk rd po co tr wa wb_ fi cd], z1_, [zO0 wb_ m2_64 wy2_65 l1 pc2_66 a1_78 a2_79 a3_80 a4_81 a5_82 a6_83, zAr T 0 a1_78 7 g1_67, zAr T 0 a2_79 7 g2_68, zAr T 0 a3_80 7 f3B, zAr T 0 a4_81 (zMk mdB n4B (zPl cr1_ inn1_ k11_)) g4_69, zAr T 0 a5_82 (zMk mdB n4B (zPl cr1_ inn1_ k11_)) g5_70, zAr T 0 a6_83 (zMk mdB n4B (zPl cr1_ inn1_ k11_)) g6_71]] _ _ := G
          subst h_89
          refine lv_iload_n hx hb dX11_lot_68 rfl (lv_at hl 7 rfl) ?_
          refine lv_icmp_ne (tgt := 75) hx hb dX11_lot_69 (by decide) (fun c_91 => ?_) (fun c_91 => ?_)
          · have c_91n : ¬ (zEntry g5_70 (zMk mdB n4B (zPl cr1_ inn1_ k11_)) (nI i) a_ &&& 7).toInt = b_.toInt := fun q => c_91 ((fa_eq _ _).mpr q)
            refine lv_iinc (v := nI (i + 1)) (lv' := [(8, .int (nI (i + 1))), (7, .int u7), (6, .ref wb_), (5, .ref l1), (0, .ref xo), (1, .int i1), (2, .int a_), (3, .int b_), (4, .int w_)]) hx hb dX11_lot_75 hl (k := 0) rfl (z_inc i 1) (by decide) (zLvf_h rfl) (fun ls hl => ?_)
            refine lv_goto (tgt := 50) hx hb dX11_lot_78 (by decide) ?_
            have G := G.sub (bs' := [z0_, wwA, wt, [zO10 xo t im mk rd po co tr wa wb_ fi cd], [zO0 wb_ m2_64 wy2_65 l1 pc2_66 a1_78 a2_79 a3_80 a4_81 a5_82 a6_83, zAr T 0 a1_78 7 g1_67, zAr T 0 a2_79 7 g2_68, zAr T 0 a3_80 7 f3B, zAr T 0 a4_81 (zMk mdB n4B (zPl cr1_ inn1_ k11_)) g4_69, zAr T 0 a5_82 (zMk mdB n4B (zPl cr1_ inn1_ k11_)) g5_70, zAr T 0 a6_83 (zMk mdB n4B (zPl cr1_ inn1_ k11_)) g6_71], z1_]) [0, 1, 2, 3, 5, 4] rfl
            exact ih_50 (i + 1) u7 (show (i + 1) ≤ aPr (aW cr1_ inn1_ k11_) 7 from (by omega)) (show aPr (aW cr1_ inn1_ k11_) 7 - (i + 1) < aPr (aW cr1_ inn1_ k11_) 7 - i from by omega) _ _ ls G (lv_sub hl [0, 1, 2, 3, 4, 5, 6, 7, 8] rfl)
          · have c_91n : (zEntry g5_70 (zMk mdB n4B (zPl cr1_ inn1_ k11_)) (nI i) a_ &&& 7).toInt = b_.toInt := (fa_eq _ _).mp c_91
            refine lv_iinc (v := u7 + 1) (lv' := [(7, .int (u7 + 1)), (8, .int (nI i)), (6, .ref wb_), (5, .ref l1), (0, .ref xo), (1, .int i1), (2, .int a_), (3, .int b_), (4, .int w_)]) hx hb dX11_lot_72 hl (k := 1) rfl rfl (by decide) (zLvf_h rfl) (fun ls hl => ?_)
            refine lv_iinc (v := nI (i + 1)) (lv' := [(8, .int (nI (i + 1))), (7, .int (u7 + 1)), (6, .ref wb_), (5, .ref l1), (0, .ref xo), (1, .int i1), (2, .int a_), (3, .int b_), (4, .int w_)]) hx hb dX11_lot_75 hl (k := 1) rfl (z_inc i 1) (by decide) (zLvf_h rfl) (fun ls hl => ?_)
            refine lv_goto (tgt := 50) hx hb dX11_lot_78 (by decide) ?_
            have G := G.sub (bs' := [z0_, wwA, wt, [zO10 xo t im mk rd po co tr wa wb_ fi cd], [zO0 wb_ m2_64 wy2_65 l1 pc2_66 a1_78 a2_79 a3_80 a4_81 a5_82 a6_83, zAr T 0 a1_78 7 g1_67, zAr T 0 a2_79 7 g2_68, zAr T 0 a3_80 7 f3B, zAr T 0 a4_81 (zMk mdB n4B (zPl cr1_ inn1_ k11_)) g4_69, zAr T 0 a5_82 (zMk mdB n4B (zPl cr1_ inn1_ k11_)) g5_70, zAr T 0 a6_83 (zMk mdB n4B (zPl cr1_ inn1_ k11_)) g6_71], z1_]) [0, 1, 2, 3, 5, 4] rfl
            exact ih_50 (i + 1) (u7 + 1) (show (i + 1) ≤ aPr (aW cr1_ inn1_ k11_) 7 from (by omega)) (show aPr (aW cr1_ inn1_ k11_) 7 - (i + 1) < aPr (aW cr1_ inn1_ k11_) 7 - i from by omega) _ _ ls G (lv_sub hl [0, 1, 2, 3, 4, 5, 6, 7, 8] rfl)
      · have h_62 : (b_.toInt < 0 ∨ cr1_.toInt ≤ b_.toInt ∨ 7 ≤ b_.toInt ∨ zBit inn1_ b_ = 0) := h_62
        refine lv_if_ne (tgt := 35) hx hb dX11_lot_30 (by decide) (fun q => absurd (by decide) q) (fun _ => ?_)
        refine lv_iconst (v := (-1)) hx hb dX11_lot_33 (by decide) ?_
        have G := G.sub (bs' := [[zO10 xo t im mk rd po co tr wa wb_ fi cd], wt, z0_, z1_, wwA, wwB]) [0, 4, 1, 5, 2, 3] rfl
        exact z_back hQz_ (z_iret C hr hlocks G (Nat.le_of_ble_eq_true rfl) (by omega) dX11_lot_34 ⟨laA, mdA, wyA, pc_A, f1A, f2A, f3A, f4A, f5A, f6A, n4A, wwA, laB, mdB, wyB, pc_B, f1B, f2B, f3B, f4B, f5B, f6B, n4B, wwB, rfl, hwwA, hmdA, hwmA, (by first | exact hNAo.symm | exact (zNA_n (by first | omega | grind)).symm), hpwA, (fun q => q), hTbA, hwwB, hmdB, hwmB, (by first | exact hNAo.symm | exact (zNA_n (by first | omega | grind)).symm), hpwB, (fun q => q), hTbB⟩)
    · have h_55 : (a_.toInt < 0 ∨ cr1_.toInt ≤ a_.toInt ∨ 7 ≤ a_.toInt) := h_55
      refine lv_if_eq (tgt := 33) hx hb dX11_lot_21 (by decide) (fun _ => ?_) (fun q => absurd (by decide) q)
      refine lv_iconst (v := (-1)) hx hb dX11_lot_33 (by decide) ?_
      have G := G.sub (bs' := [[zO10 xo t im mk rd po co tr wa wb_ fi cd], wt, z0_, z1_, wwA, wwB]) [0, 4, 1, 5, 2, 3] rfl
      exact z_back hQz_ (z_iret C hr hlocks G (Nat.le_of_ble_eq_true rfl) (by omega) dX11_lot_34 ⟨laA, mdA, wyA, pc_A, f1A, f2A, f3A, f4A, f5A, f6A, n4A, wwA, laB, mdB, wyB, pc_B, f1B, f2B, f3B, f4B, f5B, f6B, n4B, wwB, rfl, hwwA, hmdA, hwmA, (by first | exact hNAo.symm | exact (zNA_n (by first | omega | grind)).symm), hpwA, (fun q => q), hTbA, hwwB, hmdB, hwmB, (by first | exact hNAo.symm | exact (zNA_n (by first | omega | grind)).symm), hpwB, (fun q => q), hTbB⟩)
set_option maxHeartbeats 4000000 in
set_option maxRecDepth 100000 in
/-- c_t_mean -/
theorem c_t_mean (l : Launch) (T : zTy) (xo : Nat) (t : Nat) (im : Nat) (mk : Nat) (rd : Nat) (po : Nat) (co : Nat) (tr : Nat) (wa : Nat) (wb_ : Nat) (fi : Nat) (cd : Nat) (l0 : Nat) (l1 : Nat) (d0 : Nat) (d1 : Nat) (g0 : Nat) (g1 : Nat) (ln : Int32) (fl : Int32) (pl : Int32) (ft : Nat → Int32) (fk : Nat → Int32) (wt : va_W) (cr0_ : Int32) (inn0_ : Int32) (k10_ : Nat → Int32) (k20_ : Nat → Int32) (k30_ : Nat → Int32) (k40_ : Nat → Int32) (z0_ : va_W) (cr1_ : Int32) (inn1_ : Int32) (k11_ : Nat → Int32) (k21_ : Nat → Int32) (k31_ : Nat → Int32) (k41_ : Nat → Int32) (z1_ : va_W) (laA : Nat) (mdA : Int32) (wyA : Int32) (pc_A : Int32) (f1A : Nat → Int32) (f2A : Nat → Int32) (f3A : Nat → Int32) (f4A : Nat → Int32) (f5A : Nat → Int32) (f6A : Nat → Int32) (n4A : Nat) (wwA : va_W) (laB : Nat) (mdB : Int32) (wyB : Int32) (pc_B : Int32) (f1B : Nat → Int32) (f2B : Nat → Int32) (f3B : Nat → Int32) (f4B : Nat → Int32) (f5B : Nat → Int32) (f6B : Nat → Int32) (n4B : Nat) (wwB : va_W) (i1 : Int32) (a_ : Int32) (w_ : Int32) (ht : bTold T t l0 l1 d0 d1 g0 g1 ln fl pl ft fk wt) (hK : zKT fk) (hz0_ : bLand T l0 cr0_ inn0_ k10_ k20_ k30_ k40_ z0_) (hI0_ : zLI cr0_ k10_ k30_) (hz1_ : bLand T l1 cr1_ inn1_ k11_ k21_ k31_ k41_ z1_) (hI1_ : zLI cr1_ k11_ k31_) (hwwA : bWays T wa laA mdA wyA pc_A f1A f2A f3A f4A f5A f6A n4A wwA) (hpwA : zPw n4A) (hmdA : mdA = 0 ∨ laA = l0) (hwmA : 0 ≤ wyA.toInt ∧ wyA.toInt ≤ 16384) (hTbA : mdA = 0 ∨ zTab cr0_ inn0_ k10_ k20_ wyA pc_A f1A f2A f5A n4A) (hLq0 : zLq cr0_ k10_ k20_) (hwwB : bWays T wb_ laB mdB wyB pc_B f1B f2B f3B f4B f5B f6B n4B wwB) (hpwB : zPw n4B) (hmdB : mdB = 0 ∨ laB = l1) (hwmB : 0 ≤ wyB.toInt ∧ wyB.toInt ≤ 16384) (hTbB : mdB = 0 ∨ zTab cr1_ inn1_ k11_ k21_ wyB pc_B f1B f2B f5B n4B) (hLq1 : zLq cr1_ k11_ k21_) : zMi l T yX11_mean cX11_mean 8 (some .int) 7 3 (6 * (zNA (i1.toInt = 0 ∧ 0 < (fk 0).toInt ∧ 0 ≤ a_.toInt ∧ a_.toInt < cr0_.toInt ∧ a_.toInt < 7) mdA n4A (zPl cr0_ inn0_ k10_) - n4A) + 6 * (zNA (i1.toInt = 1 ∧ 1 < (fk 0).toInt ∧ 0 ≤ a_.toInt ∧ a_.toInt < cr1_.toInt ∧ a_.toInt < 7) mdB n4B (zPl cr1_ inn1_ k11_) - n4B)) [.ref xo, .int i1, .int a_, .int w_] [[zO10 xo t im mk rd po co tr wa wb_ fi cd], wt, z0_, z1_, wwA, wwB] (fun (r : Int32) bs => ∃ (laA_2 : Nat) (mdA_2 : Int32) (wyA_2 : Int32) (pc_A_2 : Int32) (f1A_2 : Nat → Int32) (f2A_2 : Nat → Int32) (f3A_2 : Nat → Int32) (f4A_2 : Nat → Int32) (f5A_2 : Nat → Int32) (f6A_2 : Nat → Int32) (n4A_2 : Nat) (wwA_2 : va_W) (laB_2 : Nat) (mdB_2 : Int32) (wyB_2 : Int32) (pc_B_2 : Int32) (f1B_2 : Nat → Int32) (f2B_2 : Nat → Int32) (f3B_2 : Nat → Int32) (f4B_2 : Nat → Int32) (f5B_2 : Nat → Int32) (f6B_2 : Nat → Int32) (n4B_2 : Nat) (wwB_2 : va_W), bs = [[zO10 xo t im mk rd po co tr wa wb_ fi cd], wt, z0_, z1_, wwA_2, wwB_2] ∧ bWays T wa laA_2 mdA_2 wyA_2 pc_A_2 f1A_2 f2A_2 f3A_2 f4A_2 f5A_2 f6A_2 n4A_2 wwA_2 ∧ (mdA_2 = 0 ∨ laA_2 = l0) ∧ (0 ≤ wyA_2.toInt ∧ wyA_2.toInt ≤ 16384) ∧ n4A_2 = zNA (i1.toInt = 0 ∧ 0 < (fk 0).toInt ∧ 0 ≤ a_.toInt ∧ a_.toInt < cr0_.toInt ∧ a_.toInt < 7) mdA n4A (zPl cr0_ inn0_ k10_) ∧ zPw n4A_2 ∧ (¬ mdA = 0 → ¬ mdA_2 = 0) ∧ (mdA_2 = 0 ∨ zTab cr0_ inn0_ k10_ k20_ wyA_2 pc_A_2 f1A_2 f2A_2 f5A_2 n4A_2) ∧ bWays T wb_ laB_2 mdB_2 wyB_2 pc_B_2 f1B_2 f2B_2 f3B_2 f4B_2 f5B_2 f6B_2 n4B_2 wwB_2 ∧ (mdB_2 = 0 ∨ laB_2 = l1) ∧ (0 ≤ wyB_2.toInt ∧ wyB_2.toInt ≤ 16384) ∧ n4B_2 = zNA (i1.toInt = 1 ∧ 1 < (fk 0).toInt ∧ 0 ≤ a_.toInt ∧ a_.toInt < cr1_.toInt ∧ a_.toInt < 7) mdB n4B (zPl cr1_ inn1_ k11_) ∧ zPw n4B_2 ∧ (¬ mdB = 0 → ¬ mdB_2 = 0) ∧ (mdB_2 = 0 ∨ zTab cr1_ inn1_ k11_ k21_ wyB_2 pc_B_2 f1B_2 f2B_2 f5B_2 n4B_2)) := by
  refine zMi_of (own := RX11) (by decide) rfl (Nat.le_of_ble_eq_true rfl) ?_
  intro p e s m args below meth c A ls C hr hlocks hnm hAe G hl
  refine zHide (fun Qz_ hQz_ => ?_)
  have hx := C.1
  have hb := C.2.1
  replace hmdA : zHd (mdA = 0 ∨ laA = l0) := hmdA
  replace hTbA : zHd (mdA = 0 ∨ zTab cr0_ inn0_ k10_ k20_ wyA pc_A f1A f2A f5A n4A) := hTbA
  replace hmdB : zHd (mdB = 0 ∨ laB = l1) := hmdB
  replace hTbB : zHd (mdB = 0 ∨ zTab cr1_ inn1_ k11_ k21_ wyB pc_B f1B f2B f5B n4B) := hTbB
  have hl : lv_has ls 8 [(0, .ref xo), (1, .int i1), (2, .int a_), (3, .int w_)] := hl
  refine lv_aload_n hx hb dX11_mean_0 rfl (lv_at hl 0 rfl) ?_
  refine z_get C G clX11 0 rfl 0 (by decide) m_fl_RX11_10 rfl dX11_mean_1 ?_
  refine lv_iload_n hx hb dX11_mean_4 rfl (lv_at hl 1 rfl) ?_
  refine z_Vq (bc := [wt]) (br := [[zO10 xo t im mk rd po co tr wa wb_ fi cd], z0_, z1_, wwA, wwB]) (As := [.int i1]) (rest := []) C G (c_landAt l T t l0 l1 d0 d1 g0 g1 ln fl pl ft fk wt i1 ht) (kV_RX11_121 C.2.2.2.2 (Nat.le_of_ble_eq_true rfl) (Nat.le_of_ble_eq_true rfl)) [1] [1] rfl rfl (ci := 8) (qc := (RX9, TX9, 8)) rfl rfl (List.mem_flatten.mpr ⟨_, List.mem_of_getElem? (i := 0) rfl, (bTold_mem ht).choose_spec⟩) rfl rfl hl.1 dX11_mean_5 (Nat.le_of_ble_eq_true rfl) (by show _ + 0 ≤ 6 * (zNA (i1.toInt = 0 ∧ 0 < (fk 0).toInt ∧ 0 ≤ a_.toInt ∧ a_.toInt < cr0_.toInt ∧ a_.toInt < 7) mdA n4A (zPl cr0_ inn0_ k10_) - n4A) + 6 * (zNA (i1.toInt = 1 ∧ 1 < (fk 0).toInt ∧ 0 ≤ a_.toInt ∧ a_.toInt < cr1_.toInt ∧ a_.toInt < 7) mdB n4B (zPl cr1_ inn1_ k11_) - n4B); omega) (fun r_2 b1 H locs hw G => ?_)
  refine zAn2 hw ?_
  intro hbs9 hc_1
  clear hw
  subst hbs9
  have G : zS T A s.heap s [[zO10 xo t im mk rd po co tr wa wb_ fi cd], z0_, z1_, wwA, wwB, wt] _ _ := G
  rcases hc_1 with ⟨rfl, h_3⟩ | ⟨rfl, h_4, h_5⟩ | ⟨rfl, h_6, h_7⟩
  · have h_3 : (i1.toInt < 0 ∨ (fk 0).toInt ≤ i1.toInt ∨ 2 ≤ i1.toInt) := h_3
    refine lv_astoreN (lv' := [(4, .null), (0, .ref xo), (1, .int i1), (2, .int a_), (3, .int w_)]) hx hb dX11_mean_8 hl (by decide) (zLvf_h rfl) (fun ls hl => ?_)
    refine lv_aloadN hx hb dX11_mean_10 (lv_at hl 0 rfl) ?_
    refine lv_ifnullN (tgt := 24) hx hb dX11_mean_12 (by decide) ?_
    refine lv_iconst (v := (-1)) hx hb dX11_mean_24 (by decide) ?_
    have G := G.sub (bs' := [[zO10 xo t im mk rd po co tr wa wb_ fi cd], wt, z0_, z1_, wwA, wwB]) [0, 5, 1, 2, 3, 4] rfl
    exact z_back hQz_ (z_iret C hr hlocks G (Nat.le_of_ble_eq_true rfl) (by omega) dX11_mean_25 ⟨laA, mdA, wyA, pc_A, f1A, f2A, f3A, f4A, f5A, f6A, n4A, wwA, laB, mdB, wyB, pc_B, f1B, f2B, f3B, f4B, f5B, f6B, n4B, wwB, rfl, hwwA, hmdA, hwmA, (by first | exact hNAo.symm | exact (zNA_n (by first | omega | grind)).symm), hpwA, (fun q => q), hTbA, hwwB, hmdB, hwmB, (by first | exact hNAo.symm | exact (zNA_n (by first | omega | grind)).symm), hpwB, (fun q => q), hTbB⟩)
  · have h_4 : i1.toInt = 0 := h_4
    have h_5 : 0 < (fk 0).toInt := h_5
    refine lv_astore (lv' := [(4, .ref l0), (0, .ref xo), (1, .int i1), (2, .int a_), (3, .int w_)]) hx hb dX11_mean_8 hl (by decide) (zLvf_h rfl) (fun ls hl => ?_)
    refine lv_aload hx hb dX11_mean_10 (lv_at hl 0 rfl) ?_
    refine lv_ifnull hx hb dX11_mean_12 ?_
    refine lv_aload hx hb dX11_mean_15 (lv_at hl 0 rfl) ?_
    refine lv_iload_n hx hb dX11_mean_17 rfl (lv_at hl 3 rfl) ?_
    refine z_Vi (bc := [z0_]) (br := [[zO10 xo t im mk rd po co tr wa wb_ fi cd], z1_, wwA, wwB, wt]) (As := [.int a_]) (rest := []) C G (c_has l T l0 cr0_ inn0_ k10_ k20_ k30_ k40_ z0_ a_ hz0_) (kV_RX11_160 C.2.2.2.2 (Nat.le_of_ble_eq_true rfl) (Nat.le_of_ble_eq_true rfl)) [1] [1] rfl rfl (ci := 4) (qc := (RX4, TX4, 6)) rfl rfl (List.mem_flatten.mpr ⟨_, List.mem_of_getElem? (i := 0) rfl, (bLand_mem hz0_).choose_spec⟩) rfl rfl hl.1 dX11_mean_18 (Nat.le_of_ble_eq_true rfl) (by show _ + 0 ≤ 6 * (zNA (i1.toInt = 0 ∧ 0 < (fk 0).toInt ∧ 0 ≤ a_.toInt ∧ a_.toInt < cr0_.toInt ∧ a_.toInt < 7) mdA n4A (zPl cr0_ inn0_ k10_) - n4A) + 6 * (zNA (i1.toInt = 1 ∧ 1 < (fk 0).toInt ∧ 0 ≤ a_.toInt ∧ a_.toInt < cr1_.toInt ∧ a_.toInt < 7) mdB n4B (zPl cr1_ inn1_ k11_) - n4B); omega) (fun r_9 b1 H locs hw G => ?_)
    refine zAn2 hw ?_
    intro hbs9 hc_8
    clear hw
    subst hbs9
    have G : zS T A s.heap s [[zO10 xo t im mk rd po co tr wa wb_ fi cd], z1_, wwA, wwB, wt, z0_] _ _ := G
    rcases hc_8 with ⟨rfl, h_10, h_11, h_12⟩ | ⟨rfl, h_13⟩
    · have h_10 : 0 ≤ a_.toInt := h_10
      have h_11 : a_.toInt < cr0_.toInt := h_11
      have h_12 : a_.toInt < 7 := h_12
      refine lv_if_ne (tgt := 26) hx hb dX11_mean_21 (by decide) (fun _ => ?_) (fun q => absurd q (by decide))
      refine lv_aload_n hx hb dX11_mean_26 rfl (lv_at hl 1 rfl) ?_
      refine lv_iload_n hx hb dX11_mean_27 rfl (lv_at hl 2 rfl) ?_
      refine lv_aload hx hb dX11_mean_28 (lv_at hl 0 rfl) ?_
      have hNAm : zNA (i1.toInt = 0 ∧ 0 < (fk 0).toInt ∧ 0 ≤ a_.toInt ∧ a_.toInt < cr0_.toInt ∧ a_.toInt < 7) mdA n4A (zPl cr0_ inn0_ k10_) = zMk mdA n4A (zPl cr0_ inn0_ k10_) := zNA_y (by first | omega | (repeat' (first | omega | assumption | constructor)))
      have hNAo : zNA (i1.toInt = 1 ∧ 1 < (fk 0).toInt ∧ 0 ≤ a_.toInt ∧ a_.toInt < cr1_.toInt ∧ a_.toInt < 7) mdB n4B (zPl cr1_ inn1_ k11_) = n4B := zNA_n (by omega)
      have hn9 : zMk mdA n4A (zPl cr0_ inn0_ k10_) ≤ 131072 := zPw_le (zMk_pw hpwA)
      refine z_Vq (bc := [[zO10 xo t im mk rd po co tr wa wb_ fi cd], wwA, z0_]) (br := [z1_, wwB, wt]) (As := [.int i1, .ref l0]) (rest := []) C G (c_f_waysInA l T xo t im mk rd po co tr wa wb_ fi cd i1 laA mdA wyA pc_A f1A f2A f3A f4A f5A f6A n4A wwA l0 cr0_ inn0_ k10_ k20_ k30_ k40_ z0_ hwwA hz0_ hI0_ hpwA hmdA (kaOk hI0_ hLq0).1 hTbA (by omega)) (kV_RX11_235 C.2.2.2.2 (Nat.le_of_ble_eq_true rfl) (Nat.le_of_ble_eq_true rfl)) [0, 2, 5] [0, 1, 2] rfl rfl (ci := 10) (qc := (RX11, TX11, 11)) rfl rfl (List.mem_flatten.mpr ⟨_, List.mem_of_getElem? (i := 0) rfl, List.mem_cons_self⟩) rfl rfl hl.1 dX11_mean_30 (Nat.le_of_ble_eq_true rfl) (by show _ + (6 * (zMk mdA n4A (zPl cr0_ inn0_ k10_) - n4A)) ≤ 6 * (zNA (i1.toInt = 0 ∧ 0 < (fk 0).toInt ∧ 0 ≤ a_.toInt ∧ a_.toInt < cr0_.toInt ∧ a_.toInt < 7) mdA n4A (zPl cr0_ inn0_ k10_) - n4A) + 6 * (zNA (i1.toInt = 1 ∧ 1 < (fk 0).toInt ∧ 0 ≤ a_.toInt ∧ a_.toInt < cr1_.toInt ∧ a_.toInt < 7) mdB n4B (zPl cr1_ inn1_ k11_) - n4B); omega) (fun r_28 b1 H locs hw G => ?_)
      refine zEx9 hw ?_
      intro w2_14 m2_15 wy2_16 pc2_17 g1_18 g2_19 g4_20 g5_21 g6_22
      refine zCu6 ?_
      intro hbs9 h_23 h_24 h_25 h_26 h_27
      clear hw
      subst hbs9
      have G : zS T A s.heap s [z1_, wwB, wt, [zO10 xo t im mk rd po co tr wa wb_ fi cd], w2_14, z0_] _ _ := G
      subst h_23
      have hwy9 : 0 ≤ wy2_16.toInt ∧ wy2_16.toInt ≤ 16384 := by have q9 := zWy_in (inn := inn0_) hI0_; rw [h_25]; exact ⟨by omega, q9.2⟩
      have hp79 : aPr (aW cr0_ inn0_ k10_) 7 ≤ 16384 := aPr_7 hI0_
      have hwN9 : wy2_16 = nI (aPr (aW cr0_ inn0_ k10_) 7) := h_25.trans (zWy_z hI0_)
      have hwT9 : wy2_16.toInt = ((aPr (aW cr0_ inn0_ k10_) 7 : Nat) : Int) := by rw [hwN9, nI_toInt (by omega)]
      have hOk9 := (kaOk (inn := inn0_) hI0_ hLq0).1
      have hc79 := hI0_.1
      refine lv_astore (lv' := [(5, .ref wa), (4, .ref l0), (0, .ref xo), (1, .int i1), (2, .int a_), (3, .int w_)]) hx hb dX11_mean_33 hl (by decide) (zLvf_h rfl) (fun ls hl => ?_)
      refine lv_iconst (v := 0) hx hb dX11_mean_35 (by decide) ?_
      refine lv_istore (lv' := [(6, .int 0), (5, .ref wa), (4, .ref l0), (0, .ref xo), (1, .int i1), (2, .int a_), (3, .int w_)]) hx hb dX11_mean_36 hl (by decide) (zLvf_h rfl) (fun ls hl => ?_)
      refine lv_iconst (v := 0) hx hb dX11_mean_38 (by decide) ?_
      refine lv_istore (lv' := [(7, .int 0), (6, .int 0), (5, .ref wa), (4, .ref l0), (0, .ref xo), (1, .int i1), (2, .int a_), (3, .int w_)]) hx hb dX11_mean_39 hl (by decide) (zLvf_h rfl) (fun ls hl => ?_)
      refine zEx6 h_24 ?_
      intro a1_29 a2_30 a3_31 a4_32 a5_33 a6_34 hbs9
      clear h_24
      subst hbs9
      have G : zS T A s.heap s [z1_, wwB, wt, [zO10 xo t im mk rd po co tr wa wb_ fi cd], [zO0 wa m2_15 wy2_16 l0 pc2_17 a1_29 a2_30 a3_31 a4_32 a5_33 a6_34], [zAr T 0 a1_29 7 g1_18], [zAr T 0 a2_30 7 g2_19], [zAr T 0 a3_31 7 f3A], [zAr T 0 a4_32 (zMk mdA n4A (zPl cr0_ inn0_ k10_)) g4_20], [zAr T 0 a5_33 (zMk mdA n4A (zPl cr0_ inn0_ k10_)) g5_21], [zAr T 0 a6_34 (zMk mdA n4A (zPl cr0_ inn0_ k10_)) g6_22], z0_] _ _ := G.re rfl
      have hw_35 : bWays T wa l0 m2_15 wy2_16 pc2_17 g1_18 g2_19 f3A g4_20 g5_21 g6_22 (zMk mdA n4A (zPl cr0_ inn0_ k10_)) [zO0 wa m2_15 wy2_16 l0 pc2_17 a1_29 a2_30 a3_31 a4_32 a5_33 a6_34, zAr T 0 a1_29 7 g1_18, zAr T 0 a2_30 7 g2_19, zAr T 0 a3_31 7 f3A, zAr T 0 a4_32 (zMk mdA n4A (zPl cr0_ inn0_ k10_)) g4_20, zAr T 0 a5_33 (zMk mdA n4A (zPl cr0_ inn0_ k10_)) g5_21, zAr T 0 a6_34 (zMk mdA n4A (zPl cr0_ inn0_ k10_)) g6_22] := ⟨a1_29, a2_30, a3_31, a4_32, a5_33, a6_34, rfl⟩
      have G : zS T A s.heap s [z1_, wwB, wt, [zO10 xo t im mk rd po co tr wa wb_ fi cd], [zO0 wa m2_15 wy2_16 l0 pc2_17 a1_29 a2_30 a3_31 a4_32 a5_33 a6_34, zAr T 0 a1_29 7 g1_18, zAr T 0 a2_30 7 g2_19, zAr T 0 a3_31 7 f3A, zAr T 0 a4_32 (zMk mdA n4A (zPl cr0_ inn0_ k10_)) g4_20, zAr T 0 a5_33 (zMk mdA n4A (zPl cr0_ inn0_ k10_)) g5_21, zAr T 0 a6_34 (zMk mdA n4A (zPl cr0_ inn0_ k10_)) g6_22], z0_] _ _ := G.re rfl
      refine z_lp2 (T := T) 41 (fun (i : Nat) (u6 : Int32) => [z1_, wwB, wt, [zO10 xo t im mk rd po co tr wa wb_ fi cd], [zO0 wa m2_15 wy2_16 l0 pc2_17 a1_29 a2_30 a3_31 a4_32 a5_33 a6_34, zAr T 0 a1_29 7 g1_18, zAr T 0 a2_30 7 g2_19, zAr T 0 a3_31 7 f3A, zAr T 0 a4_32 (zMk mdA n4A (zPl cr0_ inn0_ k10_)) g4_20, zAr T 0 a5_33 (zMk mdA n4A (zPl cr0_ inn0_ k10_)) g5_21, zAr T 0 a6_34 (zMk mdA n4A (zPl cr0_ inn0_ k10_)) g6_22], z0_]) (fun (i : Nat) (u6 : Int32) => [(7, .int (nI i)), (6, .int u6), (5, .ref wa), (4, .ref l0), (0, .ref xo), (1, .int i1), (2, .int a_), (3, .int w_)]) (fun (i : Nat) (u6 : Int32) => i ≤ aPr (aW cr0_ inn0_ k10_) 7) (fun (i : Nat) (u6 : Int32) => aPr (aW cr0_ inn0_ k10_) 7 - i) ?_ 0 0 (show 0 ≤ aPr (aW cr0_ inn0_ k10_) 7 from (Nat.zero_le _)) G (lv_sub hl [0, 1, 2, 3, 4, 5, 6, 7] rfl)
      intro i u6 hi ih_41 H locs ls G hl
      replace hi : i ≤ aPr (aW cr0_ inn0_ k10_) 7 := hi
      replace G : zS T A s.heap s [z1_, wwB, wt, [zO10 xo t im mk rd po co tr wa wb_ fi cd], [zO0 wa m2_15 wy2_16 l0 pc2_17 a1_29 a2_30 a3_31 a4_32 a5_33 a6_34, zAr T 0 a1_29 7 g1_18, zAr T 0 a2_30 7 g2_19, zAr T 0 a3_31 7 f3A, zAr T 0 a4_32 (zMk mdA n4A (zPl cr0_ inn0_ k10_)) g4_20, zAr T 0 a5_33 (zMk mdA n4A (zPl cr0_ inn0_ k10_)) g5_21, zAr T 0 a6_34 (zMk mdA n4A (zPl cr0_ inn0_ k10_)) g6_22], z0_] _ _ := G
      replace hl : lv_has ls 8 [(7, .int (nI i)), (6, .int u6), (5, .ref wa), (4, .ref l0), (0, .ref xo), (1, .int i1), (2, .int a_), (3, .int w_)] := hl
      refine lv_iload hx hb dX11_mean_41 (lv_at hl 0 rfl) ?_
      refine lv_aload hx hb dX11_mean_43 (lv_at hl 2 rfl) ?_
      have G : zS T A s.heap s [z1_, wwB, wt, [zO10 xo t im mk rd po co tr wa wb_ fi cd], [zO0 wa m2_15 wy2_16 l0 pc2_17 a1_29 a2_30 a3_31 a4_32 a5_33 a6_34], [zAr T 0 a1_29 7 g1_18], [zAr T 0 a2_30 7 g2_19], [zAr T 0 a3_31 7 f3A], [zAr T 0 a4_32 (zMk mdA n4A (zPl cr0_ inn0_ k10_)) g4_20], [zAr T 0 a5_33 (zMk mdA n4A (zPl cr0_ inn0_ k10_)) g5_21], [zAr T 0 a6_34 (zMk mdA n4A (zPl cr0_ inn0_ k10_)) g6_22], z0_] _ _ := G.re rfl
      refine z_get C G clX0 4 rfl 1 (by decide) m_fl_RX11_257 rfl dX11_mean_45 ?_
      refine lv_icmp_ge (tgt := 88) hx hb dX11_mean_48 (by decide) (fun c_36 => ?_) (fun c_36 => ?_)
      · have c_36n : wy2_16.toInt ≤ (i : Int) := by have q := (fa_le _ _).mp c_36; rw [nI_toInt (n := i) (by omega)] at q; exact q
        refine lv_iload hx hb dX11_mean_88 (lv_at hl 1 rfl) ?_
        refine lv_aload hx hb dX11_mean_90 (lv_at hl 2 rfl) ?_
        refine z_get C G clX0 4 rfl 1 (by decide) m_fl_RX11_257 rfl dX11_mean_92 ?_
        refine lv_iload_n hx hb dX11_mean_95 rfl (lv_at hl 7 rfl) ?_
        refine z_Si (bc := []) (br := [z1_, wwB, wt, [zO10 xo t im mk rd po co tr wa wb_ fi cd], [zO0 wa m2_15 wy2_16 l0 pc2_17 a1_29 a2_30 a3_31 a4_32 a5_33 a6_34], [zAr T 0 a1_29 7 g1_18], [zAr T 0 a2_30 7 g2_19], [zAr T 0 a3_31 7 f3A], [zAr T 0 a4_32 (zMk mdA n4A (zPl cr0_ inn0_ k10_)) g4_20], [zAr T 0 a5_33 (zMk mdA n4A (zPl cr0_ inn0_ k10_)) g5_21], [zAr T 0 a6_34 (zMk mdA n4A (zPl cr0_ inn0_ k10_)) g6_22], z0_]) (As := [.int u6, .int wy2_16, .int w_]) (rest := []) C G (c_inLeastTerms l T u6 wy2_16 w_) (kS_RX11_262 C.2.2.2.2 (Nat.le_of_ble_eq_true rfl) (Nat.le_of_ble_eq_true rfl)) [] [] rfl rfl rfl rfl hl.1 dX11_mean_96 (Nat.le_of_ble_eq_true rfl) (by show _ + 0 ≤ 6 * (zNA (i1.toInt = 0 ∧ 0 < (fk 0).toInt ∧ 0 ≤ a_.toInt ∧ a_.toInt < cr0_.toInt ∧ a_.toInt < 7) mdA n4A (zPl cr0_ inn0_ k10_) - n4A) + 6 * (zNA (i1.toInt = 1 ∧ 1 < (fk 0).toInt ∧ 0 ≤ a_.toInt ∧ a_.toInt < cr1_.toInt ∧ a_.toInt < 7) mdB n4B (zPl cr1_ inn1_ k11_) - n4B); omega) (fun r_37 b1 H locs hw G => ?_)
        obtain rfl := hw
        have G : zS T A s.heap s [z1_, wwB, wt, [zO10 xo t im mk rd po co tr wa wb_ fi cd], [zO0 wa m2_15 wy2_16 l0 pc2_17 a1_29 a2_30 a3_31 a4_32 a5_33 a6_34], [zAr T 0 a1_29 7 g1_18], [zAr T 0 a2_30 7 g2_19], [zAr T 0 a3_31 7 f3A], [zAr T 0 a4_32 (zMk mdA n4A (zPl cr0_ inn0_ k10_)) g4_20], [zAr T 0 a5_33 (zMk mdA n4A (zPl cr0_ inn0_ k10_)) g5_21], [zAr T 0 a6_34 (zMk mdA n4A (zPl cr0_ inn0_ k10_)) g6_22], z0_] _ _ := G
        have hw_38 : bWays T wa l0 m2_15 wy2_16 pc2_17 g1_18 g2_19 f3A g4_20 g5_21 g6_22 (zMk mdA n4A (zPl cr0_ inn0_ k10_)) [zO0 wa m2_15 wy2_16 l0 pc2_17 a1_29 a2_30 a3_31 a4_32 a5_33 a6_34, zAr T 0 a1_29 7 g1_18, zAr T 0 a2_30 7 g2_19, zAr T 0 a3_31 7 f3A, zAr T 0 a4_32 (zMk mdA n4A (zPl cr0_ inn0_ k10_)) g4_20, zAr T 0 a5_33 (zMk mdA n4A (zPl cr0_ inn0_ k10_)) g5_21, zAr T 0 a6_34 (zMk mdA n4A (zPl cr0_ inn0_ k10_)) g6_22] := ⟨a1_29, a2_30, a3_31, a4_32, a5_33, a6_34, rfl⟩
        have G : zS T A s.heap s [z1_, wwB, wt, [zO10 xo t im mk rd po co tr wa wb_ fi cd], [zO0 wa m2_15 wy2_16 l0 pc2_17 a1_29 a2_30 a3_31 a4_32 a5_33 a6_34, zAr T 0 a1_29 7 g1_18, zAr T 0 a2_30 7 g2_19, zAr T 0 a3_31 7 f3A, zAr T 0 a4_32 (zMk mdA n4A (zPl cr0_ inn0_ k10_)) g4_20, zAr T 0 a5_33 (zMk mdA n4A (zPl cr0_ inn0_ k10_)) g5_21, zAr T 0 a6_34 (zMk mdA n4A (zPl cr0_ inn0_ k10_)) g6_22], z0_] _ _ := G.re rfl
        have G := G.sub (bs' := [[zO10 xo t im mk rd po co tr wa wb_ fi cd], wt, z0_, z1_, [zO0 wa m2_15 wy2_16 l0 pc2_17 a1_29 a2_30 a3_31 a4_32 a5_33 a6_34, zAr T 0 a1_29 7 g1_18, zAr T 0 a2_30 7 g2_19, zAr T 0 a3_31 7 f3A, zAr T 0 a4_32 (zMk mdA n4A (zPl cr0_ inn0_ k10_)) g4_20, zAr T 0 a5_33 (zMk mdA n4A (zPl cr0_ inn0_ k10_)) g5_21, zAr T 0 a6_34 (zMk mdA n4A (zPl cr0_ inn0_ k10_)) g6_22], wwB]) [3, 2, 5, 0, 4, 1] rfl
        exact z_back hQz_ (z_iret C hr hlocks G (Nat.le_of_ble_eq_true rfl) (by omega) dX11_mean_99 ⟨l0, m2_15, wy2_16, pc2_17, g1_18, g2_19, f3A, g4_20, g5_21, g6_22, (zMk mdA n4A (zPl cr0_ inn0_ k10_)), ([zO0 wa m2_15 wy2_16 l0 pc2_17 a1_29 a2_30 a3_31 a4_32 a5_33 a6_34, zAr T 0 a1_29 7 g1_18, zAr T 0 a2_30 7 g2_19, zAr T 0 a3_31 7 f3A, zAr T 0 a4_32 (zMk mdA n4A (zPl cr0_ inn0_ k10_)) g4_20, zAr T 0 a5_33 (zMk mdA n4A (zPl cr0_ inn0_ k10_)) g5_21, zAr T 0 a6_34 (zMk mdA n4A (zPl cr0_ inn0_ k10_)) g6_22]), laB, mdB, wyB, pc_B, f1B, f2B, f3B, f4B, f5B, f6B, n4B, wwB, rfl, hw_38, (Or.inr rfl), hwy9, hNAm.symm, (zMk_pw hpwA), (fun _ => h_26), (Or.inr h_27), hwwB, hmdB, hwmB, (by first | exact hNAo.symm | exact (zNA_n (by first | omega | grind)).symm), hpwB, (fun q => q), hTbB⟩)
      · have c_36n : ¬ wy2_16.toInt ≤ (i : Int) := fun q => c_36 ((fa_le _ _).mpr (by rw [nI_toInt (n := i) (by omega)]; exact q))
        refine lv_aload hx hb dX11_mean_51 (lv_at hl 3 rfl) ?_
        refine lv_aload hx hb dX11_mean_53 (lv_at hl 2 rfl) ?_
        refine lv_iload hx hb dX11_mean_55 (lv_at hl 0 rfl) ?_
        refine lv_iload_n hx hb dX11_mean_57 rfl (lv_at hl 6 rfl) ?_
        have hw_39 : bWays T wa l0 m2_15 wy2_16 pc2_17 g1_18 g2_19 f3A g4_20 g5_21 g6_22 (zMk mdA n4A (zPl cr0_ inn0_ k10_)) [zO0 wa m2_15 wy2_16 l0 pc2_17 a1_29 a2_30 a3_31 a4_32 a5_33 a6_34, zAr T 0 a1_29 7 g1_18, zAr T 0 a2_30 7 g2_19, zAr T 0 a3_31 7 f3A, zAr T 0 a4_32 (zMk mdA n4A (zPl cr0_ inn0_ k10_)) g4_20, zAr T 0 a5_33 (zMk mdA n4A (zPl cr0_ inn0_ k10_)) g5_21, zAr T 0 a6_34 (zMk mdA n4A (zPl cr0_ inn0_ k10_)) g6_22] := ⟨a1_29, a2_30, a3_31, a4_32, a5_33, a6_34, rfl⟩
        have G : zS T A s.heap s [z1_, wwB, wt, [zO10 xo t im mk rd po co tr wa wb_ fi cd], [zO0 wa m2_15 wy2_16 l0 pc2_17 a1_29 a2_30 a3_31 a4_32 a5_33 a6_34, zAr T 0 a1_29 7 g1_18, zAr T 0 a2_30 7 g2_19, zAr T 0 a3_31 7 f3A, zAr T 0 a4_32 (zMk mdA n4A (zPl cr0_ inn0_ k10_)) g4_20, zAr T 0 a5_33 (zMk mdA n4A (zPl cr0_ inn0_ k10_)) g5_21, zAr T 0 a6_34 (zMk mdA n4A (zPl cr0_ inn0_ k10_)) g6_22], z0_] _ _ := G.re rfl
        refine z_Vi (bc := [[zO0 wa m2_15 wy2_16 l0 pc2_17 a1_29 a2_30 a3_31 a4_32 a5_33 a6_34, zAr T 0 a1_29 7 g1_18, zAr T 0 a2_30 7 g2_19, zAr T 0 a3_31 7 f3A, zAr T 0 a4_32 (zMk mdA n4A (zPl cr0_ inn0_ k10_)) g4_20, zAr T 0 a5_33 (zMk mdA n4A (zPl cr0_ inn0_ k10_)) g5_21, zAr T 0 a6_34 (zMk mdA n4A (zPl cr0_ inn0_ k10_)) g6_22]]) (br := [z1_, wwB, wt, [zO10 xo t im mk rd po co tr wa wb_ fi cd], z0_]) (As := [.int (nI i), .int a_]) (rest := [.ref l0]) C G (c_where l T wa l0 m2_15 wy2_16 pc2_17 g1_18 g2_19 f3A g4_20 g5_21 g6_22 (zMk mdA n4A (zPl cr0_ inn0_ k10_)) ([zO0 wa m2_15 wy2_16 l0 pc2_17 a1_29 a2_30 a3_31 a4_32 a5_33 a6_34, zAr T 0 a1_29 7 g1_18, zAr T 0 a2_30 7 g2_19, zAr T 0 a3_31 7 f3A, zAr T 0 a4_32 (zMk mdA n4A (zPl cr0_ inn0_ k10_)) g4_20, zAr T 0 a5_33 (zMk mdA n4A (zPl cr0_ inn0_ k10_)) g5_21, zAr T 0 a6_34 (zMk mdA n4A (zPl cr0_ inn0_ k10_)) g6_22]) (nI i) a_ hw_39 (by first | with_reducible assumption | with_reducible rfl | omega | assumption | rfl)) (kV_RX11_260 C.2.2.2.2 (Nat.le_of_ble_eq_true rfl) (Nat.le_of_ble_eq_true rfl)) [4] [4] rfl rfl (ci := 0) (qc := (RX0, TX0, 10)) rfl rfl (List.mem_flatten.mpr ⟨_, List.mem_of_getElem? (i := 0) rfl, (bWays_mem hw_39).choose_spec⟩) rfl rfl hl.1 dX11_mean_58 (Nat.le_of_ble_eq_true rfl) (by show _ + 0 ≤ 6 * (zNA (i1.toInt = 0 ∧ 0 < (fk 0).toInt ∧ 0 ≤ a_.toInt ∧ a_.toInt < cr0_.toInt ∧ a_.toInt < 7) mdA n4A (zPl cr0_ inn0_ k10_) - n4A) + 6 * (zNA (i1.toInt = 1 ∧ 1 < (fk 0).toInt ∧ 0 ≤ a_.toInt ∧ a_.toInt < cr1_.toInt ∧ a_.toInt < 7) mdB n4B (zPl cr1_ inn1_ k11_) - n4B); omega) (fun r_41 b1 H locs hw G => ?_)
        refine zAn2 hw ?_
        intro hbs9 h_40
        clear hw
        subst hbs9
        have G : zS T A s.heap s [z1_, wwB, wt, [zO10 xo t im mk rd po co tr wa wb_ fi cd], z0_, [zO0 wa m2_15 wy2_16 l0 pc2_17 a1_29 a2_30 a3_31 a4_32 a5_33 a6_34, zAr T 0 a1_29 7 g1_18, zAr T 0 a2_30 7 g2_19, zAr T 0 a3_31 7 f3A, zAr T 0 a4_32 (zMk mdA n4A (zPl cr0_ inn0_ k10_)) g4_20, zAr T 0 a5_33 (zMk mdA n4A (zPl cr0_ inn0_ k10_)) g5_21, zAr T 0 a6_34 (zMk mdA n4A (zPl cr0_ inn0_ k10_)) g6_22]] _ _ := G
        subst h_40
        refine z_Vi (bc := [z0_]) (br := [z1_, wwB, wt, [zO10 xo t im mk rd po co tr wa wb_ fi cd], [zO0 wa m2_15 wy2_16 l0 pc2_17 a1_29 a2_30 a3_31 a4_32 a5_33 a6_34, zAr T 0 a1_29 7 g1_18, zAr T 0 a2_30 7 g2_19, zAr T 0 a3_31 7 f3A, zAr T 0 a4_32 (zMk mdA n4A (zPl cr0_ inn0_ k10_)) g4_20, zAr T 0 a5_33 (zMk mdA n4A (zPl cr0_ inn0_ k10_)) g5_21, zAr T 0 a6_34 (zMk mdA n4A (zPl cr0_ inn0_ k10_)) g6_22]]) (As := [.int (zEntry g5_21 (zMk mdA n4A (zPl cr0_ inn0_ k10_)) (nI i) a_ &&& 7)]) (rest := []) C G (c_isInn l T l0 cr0_ inn0_ k10_ k20_ k30_ k40_ z0_ (zEntry g5_21 (zMk mdA n4A (zPl cr0_ inn0_ k10_)) (nI i) a_ &&& 7) hz0_) (kV_RX11_174 C.2.2.2.2 (Nat.le_of_ble_eq_true rfl) (Nat.le_of_ble_eq_true rfl)) [4] [4] rfl rfl (ci := 4) (qc := (RX4, TX4, 6)) rfl rfl (List.mem_flatten.mpr ⟨_, List.mem_of_getElem? (i := 0) rfl, (bLand_mem hz0_).choose_spec⟩) rfl rfl hl.1 dX11_mean_61 (Nat.le_of_ble_eq_true rfl) (by show _ + 0 ≤ 6 * (zNA (i1.toInt = 0 ∧ 0 < (fk 0).toInt ∧ 0 ≤ a_.toInt ∧ a_.toInt < cr0_.toInt ∧ a_.toInt < 7) mdA n4A (zPl cr0_ inn0_ k10_) - n4A) + 6 * (zNA (i1.toInt = 1 ∧ 1 < (fk 0).toInt ∧ 0 ≤ a_.toInt ∧ a_.toInt < cr1_.toInt ∧ a_.toInt < 7) mdB n4B (zPl cr1_ inn1_ k11_) - n4B); omega) (fun r_43 b1 H locs hw G => ?_)
        refine zAn2 hw ?_
        intro hbs9 hc_42
        clear hw
        subst hbs9
        have G : zS T A s.heap s [z1_, wwB, wt, [zO10 xo t im mk rd po co tr wa wb_ fi cd], [zO0 wa m2_15 wy2_16 l0 pc2_17 a1_29 a2_30 a3_31 a4_32 a5_33 a6_34, zAr T 0 a1_29 7 g1_18, zAr T 0 a2_30 7 g2_19, zAr T 0 a3_31 7 f3A, zAr T 0 a4_32 (zMk mdA n4A (zPl cr0_ inn0_ k10_)) g4_20, zAr T 0 a5_33 (zMk mdA n4A (zPl cr0_ inn0_ k10_)) g5_21, zAr T 0 a6_34 (zMk mdA n4A (zPl cr0_ inn0_ k10_)) g6_22], z0_] _ _ := G
        rcases hc_42 with ⟨rfl, h_44, h_45, h_46, h_47⟩ | ⟨rfl, h_48⟩
        · have h_44 : 0 ≤ (zEntry g5_21 (zMk mdA n4A (zPl cr0_ inn0_ k10_)) (nI i) a_ &&& 7).toInt := h_44
          have h_45 : (zEntry g5_21 (zMk mdA n4A (zPl cr0_ inn0_ k10_)) (nI i) a_ &&& 7).toInt < cr0_.toInt := h_45
          have h_46 : (zEntry g5_21 (zMk mdA n4A (zPl cr0_ inn0_ k10_)) (nI i) a_ &&& 7).toInt < 7 := h_46
          have h_47 : ¬ zBit inn0_ (zEntry g5_21 (zMk mdA n4A (zPl cr0_ inn0_ k10_)) (nI i) a_ &&& 7) = 0 := h_47
          refine lv_if_ne (tgt := 69) hx hb dX11_mean_64 (by decide) (fun _ => ?_) (fun q => absurd q (by decide))
          refine lv_iload hx hb dX11_mean_69 (lv_at hl 1 rfl) ?_
          refine lv_aload hx hb dX11_mean_71 (lv_at hl 2 rfl) ?_
          refine lv_iload hx hb dX11_mean_73 (lv_at hl 0 rfl) ?_
          refine lv_iload_n hx hb dX11_mean_75 rfl (lv_at hl 6 rfl) ?_
          refine z_Vi (bc := [[zO0 wa m2_15 wy2_16 l0 pc2_17 a1_29 a2_30 a3_31 a4_32 a5_33 a6_34, zAr T 0 a1_29 7 g1_18, zAr T 0 a2_30 7 g2_19, zAr T 0 a3_31 7 f3A, zAr T 0 a4_32 (zMk mdA n4A (zPl cr0_ inn0_ k10_)) g4_20, zAr T 0 a5_33 (zMk mdA n4A (zPl cr0_ inn0_ k10_)) g5_21, zAr T 0 a6_34 (zMk mdA n4A (zPl cr0_ inn0_ k10_)) g6_22]]) (br := [z1_, wwB, wt, [zO10 xo t im mk rd po co tr wa wb_ fi cd], z0_]) (As := [.int (nI i), .int a_]) (rest := [.int u6]) C G (c_steps l T wa l0 m2_15 wy2_16 pc2_17 g1_18 g2_19 f3A g4_20 g5_21 g6_22 (zMk mdA n4A (zPl cr0_ inn0_ k10_)) ([zO0 wa m2_15 wy2_16 l0 pc2_17 a1_29 a2_30 a3_31 a4_32 a5_33 a6_34, zAr T 0 a1_29 7 g1_18, zAr T 0 a2_30 7 g2_19, zAr T 0 a3_31 7 f3A, zAr T 0 a4_32 (zMk mdA n4A (zPl cr0_ inn0_ k10_)) g4_20, zAr T 0 a5_33 (zMk mdA n4A (zPl cr0_ inn0_ k10_)) g5_21, zAr T 0 a6_34 (zMk mdA n4A (zPl cr0_ inn0_ k10_)) g6_22]) (nI i) a_ hw_39 (by first | with_reducible assumption | with_reducible rfl | omega | assumption | rfl)) (kV_RX11_266 C.2.2.2.2 (Nat.le_of_ble_eq_true rfl) (Nat.le_of_ble_eq_true rfl)) [4] [4] rfl rfl (ci := 0) (qc := (RX0, TX0, 10)) rfl rfl (List.mem_flatten.mpr ⟨_, List.mem_of_getElem? (i := 0) rfl, (bWays_mem hw_39).choose_spec⟩) rfl rfl hl.1 dX11_mean_76 (Nat.le_of_ble_eq_true rfl) (by show _ + 0 ≤ 6 * (zNA (i1.toInt = 0 ∧ 0 < (fk 0).toInt ∧ 0 ≤ a_.toInt ∧ a_.toInt < cr0_.toInt ∧ a_.toInt < 7) mdA n4A (zPl cr0_ inn0_ k10_) - n4A) + 6 * (zNA (i1.toInt = 1 ∧ 1 < (fk 0).toInt ∧ 0 ≤ a_.toInt ∧ a_.toInt < cr1_.toInt ∧ a_.toInt < 7) mdB n4B (zPl cr1_ inn1_ k11_) - n4B); omega) (fun r_50 b1 H locs hw G => ?_)
          refine zAn2 hw ?_
          intro hbs9 h_49
          clear hw
          subst hbs9
          have G : zS T A s.heap s [z1_, wwB, wt, [zO10 xo t im mk rd po co tr wa wb_ fi cd], z0_, [zO0 wa m2_15 wy2_16 l0 pc2_17 a1_29 a2_30 a3_31 a4_32 a5_33 a6_34, zAr T 0 a1_29 7 g1_18, zAr T 0 a2_30 7 g2_19, zAr T 0 a3_31 7 f3A, zAr T 0 a4_32 (zMk mdA n4A (zPl cr0_ inn0_ k10_)) g4_20, zAr T 0 a5_33 (zMk mdA n4A (zPl cr0_ inn0_ k10_)) g5_21, zAr T 0 a6_34 (zMk mdA n4A (zPl cr0_ inn0_ k10_)) g6_22]] _ _ := G
          subst h_49
          refine lv_iadd hx hb dX11_mean_79 ?_
          refine lv_istore (lv' := [(6, .int (u6 + (zEntry g5_21 (zMk mdA n4A (zPl cr0_ inn0_ k10_)) (nI i) a_ >>> (17 &&& 31)))), (7, .int (nI i)), (5, .ref wa), (4, .ref l0), (0, .ref xo), (1, .int i1), (2, .int a_), (3, .int w_)]) hx hb dX11_mean_80 hl (by decide) (zLvf_h rfl) (fun ls hl => ?_)
          refine lv_iinc (v := nI (i + 1)) (lv' := [(7, .int (nI (i + 1))), (6, .int (u6 + (zEntry g5_21 (zMk mdA n4A (zPl cr0_ inn0_ k10_)) (nI i) a_ >>> (17 &&& 31)))), (5, .ref wa), (4, .ref l0), (0, .ref xo), (1, .int i1), (2, .int a_), (3, .int w_)]) hx hb dX11_mean_82 hl (k := 1) rfl (z_inc i 1) (by decide) (zLvf_h rfl) (fun ls hl => ?_)
          refine lv_goto (tgt := 41) hx hb dX11_mean_85 (by decide) ?_
          have G := G.sub (bs' := [z1_, wwB, wt, [zO10 xo t im mk rd po co tr wa wb_ fi cd], [zO0 wa m2_15 wy2_16 l0 pc2_17 a1_29 a2_30 a3_31 a4_32 a5_33 a6_34, zAr T 0 a1_29 7 g1_18, zAr T 0 a2_30 7 g2_19, zAr T 0 a3_31 7 f3A, zAr T 0 a4_32 (zMk mdA n4A (zPl cr0_ inn0_ k10_)) g4_20, zAr T 0 a5_33 (zMk mdA n4A (zPl cr0_ inn0_ k10_)) g5_21, zAr T 0 a6_34 (zMk mdA n4A (zPl cr0_ inn0_ k10_)) g6_22], z0_]) [0, 1, 2, 3, 5, 4] rfl
          exact ih_41 (i + 1) (u6 + (zEntry g5_21 (zMk mdA n4A (zPl cr0_ inn0_ k10_)) (nI i) a_ >>> (17 &&& 31))) (show (i + 1) ≤ aPr (aW cr0_ inn0_ k10_) 7 from (by omega)) (show aPr (aW cr0_ inn0_ k10_) 7 - (i + 1) < aPr (aW cr0_ inn0_ k10_) 7 - i from by omega) _ _ ls G (lv_sub hl [0, 1, 2, 3, 4, 5, 6, 7] rfl)
        · have h_48 : ((zEntry g5_21 (zMk mdA n4A (zPl cr0_ inn0_ k10_)) (nI i) a_ &&& 7).toInt < 0 ∨ cr0_.toInt ≤ (zEntry g5_21 (zMk mdA n4A (zPl cr0_ inn0_ k10_)) (nI i) a_ &&& 7).toInt ∨ 7 ≤ (zEntry g5_21 (zMk mdA n4A (zPl cr0_ inn0_ k10_)) (nI i) a_ &&& 7).toInt ∨ zBit inn0_ (zEntry g5_21 (zMk mdA n4A (zPl cr0_ inn0_ k10_)) (nI i) a_ &&& 7) = 0) := h_48
          refine lv_if_ne (tgt := 69) hx hb dX11_mean_64 (by decide) (fun q => absurd (by decide) q) (fun _ => ?_)
          refine lv_iconst (v := (-1)) hx hb dX11_mean_67 (by decide) ?_
          have G := G.sub (bs' := [[zO10 xo t im mk rd po co tr wa wb_ fi cd], wt, z0_, z1_, [zO0 wa m2_15 wy2_16 l0 pc2_17 a1_29 a2_30 a3_31 a4_32 a5_33 a6_34, zAr T 0 a1_29 7 g1_18, zAr T 0 a2_30 7 g2_19, zAr T 0 a3_31 7 f3A, zAr T 0 a4_32 (zMk mdA n4A (zPl cr0_ inn0_ k10_)) g4_20, zAr T 0 a5_33 (zMk mdA n4A (zPl cr0_ inn0_ k10_)) g5_21, zAr T 0 a6_34 (zMk mdA n4A (zPl cr0_ inn0_ k10_)) g6_22], wwB]) [3, 2, 5, 0, 4, 1] rfl
          exact z_back hQz_ (z_iret C hr hlocks G (Nat.le_of_ble_eq_true rfl) (by omega) dX11_mean_68 ⟨l0, m2_15, wy2_16, pc2_17, g1_18, g2_19, f3A, g4_20, g5_21, g6_22, (zMk mdA n4A (zPl cr0_ inn0_ k10_)), ([zO0 wa m2_15 wy2_16 l0 pc2_17 a1_29 a2_30 a3_31 a4_32 a5_33 a6_34, zAr T 0 a1_29 7 g1_18, zAr T 0 a2_30 7 g2_19, zAr T 0 a3_31 7 f3A, zAr T 0 a4_32 (zMk mdA n4A (zPl cr0_ inn0_ k10_)) g4_20, zAr T 0 a5_33 (zMk mdA n4A (zPl cr0_ inn0_ k10_)) g5_21, zAr T 0 a6_34 (zMk mdA n4A (zPl cr0_ inn0_ k10_)) g6_22]), laB, mdB, wyB, pc_B, f1B, f2B, f3B, f4B, f5B, f6B, n4B, wwB, rfl, hw_39, (Or.inr rfl), hwy9, hNAm.symm, (zMk_pw hpwA), (fun _ => h_26), (Or.inr h_27), hwwB, hmdB, hwmB, (by first | exact hNAo.symm | exact (zNA_n (by first | omega | grind)).symm), hpwB, (fun q => q), hTbB⟩)
    · have h_13 : (a_.toInt < 0 ∨ cr0_.toInt ≤ a_.toInt ∨ 7 ≤ a_.toInt) := h_13
      refine lv_if_ne (tgt := 26) hx hb dX11_mean_21 (by decide) (fun q => absurd (by decide) q) (fun _ => ?_)
      refine lv_iconst (v := (-1)) hx hb dX11_mean_24 (by decide) ?_
      have G := G.sub (bs' := [[zO10 xo t im mk rd po co tr wa wb_ fi cd], wt, z0_, z1_, wwA, wwB]) [0, 4, 5, 1, 2, 3] rfl
      exact z_back hQz_ (z_iret C hr hlocks G (Nat.le_of_ble_eq_true rfl) (by omega) dX11_mean_25 ⟨laA, mdA, wyA, pc_A, f1A, f2A, f3A, f4A, f5A, f6A, n4A, wwA, laB, mdB, wyB, pc_B, f1B, f2B, f3B, f4B, f5B, f6B, n4B, wwB, rfl, hwwA, hmdA, hwmA, (by first | exact hNAo.symm | exact (zNA_n (by first | omega | grind)).symm), hpwA, (fun q => q), hTbA, hwwB, hmdB, hwmB, (by first | exact hNAo.symm | exact (zNA_n (by first | omega | grind)).symm), hpwB, (fun q => q), hTbB⟩)
  · have h_6 : i1.toInt = 1 := h_6
    have h_7 : 1 < (fk 0).toInt := h_7
    refine lv_astore (lv' := [(4, .ref l1), (0, .ref xo), (1, .int i1), (2, .int a_), (3, .int w_)]) hx hb dX11_mean_8 hl (by decide) (zLvf_h rfl) (fun ls hl => ?_)
    refine lv_aload hx hb dX11_mean_10 (lv_at hl 0 rfl) ?_
    refine lv_ifnull hx hb dX11_mean_12 ?_
    refine lv_aload hx hb dX11_mean_15 (lv_at hl 0 rfl) ?_
    refine lv_iload_n hx hb dX11_mean_17 rfl (lv_at hl 3 rfl) ?_
    refine z_Vi (bc := [z1_]) (br := [[zO10 xo t im mk rd po co tr wa wb_ fi cd], z0_, wwA, wwB, wt]) (As := [.int a_]) (rest := []) C G (c_has l T l1 cr1_ inn1_ k11_ k21_ k31_ k41_ z1_ a_ hz1_) (kV_RX11_160 C.2.2.2.2 (Nat.le_of_ble_eq_true rfl) (Nat.le_of_ble_eq_true rfl)) [2] [2] rfl rfl (ci := 4) (qc := (RX4, TX4, 6)) rfl rfl (List.mem_flatten.mpr ⟨_, List.mem_of_getElem? (i := 0) rfl, (bLand_mem hz1_).choose_spec⟩) rfl rfl hl.1 dX11_mean_18 (Nat.le_of_ble_eq_true rfl) (by show _ + 0 ≤ 6 * (zNA (i1.toInt = 0 ∧ 0 < (fk 0).toInt ∧ 0 ≤ a_.toInt ∧ a_.toInt < cr0_.toInt ∧ a_.toInt < 7) mdA n4A (zPl cr0_ inn0_ k10_) - n4A) + 6 * (zNA (i1.toInt = 1 ∧ 1 < (fk 0).toInt ∧ 0 ≤ a_.toInt ∧ a_.toInt < cr1_.toInt ∧ a_.toInt < 7) mdB n4B (zPl cr1_ inn1_ k11_) - n4B); omega) (fun r_52 b1 H locs hw G => ?_)
    refine zAn2 hw ?_
    intro hbs9 hc_51
    clear hw
    subst hbs9
    have G : zS T A s.heap s [[zO10 xo t im mk rd po co tr wa wb_ fi cd], z0_, wwA, wwB, wt, z1_] _ _ := G
    rcases hc_51 with ⟨rfl, h_53, h_54, h_55⟩ | ⟨rfl, h_56⟩
    · have h_53 : 0 ≤ a_.toInt := h_53
      have h_54 : a_.toInt < cr1_.toInt := h_54
      have h_55 : a_.toInt < 7 := h_55
      refine lv_if_ne (tgt := 26) hx hb dX11_mean_21 (by decide) (fun _ => ?_) (fun q => absurd q (by decide))
      refine lv_aload_n hx hb dX11_mean_26 rfl (lv_at hl 1 rfl) ?_
      refine lv_iload_n hx hb dX11_mean_27 rfl (lv_at hl 2 rfl) ?_
      refine lv_aload hx hb dX11_mean_28 (lv_at hl 0 rfl) ?_
      have hNAm : zNA (i1.toInt = 1 ∧ 1 < (fk 0).toInt ∧ 0 ≤ a_.toInt ∧ a_.toInt < cr1_.toInt ∧ a_.toInt < 7) mdB n4B (zPl cr1_ inn1_ k11_) = zMk mdB n4B (zPl cr1_ inn1_ k11_) := zNA_y (by first | omega | (repeat' (first | omega | assumption | constructor)))
      have hNAo : zNA (i1.toInt = 0 ∧ 0 < (fk 0).toInt ∧ 0 ≤ a_.toInt ∧ a_.toInt < cr0_.toInt ∧ a_.toInt < 7) mdA n4A (zPl cr0_ inn0_ k10_) = n4A := zNA_n (by omega)
      have hn9 : zMk mdB n4B (zPl cr1_ inn1_ k11_) ≤ 131072 := zPw_le (zMk_pw hpwB)
      refine z_Vq (bc := [[zO10 xo t im mk rd po co tr wa wb_ fi cd], wwB, z1_]) (br := [z0_, wwA, wt]) (As := [.int i1, .ref l1]) (rest := []) C G (c_f_waysInB l T xo t im mk rd po co tr wa wb_ fi cd i1 laB mdB wyB pc_B f1B f2B f3B f4B f5B f6B n4B wwB l1 cr1_ inn1_ k11_ k21_ k31_ k41_ z1_ hwwB hz1_ hI1_ hpwB hmdB (kaOk hI1_ hLq1).1 hTbB (by omega)) (kV_RX11_235 C.2.2.2.2 (Nat.le_of_ble_eq_true rfl) (Nat.le_of_ble_eq_true rfl)) [0, 3, 5] [0, 2, 1] rfl rfl (ci := 10) (qc := (RX11, TX11, 11)) rfl rfl (List.mem_flatten.mpr ⟨_, List.mem_of_getElem? (i := 0) rfl, List.mem_cons_self⟩) rfl rfl hl.1 dX11_mean_30 (Nat.le_of_ble_eq_true rfl) (by show _ + (6 * (zMk mdB n4B (zPl cr1_ inn1_ k11_) - n4B)) ≤ 6 * (zNA (i1.toInt = 0 ∧ 0 < (fk 0).toInt ∧ 0 ≤ a_.toInt ∧ a_.toInt < cr0_.toInt ∧ a_.toInt < 7) mdA n4A (zPl cr0_ inn0_ k10_) - n4A) + 6 * (zNA (i1.toInt = 1 ∧ 1 < (fk 0).toInt ∧ 0 ≤ a_.toInt ∧ a_.toInt < cr1_.toInt ∧ a_.toInt < 7) mdB n4B (zPl cr1_ inn1_ k11_) - n4B); omega) (fun r_71 b1 H locs hw G => ?_)
      refine zEx9 hw ?_
      intro w2_57 m2_58 wy2_59 pc2_60 g1_61 g2_62 g4_63 g5_64 g6_65
      refine zCu6 ?_
      intro hbs9 h_66 h_67 h_68 h_69 h_70
      clear hw
      subst hbs9
      have G : zS T A s.heap s [z0_, wwA, wt, [zO10 xo t im mk rd po co tr wa wb_ fi cd], w2_57, z1_] _ _ := G
      subst h_66
      have hwy9 : 0 ≤ wy2_59.toInt ∧ wy2_59.toInt ≤ 16384 := by have q9 := zWy_in (inn := inn1_) hI1_; rw [h_68]; exact ⟨by omega, q9.2⟩
      have hp79 : aPr (aW cr1_ inn1_ k11_) 7 ≤ 16384 := aPr_7 hI1_
      have hwN9 : wy2_59 = nI (aPr (aW cr1_ inn1_ k11_) 7) := h_68.trans (zWy_z hI1_)
      have hwT9 : wy2_59.toInt = ((aPr (aW cr1_ inn1_ k11_) 7 : Nat) : Int) := by rw [hwN9, nI_toInt (by omega)]
      have hOk9 := (kaOk (inn := inn1_) hI1_ hLq1).1
      have hc79 := hI1_.1
      refine lv_astore (lv' := [(5, .ref wb_), (4, .ref l1), (0, .ref xo), (1, .int i1), (2, .int a_), (3, .int w_)]) hx hb dX11_mean_33 hl (by decide) (zLvf_h rfl) (fun ls hl => ?_)
      refine lv_iconst (v := 0) hx hb dX11_mean_35 (by decide) ?_
      refine lv_istore (lv' := [(6, .int 0), (5, .ref wb_), (4, .ref l1), (0, .ref xo), (1, .int i1), (2, .int a_), (3, .int w_)]) hx hb dX11_mean_36 hl (by decide) (zLvf_h rfl) (fun ls hl => ?_)
      refine lv_iconst (v := 0) hx hb dX11_mean_38 (by decide) ?_
      refine lv_istore (lv' := [(7, .int 0), (6, .int 0), (5, .ref wb_), (4, .ref l1), (0, .ref xo), (1, .int i1), (2, .int a_), (3, .int w_)]) hx hb dX11_mean_39 hl (by decide) (zLvf_h rfl) (fun ls hl => ?_)
      refine zEx6 h_67 ?_
      intro a1_72 a2_73 a3_74 a4_75 a5_76 a6_77 hbs9
      clear h_67
      subst hbs9
      have G : zS T A s.heap s [z0_, wwA, wt, [zO10 xo t im mk rd po co tr wa wb_ fi cd], [zO0 wb_ m2_58 wy2_59 l1 pc2_60 a1_72 a2_73 a3_74 a4_75 a5_76 a6_77], [zAr T 0 a1_72 7 g1_61], [zAr T 0 a2_73 7 g2_62], [zAr T 0 a3_74 7 f3B], [zAr T 0 a4_75 (zMk mdB n4B (zPl cr1_ inn1_ k11_)) g4_63], [zAr T 0 a5_76 (zMk mdB n4B (zPl cr1_ inn1_ k11_)) g5_64], [zAr T 0 a6_77 (zMk mdB n4B (zPl cr1_ inn1_ k11_)) g6_65], z1_] _ _ := G.re rfl
      have hw_78 : bWays T wb_ l1 m2_58 wy2_59 pc2_60 g1_61 g2_62 f3B g4_63 g5_64 g6_65 (zMk mdB n4B (zPl cr1_ inn1_ k11_)) [zO0 wb_ m2_58 wy2_59 l1 pc2_60 a1_72 a2_73 a3_74 a4_75 a5_76 a6_77, zAr T 0 a1_72 7 g1_61, zAr T 0 a2_73 7 g2_62, zAr T 0 a3_74 7 f3B, zAr T 0 a4_75 (zMk mdB n4B (zPl cr1_ inn1_ k11_)) g4_63, zAr T 0 a5_76 (zMk mdB n4B (zPl cr1_ inn1_ k11_)) g5_64, zAr T 0 a6_77 (zMk mdB n4B (zPl cr1_ inn1_ k11_)) g6_65] := ⟨a1_72, a2_73, a3_74, a4_75, a5_76, a6_77, rfl⟩
      have G : zS T A s.heap s [z0_, wwA, wt, [zO10 xo t im mk rd po co tr wa wb_ fi cd], [zO0 wb_ m2_58 wy2_59 l1 pc2_60 a1_72 a2_73 a3_74 a4_75 a5_76 a6_77, zAr T 0 a1_72 7 g1_61, zAr T 0 a2_73 7 g2_62, zAr T 0 a3_74 7 f3B, zAr T 0 a4_75 (zMk mdB n4B (zPl cr1_ inn1_ k11_)) g4_63, zAr T 0 a5_76 (zMk mdB n4B (zPl cr1_ inn1_ k11_)) g5_64, zAr T 0 a6_77 (zMk mdB n4B (zPl cr1_ inn1_ k11_)) g6_65], z1_] _ _ := G.re rfl
      refine z_lp2 (T := T) 41 (fun (i : Nat) (u6 : Int32) => [z0_, wwA, wt, [zO10 xo t im mk rd po co tr wa wb_ fi cd], [zO0 wb_ m2_58 wy2_59 l1 pc2_60 a1_72 a2_73 a3_74 a4_75 a5_76 a6_77, zAr T 0 a1_72 7 g1_61, zAr T 0 a2_73 7 g2_62, zAr T 0 a3_74 7 f3B, zAr T 0 a4_75 (zMk mdB n4B (zPl cr1_ inn1_ k11_)) g4_63, zAr T 0 a5_76 (zMk mdB n4B (zPl cr1_ inn1_ k11_)) g5_64, zAr T 0 a6_77 (zMk mdB n4B (zPl cr1_ inn1_ k11_)) g6_65], z1_]) (fun (i : Nat) (u6 : Int32) => [(7, .int (nI i)), (6, .int u6), (5, .ref wb_), (4, .ref l1), (0, .ref xo), (1, .int i1), (2, .int a_), (3, .int w_)]) (fun (i : Nat) (u6 : Int32) => i ≤ aPr (aW cr1_ inn1_ k11_) 7) (fun (i : Nat) (u6 : Int32) => aPr (aW cr1_ inn1_ k11_) 7 - i) ?_ 0 0 (show 0 ≤ aPr (aW cr1_ inn1_ k11_) 7 from (Nat.zero_le _)) G (lv_sub hl [0, 1, 2, 3, 4, 5, 6, 7] rfl)
      intro i u6 hi ih_41 H locs ls G hl
      replace hi : i ≤ aPr (aW cr1_ inn1_ k11_) 7 := hi
      replace G : zS T A s.heap s [z0_, wwA, wt, [zO10 xo t im mk rd po co tr wa wb_ fi cd], [zO0 wb_ m2_58 wy2_59 l1 pc2_60 a1_72 a2_73 a3_74 a4_75 a5_76 a6_77, zAr T 0 a1_72 7 g1_61, zAr T 0 a2_73 7 g2_62, zAr T 0 a3_74 7 f3B, zAr T 0 a4_75 (zMk mdB n4B (zPl cr1_ inn1_ k11_)) g4_63, zAr T 0 a5_76 (zMk mdB n4B (zPl cr1_ inn1_ k11_)) g5_64, zAr T 0 a6_77 (zMk mdB n4B (zPl cr1_ inn1_ k11_)) g6_65], z1_] _ _ := G
      replace hl : lv_has ls 8 [(7, .int (nI i)), (6, .int u6), (5, .ref wb_), (4, .ref l1), (0, .ref xo), (1, .int i1), (2, .int a_), (3, .int w_)] := hl
      refine lv_iload hx hb dX11_mean_41 (lv_at hl 0 rfl) ?_
      refine lv_aload hx hb dX11_mean_43 (lv_at hl 2 rfl) ?_
      have G : zS T A s.heap s [z0_, wwA, wt, [zO10 xo t im mk rd po co tr wa wb_ fi cd], [zO0 wb_ m2_58 wy2_59 l1 pc2_60 a1_72 a2_73 a3_74 a4_75 a5_76 a6_77], [zAr T 0 a1_72 7 g1_61], [zAr T 0 a2_73 7 g2_62], [zAr T 0 a3_74 7 f3B], [zAr T 0 a4_75 (zMk mdB n4B (zPl cr1_ inn1_ k11_)) g4_63], [zAr T 0 a5_76 (zMk mdB n4B (zPl cr1_ inn1_ k11_)) g5_64], [zAr T 0 a6_77 (zMk mdB n4B (zPl cr1_ inn1_ k11_)) g6_65], z1_] _ _ := G.re rfl
      refine z_get C G clX0 4 rfl 1 (by decide) m_fl_RX11_257 rfl dX11_mean_45 ?_
      refine lv_icmp_ge (tgt := 88) hx hb dX11_mean_48 (by decide) (fun c_79 => ?_) (fun c_79 => ?_)
      · have c_79n : wy2_59.toInt ≤ (i : Int) := by have q := (fa_le _ _).mp c_79; rw [nI_toInt (n := i) (by omega)] at q; exact q
        refine lv_iload hx hb dX11_mean_88 (lv_at hl 1 rfl) ?_
        refine lv_aload hx hb dX11_mean_90 (lv_at hl 2 rfl) ?_
        refine z_get C G clX0 4 rfl 1 (by decide) m_fl_RX11_257 rfl dX11_mean_92 ?_
        refine lv_iload_n hx hb dX11_mean_95 rfl (lv_at hl 7 rfl) ?_
        refine z_Si (bc := []) (br := [z0_, wwA, wt, [zO10 xo t im mk rd po co tr wa wb_ fi cd], [zO0 wb_ m2_58 wy2_59 l1 pc2_60 a1_72 a2_73 a3_74 a4_75 a5_76 a6_77], [zAr T 0 a1_72 7 g1_61], [zAr T 0 a2_73 7 g2_62], [zAr T 0 a3_74 7 f3B], [zAr T 0 a4_75 (zMk mdB n4B (zPl cr1_ inn1_ k11_)) g4_63], [zAr T 0 a5_76 (zMk mdB n4B (zPl cr1_ inn1_ k11_)) g5_64], [zAr T 0 a6_77 (zMk mdB n4B (zPl cr1_ inn1_ k11_)) g6_65], z1_]) (As := [.int u6, .int wy2_59, .int w_]) (rest := []) C G (c_inLeastTerms l T u6 wy2_59 w_) (kS_RX11_262 C.2.2.2.2 (Nat.le_of_ble_eq_true rfl) (Nat.le_of_ble_eq_true rfl)) [] [] rfl rfl rfl rfl hl.1 dX11_mean_96 (Nat.le_of_ble_eq_true rfl) (by show _ + 0 ≤ 6 * (zNA (i1.toInt = 0 ∧ 0 < (fk 0).toInt ∧ 0 ≤ a_.toInt ∧ a_.toInt < cr0_.toInt ∧ a_.toInt < 7) mdA n4A (zPl cr0_ inn0_ k10_) - n4A) + 6 * (zNA (i1.toInt = 1 ∧ 1 < (fk 0).toInt ∧ 0 ≤ a_.toInt ∧ a_.toInt < cr1_.toInt ∧ a_.toInt < 7) mdB n4B (zPl cr1_ inn1_ k11_) - n4B); omega) (fun r_80 b1 H locs hw G => ?_)
        obtain rfl := hw
        have G : zS T A s.heap s [z0_, wwA, wt, [zO10 xo t im mk rd po co tr wa wb_ fi cd], [zO0 wb_ m2_58 wy2_59 l1 pc2_60 a1_72 a2_73 a3_74 a4_75 a5_76 a6_77], [zAr T 0 a1_72 7 g1_61], [zAr T 0 a2_73 7 g2_62], [zAr T 0 a3_74 7 f3B], [zAr T 0 a4_75 (zMk mdB n4B (zPl cr1_ inn1_ k11_)) g4_63], [zAr T 0 a5_76 (zMk mdB n4B (zPl cr1_ inn1_ k11_)) g5_64], [zAr T 0 a6_77 (zMk mdB n4B (zPl cr1_ inn1_ k11_)) g6_65], z1_] _ _ := G
        have hw_81 : bWays T wb_ l1 m2_58 wy2_59 pc2_60 g1_61 g2_62 f3B g4_63 g5_64 g6_65 (zMk mdB n4B (zPl cr1_ inn1_ k11_)) [zO0 wb_ m2_58 wy2_59 l1 pc2_60 a1_72 a2_73 a3_74 a4_75 a5_76 a6_77, zAr T 0 a1_72 7 g1_61, zAr T 0 a2_73 7 g2_62, zAr T 0 a3_74 7 f3B, zAr T 0 a4_75 (zMk mdB n4B (zPl cr1_ inn1_ k11_)) g4_63, zAr T 0 a5_76 (zMk mdB n4B (zPl cr1_ inn1_ k11_)) g5_64, zAr T 0 a6_77 (zMk mdB n4B (zPl cr1_ inn1_ k11_)) g6_65] := ⟨a1_72, a2_73, a3_74, a4_75, a5_76, a6_77, rfl⟩
        have G : zS T A s.heap s [z0_, wwA, wt, [zO10 xo t im mk rd po co tr wa wb_ fi cd], [zO0 wb_ m2_58 wy2_59 l1 pc2_60 a1_72 a2_73 a3_74 a4_75 a5_76 a6_77, zAr T 0 a1_72 7 g1_61, zAr T 0 a2_73 7 g2_62, zAr T 0 a3_74 7 f3B, zAr T 0 a4_75 (zMk mdB n4B (zPl cr1_ inn1_ k11_)) g4_63, zAr T 0 a5_76 (zMk mdB n4B (zPl cr1_ inn1_ k11_)) g5_64, zAr T 0 a6_77 (zMk mdB n4B (zPl cr1_ inn1_ k11_)) g6_65], z1_] _ _ := G.re rfl
        have G := G.sub (bs' := [[zO10 xo t im mk rd po co tr wa wb_ fi cd], wt, z0_, z1_, wwA, [zO0 wb_ m2_58 wy2_59 l1 pc2_60 a1_72 a2_73 a3_74 a4_75 a5_76 a6_77, zAr T 0 a1_72 7 g1_61, zAr T 0 a2_73 7 g2_62, zAr T 0 a3_74 7 f3B, zAr T 0 a4_75 (zMk mdB n4B (zPl cr1_ inn1_ k11_)) g4_63, zAr T 0 a5_76 (zMk mdB n4B (zPl cr1_ inn1_ k11_)) g5_64, zAr T 0 a6_77 (zMk mdB n4B (zPl cr1_ inn1_ k11_)) g6_65]]) [3, 2, 0, 5, 1, 4] rfl
        exact z_back hQz_ (z_iret C hr hlocks G (Nat.le_of_ble_eq_true rfl) (by omega) dX11_mean_99 ⟨laA, mdA, wyA, pc_A, f1A, f2A, f3A, f4A, f5A, f6A, n4A, wwA, l1, m2_58, wy2_59, pc2_60, g1_61, g2_62, f3B, g4_63, g5_64, g6_65, (zMk mdB n4B (zPl cr1_ inn1_ k11_)), ([zO0 wb_ m2_58 wy2_59 l1 pc2_60 a1_72 a2_73 a3_74 a4_75 a5_76 a6_77, zAr T 0 a1_72 7 g1_61, zAr T 0 a2_73 7 g2_62, zAr T 0 a3_74 7 f3B, zAr T 0 a4_75 (zMk mdB n4B (zPl cr1_ inn1_ k11_)) g4_63, zAr T 0 a5_76 (zMk mdB n4B (zPl cr1_ inn1_ k11_)) g5_64, zAr T 0 a6_77 (zMk mdB n4B (zPl cr1_ inn1_ k11_)) g6_65]), rfl, hwwA, hmdA, hwmA, (by first | exact hNAo.symm | exact (zNA_n (by first | omega | grind)).symm), hpwA, (fun q => q), hTbA, hw_81, (Or.inr rfl), hwy9, hNAm.symm, (zMk_pw hpwB), (fun _ => h_69), (Or.inr h_70)⟩)
      · have c_79n : ¬ wy2_59.toInt ≤ (i : Int) := fun q => c_79 ((fa_le _ _).mpr (by rw [nI_toInt (n := i) (by omega)]; exact q))
        refine lv_aload hx hb dX11_mean_51 (lv_at hl 3 rfl) ?_
        refine lv_aload hx hb dX11_mean_53 (lv_at hl 2 rfl) ?_
        refine lv_iload hx hb dX11_mean_55 (lv_at hl 0 rfl) ?_
        refine lv_iload_n hx hb dX11_mean_57 rfl (lv_at hl 6 rfl) ?_
        have hw_82 : bWays T wb_ l1 m2_58 wy2_59 pc2_60 g1_61 g2_62 f3B g4_63 g5_64 g6_65 (zMk mdB n4B (zPl cr1_ inn1_ k11_)) [zO0 wb_ m2_58 wy2_59 l1 pc2_60 a1_72 a2_73 a3_74 a4_75 a5_76 a6_77, zAr T 0 a1_72 7 g1_61, zAr T 0 a2_73 7 g2_62, zAr T 0 a3_74 7 f3B, zAr T 0 a4_75 (zMk mdB n4B (zPl cr1_ inn1_ k11_)) g4_63, zAr T 0 a5_76 (zMk mdB n4B (zPl cr1_ inn1_ k11_)) g5_64, zAr T 0 a6_77 (zMk mdB n4B (zPl cr1_ inn1_ k11_)) g6_65] := ⟨a1_72, a2_73, a3_74, a4_75, a5_76, a6_77, rfl⟩
        have G : zS T A s.heap s [z0_, wwA, wt, [zO10 xo t im mk rd po co tr wa wb_ fi cd], [zO0 wb_ m2_58 wy2_59 l1 pc2_60 a1_72 a2_73 a3_74 a4_75 a5_76 a6_77, zAr T 0 a1_72 7 g1_61, zAr T 0 a2_73 7 g2_62, zAr T 0 a3_74 7 f3B, zAr T 0 a4_75 (zMk mdB n4B (zPl cr1_ inn1_ k11_)) g4_63, zAr T 0 a5_76 (zMk mdB n4B (zPl cr1_ inn1_ k11_)) g5_64, zAr T 0 a6_77 (zMk mdB n4B (zPl cr1_ inn1_ k11_)) g6_65], z1_] _ _ := G.re rfl
        refine z_Vi (bc := [[zO0 wb_ m2_58 wy2_59 l1 pc2_60 a1_72 a2_73 a3_74 a4_75 a5_76 a6_77, zAr T 0 a1_72 7 g1_61, zAr T 0 a2_73 7 g2_62, zAr T 0 a3_74 7 f3B, zAr T 0 a4_75 (zMk mdB n4B (zPl cr1_ inn1_ k11_)) g4_63, zAr T 0 a5_76 (zMk mdB n4B (zPl cr1_ inn1_ k11_)) g5_64, zAr T 0 a6_77 (zMk mdB n4B (zPl cr1_ inn1_ k11_)) g6_65]]) (br := [z0_, wwA, wt, [zO10 xo t im mk rd po co tr wa wb_ fi cd], z1_]) (As := [.int (nI i), .int a_]) (rest := [.ref l1]) C G (c_where l T wb_ l1 m2_58 wy2_59 pc2_60 g1_61 g2_62 f3B g4_63 g5_64 g6_65 (zMk mdB n4B (zPl cr1_ inn1_ k11_)) ([zO0 wb_ m2_58 wy2_59 l1 pc2_60 a1_72 a2_73 a3_74 a4_75 a5_76 a6_77, zAr T 0 a1_72 7 g1_61, zAr T 0 a2_73 7 g2_62, zAr T 0 a3_74 7 f3B, zAr T 0 a4_75 (zMk mdB n4B (zPl cr1_ inn1_ k11_)) g4_63, zAr T 0 a5_76 (zMk mdB n4B (zPl cr1_ inn1_ k11_)) g5_64, zAr T 0 a6_77 (zMk mdB n4B (zPl cr1_ inn1_ k11_)) g6_65]) (nI i) a_ hw_82 (by first | with_reducible assumption | with_reducible rfl | omega | assumption | rfl)) (kV_RX11_260 C.2.2.2.2 (Nat.le_of_ble_eq_true rfl) (Nat.le_of_ble_eq_true rfl)) [4] [4] rfl rfl (ci := 0) (qc := (RX0, TX0, 10)) rfl rfl (List.mem_flatten.mpr ⟨_, List.mem_of_getElem? (i := 0) rfl, (bWays_mem hw_82).choose_spec⟩) rfl rfl hl.1 dX11_mean_58 (Nat.le_of_ble_eq_true rfl) (by show _ + 0 ≤ 6 * (zNA (i1.toInt = 0 ∧ 0 < (fk 0).toInt ∧ 0 ≤ a_.toInt ∧ a_.toInt < cr0_.toInt ∧ a_.toInt < 7) mdA n4A (zPl cr0_ inn0_ k10_) - n4A) + 6 * (zNA (i1.toInt = 1 ∧ 1 < (fk 0).toInt ∧ 0 ≤ a_.toInt ∧ a_.toInt < cr1_.toInt ∧ a_.toInt < 7) mdB n4B (zPl cr1_ inn1_ k11_) - n4B); omega) (fun r_84 b1 H locs hw G => ?_)
        refine zAn2 hw ?_
        intro hbs9 h_83
        clear hw
        subst hbs9
        have G : zS T A s.heap s [z0_, wwA, wt, [zO10 xo t im mk rd po co tr wa wb_ fi cd], z1_, [zO0 wb_ m2_58 wy2_59 l1 pc2_60 a1_72 a2_73 a3_74 a4_75 a5_76 a6_77, zAr T 0 a1_72 7 g1_61, zAr T 0 a2_73 7 g2_62, zAr T 0 a3_74 7 f3B, zAr T 0 a4_75 (zMk mdB n4B (zPl cr1_ inn1_ k11_)) g4_63, zAr T 0 a5_76 (zMk mdB n4B (zPl cr1_ inn1_ k11_)) g5_64, zAr T 0 a6_77 (zMk mdB n4B (zPl cr1_ inn1_ k11_)) g6_65]] _ _ := G
        subst h_83
        refine z_Vi (bc := [z1_]) (br := [z0_, wwA, wt, [zO10 xo t im mk rd po co tr wa wb_ fi cd], [zO0 wb_ m2_58 wy2_59 l1 pc2_60 a1_72 a2_73 a3_74 a4_75 a5_76 a6_77, zAr T 0 a1_72 7 g1_61, zAr T 0 a2_73 7 g2_62, zAr T 0 a3_74 7 f3B, zAr T 0 a4_75 (zMk mdB n4B (zPl cr1_ inn1_ k11_)) g4_63, zAr T 0 a5_76 (zMk mdB n4B (zPl cr1_ inn1_ k11_)) g5_64, zAr T 0 a6_77 (zMk mdB n4B (zPl cr1_ inn1_ k11_)) g6_65]]) (As := [.int (zEntry g5_64 (zMk mdB n4B (zPl cr1_ inn1_ k11_)) (nI i) a_ &&& 7)]) (rest := []) C G (c_isInn l T l1 cr1_ inn1_ k11_ k21_ k31_ k41_ z1_ (zEntry g5_64 (zMk mdB n4B (zPl cr1_ inn1_ k11_)) (nI i) a_ &&& 7) hz1_) (kV_RX11_174 C.2.2.2.2 (Nat.le_of_ble_eq_true rfl) (Nat.le_of_ble_eq_true rfl)) [4] [4] rfl rfl (ci := 4) (qc := (RX4, TX4, 6)) rfl rfl (List.mem_flatten.mpr ⟨_, List.mem_of_getElem? (i := 0) rfl, (bLand_mem hz1_).choose_spec⟩) rfl rfl hl.1 dX11_mean_61 (Nat.le_of_ble_eq_true rfl) (by show _ + 0 ≤ 6 * (zNA (i1.toInt = 0 ∧ 0 < (fk 0).toInt ∧ 0 ≤ a_.toInt ∧ a_.toInt < cr0_.toInt ∧ a_.toInt < 7) mdA n4A (zPl cr0_ inn0_ k10_) - n4A) + 6 * (zNA (i1.toInt = 1 ∧ 1 < (fk 0).toInt ∧ 0 ≤ a_.toInt ∧ a_.toInt < cr1_.toInt ∧ a_.toInt < 7) mdB n4B (zPl cr1_ inn1_ k11_) - n4B); omega) (fun r_86 b1 H locs hw G => ?_)
        refine zAn2 hw ?_
        intro hbs9 hc_85
        clear hw
        subst hbs9
        have G : zS T A s.heap s [z0_, wwA, wt, [zO10 xo t im mk rd po co tr wa wb_ fi cd], [zO0 wb_ m2_58 wy2_59 l1 pc2_60 a1_72 a2_73 a3_74 a4_75 a5_76 a6_77, zAr T 0 a1_72 7 g1_61, zAr T 0 a2_73 7 g2_62, zAr T 0 a3_74 7 f3B, zAr T 0 a4_75 (zMk mdB n4B (zPl cr1_ inn1_ k11_)) g4_63, zAr T 0 a5_76 (zMk mdB n4B (zPl cr1_ inn1_ k11_)) g5_64, zAr T 0 a6_77 (zMk mdB n4B (zPl cr1_ inn1_ k11_)) g6_65], z1_] _ _ := G
        rcases hc_85 with ⟨rfl, h_87, h_88, h_89, h_90⟩ | ⟨rfl, h_91⟩
        · have h_87 : 0 ≤ (zEntry g5_64 (zMk mdB n4B (zPl cr1_ inn1_ k11_)) (nI i) a_ &&& 7).toInt := h_87
          have h_88 : (zEntry g5_64 (zMk mdB n4B (zPl cr1_ inn1_ k11_)) (nI i) a_ &&& 7).toInt < cr1_.toInt := h_88
          have h_89 : (zEntry g5_64 (zMk mdB n4B (zPl cr1_ inn1_ k11_)) (nI i) a_ &&& 7).toInt < 7 := h_89
          have h_90 : ¬ zBit inn1_ (zEntry g5_64 (zMk mdB n4B (zPl cr1_ inn1_ k11_)) (nI i) a_ &&& 7) = 0 := h_90
          refine lv_if_ne (tgt := 69) hx hb dX11_mean_64 (by decide) (fun _ => ?_) (fun q => absurd q (by decide))
          refine lv_iload hx hb dX11_mean_69 (lv_at hl 1 rfl) ?_
          refine lv_aload hx hb dX11_mean_71 (lv_at hl 2 rfl) ?_
          refine lv_iload hx hb dX11_mean_73 (lv_at hl 0 rfl) ?_
          refine lv_iload_n hx hb dX11_mean_75 rfl (lv_at hl 6 rfl) ?_
          refine z_Vi (bc := [[zO0 wb_ m2_58 wy2_59 l1 pc2_60 a1_72 a2_73 a3_74 a4_75 a5_76 a6_77, zAr T 0 a1_72 7 g1_61, zAr T 0 a2_73 7 g2_62, zAr T 0 a3_74 7 f3B, zAr T 0 a4_75 (zMk mdB n4B (zPl cr1_ inn1_ k11_)) g4_63, zAr T 0 a5_76 (zMk mdB n4B (zPl cr1_ inn1_ k11_)) g5_64, zAr T 0 a6_77 (zMk mdB n4B (zPl cr1_ inn1_ k11_)) g6_65]]) (br := [z0_, wwA, wt, [zO10 xo t im mk rd po co tr wa wb_ fi cd], z1_]) (As := [.int (nI i), .int a_]) (rest := [.int u6]) C G (c_steps l T wb_ l1 m2_58 wy2_59 pc2_60 g1_61 g2_62 f3B g4_63 g5_64 g6_65 (zMk mdB n4B (zPl cr1_ inn1_ k11_)) ([zO0 wb_ m2_58 wy2_59 l1 pc2_60 a1_72 a2_73 a3_74 a4_75 a5_76 a6_77, zAr T 0 a1_72 7 g1_61, zAr T 0 a2_73 7 g2_62, zAr T 0 a3_74 7 f3B, zAr T 0 a4_75 (zMk mdB n4B (zPl cr1_ inn1_ k11_)) g4_63, zAr T 0 a5_76 (zMk mdB n4B (zPl cr1_ inn1_ k11_)) g5_64, zAr T 0 a6_77 (zMk mdB n4B (zPl cr1_ inn1_ k11_)) g6_65]) (nI i) a_ hw_82 (by first | with_reducible assumption | with_reducible rfl | omega | assumption | rfl)) (kV_RX11_266 C.2.2.2.2 (Nat.le_of_ble_eq_true rfl) (Nat.le_of_ble_eq_true rfl)) [4] [4] rfl rfl (ci := 0) (qc := (RX0, TX0, 10)) rfl rfl (List.mem_flatten.mpr ⟨_, List.mem_of_getElem? (i := 0) rfl, (bWays_mem hw_82).choose_spec⟩) rfl rfl hl.1 dX11_mean_76 (Nat.le_of_ble_eq_true rfl) (by show _ + 0 ≤ 6 * (zNA (i1.toInt = 0 ∧ 0 < (fk 0).toInt ∧ 0 ≤ a_.toInt ∧ a_.toInt < cr0_.toInt ∧ a_.toInt < 7) mdA n4A (zPl cr0_ inn0_ k10_) - n4A) + 6 * (zNA (i1.toInt = 1 ∧ 1 < (fk 0).toInt ∧ 0 ≤ a_.toInt ∧ a_.toInt < cr1_.toInt ∧ a_.toInt < 7) mdB n4B (zPl cr1_ inn1_ k11_) - n4B); omega) (fun r_93 b1 H locs hw G => ?_)
          refine zAn2 hw ?_
          intro hbs9 h_92
          clear hw
          subst hbs9
          have G : zS T A s.heap s [z0_, wwA, wt, [zO10 xo t im mk rd po co tr wa wb_ fi cd], z1_, [zO0 wb_ m2_58 wy2_59 l1 pc2_60 a1_72 a2_73 a3_74 a4_75 a5_76 a6_77, zAr T 0 a1_72 7 g1_61, zAr T 0 a2_73 7 g2_62, zAr T 0 a3_74 7 f3B, zAr T 0 a4_75 (zMk mdB n4B (zPl cr1_ inn1_ k11_)) g4_63, zAr T 0 a5_76 (zMk mdB n4B (zPl cr1_ inn1_ k11_)) g5_64, zAr T 0 a6_77 (zMk mdB n4B (zPl cr1_ inn1_ k11_)) g6_65]] _ _ := G
          subst h_92
          refine lv_iadd hx hb dX11_mean_79 ?_
          refine lv_istore (lv' := [(6, .int (u6 + (zEntry g5_64 (zMk mdB n4B (zPl cr1_ inn1_ k11_)) (nI i) a_ >>> (17 &&& 31)))), (7, .int (nI i)), (5, .ref wb_), (4, .ref l1), (0, .ref xo), (1, .int i1), (2, .int a_), (3, .int w_)]) hx hb dX11_mean_80 hl (by decide) (zLvf_h rfl) (fun ls hl => ?_)
          refine lv_iinc (v := nI (i + 1)) (lv' := [(7, .int (nI (i + 1))), (6, .int (u6 + (zEntry g5_64 (zMk mdB n4B (zPl cr1_ inn1_ k11_)) (nI i) a_ >>> (17 &&& 31)))), (5, .ref wb_), (4, .ref l1), (0, .ref xo), (1, .int i1), (2, .int a_), (3, .int w_)]) hx hb dX11_mean_82 hl (k := 1) rfl (z_inc i 1) (by decide) (zLvf_h rfl) (fun ls hl => ?_)
          refine lv_goto (tgt := 41) hx hb dX11_mean_85 (by decide) ?_
          have G := G.sub (bs' := [z0_, wwA, wt, [zO10 xo t im mk rd po co tr wa wb_ fi cd], [zO0 wb_ m2_58 wy2_59 l1 pc2_60 a1_72 a2_73 a3_74 a4_75 a5_76 a6_77, zAr T 0 a1_72 7 g1_61, zAr T 0 a2_73 7 g2_62, zAr T 0 a3_74 7 f3B, zAr T 0 a4_75 (zMk mdB n4B (zPl cr1_ inn1_ k11_)) g4_63, zAr T 0 a5_76 (zMk mdB n4B (zPl cr1_ inn1_ k11_)) g5_64, zAr T 0 a6_77 (zMk mdB n4B (zPl cr1_ inn1_ k11_)) g6_65], z1_]) [0, 1, 2, 3, 5, 4] rfl
          exact ih_41 (i + 1) (u6 + (zEntry g5_64 (zMk mdB n4B (zPl cr1_ inn1_ k11_)) (nI i) a_ >>> (17 &&& 31))) (show (i + 1) ≤ aPr (aW cr1_ inn1_ k11_) 7 from (by omega)) (show aPr (aW cr1_ inn1_ k11_) 7 - (i + 1) < aPr (aW cr1_ inn1_ k11_) 7 - i from by omega) _ _ ls G (lv_sub hl [0, 1, 2, 3, 4, 5, 6, 7] rfl)
        · have h_91 : ((zEntry g5_64 (zMk mdB n4B (zPl cr1_ inn1_ k11_)) (nI i) a_ &&& 7).toInt < 0 ∨ cr1_.toInt ≤ (zEntry g5_64 (zMk mdB n4B (zPl cr1_ inn1_ k11_)) (nI i) a_ &&& 7).toInt ∨ 7 ≤ (zEntry g5_64 (zMk mdB n4B (zPl cr1_ inn1_ k11_)) (nI i) a_ &&& 7).toInt ∨ zBit inn1_ (zEntry g5_64 (zMk mdB n4B (zPl cr1_ inn1_ k11_)) (nI i) a_ &&& 7) = 0) := h_91
          refine lv_if_ne (tgt := 69) hx hb dX11_mean_64 (by decide) (fun q => absurd (by decide) q) (fun _ => ?_)
          refine lv_iconst (v := (-1)) hx hb dX11_mean_67 (by decide) ?_
          have G := G.sub (bs' := [[zO10 xo t im mk rd po co tr wa wb_ fi cd], wt, z0_, z1_, wwA, [zO0 wb_ m2_58 wy2_59 l1 pc2_60 a1_72 a2_73 a3_74 a4_75 a5_76 a6_77, zAr T 0 a1_72 7 g1_61, zAr T 0 a2_73 7 g2_62, zAr T 0 a3_74 7 f3B, zAr T 0 a4_75 (zMk mdB n4B (zPl cr1_ inn1_ k11_)) g4_63, zAr T 0 a5_76 (zMk mdB n4B (zPl cr1_ inn1_ k11_)) g5_64, zAr T 0 a6_77 (zMk mdB n4B (zPl cr1_ inn1_ k11_)) g6_65]]) [3, 2, 0, 5, 1, 4] rfl
          exact z_back hQz_ (z_iret C hr hlocks G (Nat.le_of_ble_eq_true rfl) (by omega) dX11_mean_68 ⟨laA, mdA, wyA, pc_A, f1A, f2A, f3A, f4A, f5A, f6A, n4A, wwA, l1, m2_58, wy2_59, pc2_60, g1_61, g2_62, f3B, g4_63, g5_64, g6_65, (zMk mdB n4B (zPl cr1_ inn1_ k11_)), ([zO0 wb_ m2_58 wy2_59 l1 pc2_60 a1_72 a2_73 a3_74 a4_75 a5_76 a6_77, zAr T 0 a1_72 7 g1_61, zAr T 0 a2_73 7 g2_62, zAr T 0 a3_74 7 f3B, zAr T 0 a4_75 (zMk mdB n4B (zPl cr1_ inn1_ k11_)) g4_63, zAr T 0 a5_76 (zMk mdB n4B (zPl cr1_ inn1_ k11_)) g5_64, zAr T 0 a6_77 (zMk mdB n4B (zPl cr1_ inn1_ k11_)) g6_65]), rfl, hwwA, hmdA, hwmA, (by first | exact hNAo.symm | exact (zNA_n (by first | omega | grind)).symm), hpwA, (fun q => q), hTbA, hw_82, (Or.inr rfl), hwy9, hNAm.symm, (zMk_pw hpwB), (fun _ => h_69), (Or.inr h_70)⟩)
    · have h_56 : (a_.toInt < 0 ∨ cr1_.toInt ≤ a_.toInt ∨ 7 ≤ a_.toInt) := h_56
      refine lv_if_ne (tgt := 26) hx hb dX11_mean_21 (by decide) (fun q => absurd (by decide) q) (fun _ => ?_)
      refine lv_iconst (v := (-1)) hx hb dX11_mean_24 (by decide) ?_
      have G := G.sub (bs' := [[zO10 xo t im mk rd po co tr wa wb_ fi cd], wt, z0_, z1_, wwA, wwB]) [0, 4, 1, 5, 2, 3] rfl
      exact z_back hQz_ (z_iret C hr hlocks G (Nat.le_of_ble_eq_true rfl) (by omega) dX11_mean_25 ⟨laA, mdA, wyA, pc_A, f1A, f2A, f3A, f4A, f5A, f6A, n4A, wwA, laB, mdB, wyB, pc_B, f1B, f2B, f3B, f4B, f5B, f6B, n4B, wwB, rfl, hwwA, hmdA, hwmA, (by first | exact hNAo.symm | exact (zNA_n (by first | omega | grind)).symm), hpwA, (fun q => q), hTbA, hwwB, hmdB, hwmB, (by first | exact hNAo.symm | exact (zNA_n (by first | omega | grind)).symm), hpwB, (fun q => q), hTbB⟩)
set_option maxHeartbeats 4000000 in
set_option maxRecDepth 100000 in
/-- c_t_longest -/
theorem c_t_longest (l : Launch) (T : zTy) (xo : Nat) (t : Nat) (im : Nat) (mk : Nat) (rd : Nat) (po : Nat) (co : Nat) (tr : Nat) (wa : Nat) (wb_ : Nat) (fi : Nat) (cd : Nat) (l0 : Nat) (l1 : Nat) (d0 : Nat) (d1 : Nat) (g0 : Nat) (g1 : Nat) (ln : Int32) (fl : Int32) (pl : Int32) (ft : Nat → Int32) (fk : Nat → Int32) (wt : va_W) (cr0_ : Int32) (inn0_ : Int32) (k10_ : Nat → Int32) (k20_ : Nat → Int32) (k30_ : Nat → Int32) (k40_ : Nat → Int32) (z0_ : va_W) (cr1_ : Int32) (inn1_ : Int32) (k11_ : Nat → Int32) (k21_ : Nat → Int32) (k31_ : Nat → Int32) (k41_ : Nat → Int32) (z1_ : va_W) (laA : Nat) (mdA : Int32) (wyA : Int32) (pc_A : Int32) (f1A : Nat → Int32) (f2A : Nat → Int32) (f3A : Nat → Int32) (f4A : Nat → Int32) (f5A : Nat → Int32) (f6A : Nat → Int32) (n4A : Nat) (wwA : va_W) (laB : Nat) (mdB : Int32) (wyB : Int32) (pc_B : Int32) (f1B : Nat → Int32) (f2B : Nat → Int32) (f3B : Nat → Int32) (f4B : Nat → Int32) (f5B : Nat → Int32) (f6B : Nat → Int32) (n4B : Nat) (wwB : va_W) (i1 : Int32) (a_ : Int32) (w_ : Int32) (q_ : Int32) (ht : bTold T t l0 l1 d0 d1 g0 g1 ln fl pl ft fk wt) (hK : zKT fk) (hz0_ : bLand T l0 cr0_ inn0_ k10_ k20_ k30_ k40_ z0_) (hI0_ : zLI cr0_ k10_ k30_) (hz1_ : bLand T l1 cr1_ inn1_ k11_ k21_ k31_ k41_ z1_) (hI1_ : zLI cr1_ k11_ k31_) (hwwA : bWays T wa laA mdA wyA pc_A f1A f2A f3A f4A f5A f6A n4A wwA) (hpwA : zPw n4A) (hmdA : mdA = 0 ∨ laA = l0) (hwmA : 0 ≤ wyA.toInt ∧ wyA.toInt ≤ 16384) (hTbA : mdA = 0 ∨ zTab cr0_ inn0_ k10_ k20_ wyA pc_A f1A f2A f5A n4A) (hLq0 : zLq cr0_ k10_ k20_) (hwwB : bWays T wb_ laB mdB wyB pc_B f1B f2B f3B f4B f5B f6B n4B wwB) (hpwB : zPw n4B) (hmdB : mdB = 0 ∨ laB = l1) (hwmB : 0 ≤ wyB.toInt ∧ wyB.toInt ≤ 16384) (hTbB : mdB = 0 ∨ zTab cr1_ inn1_ k11_ k21_ wyB pc_B f1B f2B f5B n4B) (hLq1 : zLq cr1_ k11_ k21_) : zMi l T yX11_longest cX11_longest 12 (some .int) 7 3 (6 * (zNA (i1.toInt = 0 ∧ 0 < (fk 0).toInt ∧ 0 ≤ a_.toInt ∧ a_.toInt < cr0_.toInt ∧ a_.toInt < 7) mdA n4A (zPl cr0_ inn0_ k10_) - n4A) + 6 * (zNA (i1.toInt = 1 ∧ 1 < (fk 0).toInt ∧ 0 ≤ a_.toInt ∧ a_.toInt < cr1_.toInt ∧ a_.toInt < 7) mdB n4B (zPl cr1_ inn1_ k11_) - n4B)) [.ref xo, .int i1, .int a_, .int w_, .int q_] [[zO10 xo t im mk rd po co tr wa wb_ fi cd], wt, z0_, z1_, wwA, wwB] (fun (r : Int32) bs => ∃ (laA_2 : Nat) (mdA_2 : Int32) (wyA_2 : Int32) (pc_A_2 : Int32) (f1A_2 : Nat → Int32) (f2A_2 : Nat → Int32) (f3A_2 : Nat → Int32) (f4A_2 : Nat → Int32) (f5A_2 : Nat → Int32) (f6A_2 : Nat → Int32) (n4A_2 : Nat) (wwA_2 : va_W) (laB_2 : Nat) (mdB_2 : Int32) (wyB_2 : Int32) (pc_B_2 : Int32) (f1B_2 : Nat → Int32) (f2B_2 : Nat → Int32) (f3B_2 : Nat → Int32) (f4B_2 : Nat → Int32) (f5B_2 : Nat → Int32) (f6B_2 : Nat → Int32) (n4B_2 : Nat) (wwB_2 : va_W), bs = [[zO10 xo t im mk rd po co tr wa wb_ fi cd], wt, z0_, z1_, wwA_2, wwB_2] ∧ bWays T wa laA_2 mdA_2 wyA_2 pc_A_2 f1A_2 f2A_2 f3A_2 f4A_2 f5A_2 f6A_2 n4A_2 wwA_2 ∧ (mdA_2 = 0 ∨ laA_2 = l0) ∧ (0 ≤ wyA_2.toInt ∧ wyA_2.toInt ≤ 16384) ∧ n4A_2 = zNA (i1.toInt = 0 ∧ 0 < (fk 0).toInt ∧ 0 ≤ a_.toInt ∧ a_.toInt < cr0_.toInt ∧ a_.toInt < 7) mdA n4A (zPl cr0_ inn0_ k10_) ∧ zPw n4A_2 ∧ (¬ mdA = 0 → ¬ mdA_2 = 0) ∧ (mdA_2 = 0 ∨ zTab cr0_ inn0_ k10_ k20_ wyA_2 pc_A_2 f1A_2 f2A_2 f5A_2 n4A_2) ∧ bWays T wb_ laB_2 mdB_2 wyB_2 pc_B_2 f1B_2 f2B_2 f3B_2 f4B_2 f5B_2 f6B_2 n4B_2 wwB_2 ∧ (mdB_2 = 0 ∨ laB_2 = l1) ∧ (0 ≤ wyB_2.toInt ∧ wyB_2.toInt ≤ 16384) ∧ n4B_2 = zNA (i1.toInt = 1 ∧ 1 < (fk 0).toInt ∧ 0 ≤ a_.toInt ∧ a_.toInt < cr1_.toInt ∧ a_.toInt < 7) mdB n4B (zPl cr1_ inn1_ k11_) ∧ zPw n4B_2 ∧ (¬ mdB = 0 → ¬ mdB_2 = 0) ∧ (mdB_2 = 0 ∨ zTab cr1_ inn1_ k11_ k21_ wyB_2 pc_B_2 f1B_2 f2B_2 f5B_2 n4B_2)) := by
  refine zMi_of (own := RX11) (by decide) rfl (Nat.le_of_ble_eq_true rfl) ?_
  intro p e s m args below meth c A ls C hr hlocks hnm hAe G hl
  refine zHide (fun Qz_ hQz_ => ?_)
  have hx := C.1
  have hb := C.2.1
  replace hmdA : zHd (mdA = 0 ∨ laA = l0) := hmdA
  replace hTbA : zHd (mdA = 0 ∨ zTab cr0_ inn0_ k10_ k20_ wyA pc_A f1A f2A f5A n4A) := hTbA
  replace hmdB : zHd (mdB = 0 ∨ laB = l1) := hmdB
  replace hTbB : zHd (mdB = 0 ∨ zTab cr1_ inn1_ k11_ k21_ wyB pc_B f1B f2B f5B n4B) := hTbB
  have hl : lv_has ls 12 [(0, .ref xo), (1, .int i1), (2, .int a_), (3, .int w_), (4, .int q_)] := hl
  refine lv_aload_n hx hb dX11_longest_0 rfl (lv_at hl 0 rfl) ?_
  refine z_get C G clX11 0 rfl 0 (by decide) m_fl_RX11_10 rfl dX11_longest_1 ?_
  refine lv_iload_n hx hb dX11_longest_4 rfl (lv_at hl 1 rfl) ?_
  refine z_Vq (bc := [wt]) (br := [[zO10 xo t im mk rd po co tr wa wb_ fi cd], z0_, z1_, wwA, wwB]) (As := [.int i1]) (rest := []) C G (c_landAt l T t l0 l1 d0 d1 g0 g1 ln fl pl ft fk wt i1 ht) (kV_RX11_121 C.2.2.2.2 (Nat.le_of_ble_eq_true rfl) (Nat.le_of_ble_eq_true rfl)) [1] [1] rfl rfl (ci := 8) (qc := (RX9, TX9, 8)) rfl rfl (List.mem_flatten.mpr ⟨_, List.mem_of_getElem? (i := 0) rfl, (bTold_mem ht).choose_spec⟩) rfl rfl hl.1 dX11_longest_5 (Nat.le_of_ble_eq_true rfl) (by show _ + 0 ≤ 6 * (zNA (i1.toInt = 0 ∧ 0 < (fk 0).toInt ∧ 0 ≤ a_.toInt ∧ a_.toInt < cr0_.toInt ∧ a_.toInt < 7) mdA n4A (zPl cr0_ inn0_ k10_) - n4A) + 6 * (zNA (i1.toInt = 1 ∧ 1 < (fk 0).toInt ∧ 0 ≤ a_.toInt ∧ a_.toInt < cr1_.toInt ∧ a_.toInt < 7) mdB n4B (zPl cr1_ inn1_ k11_) - n4B); omega) (fun r_2 b1 H locs hw G => ?_)
  refine zAn2 hw ?_
  intro hbs9 hc_1
  clear hw
  subst hbs9
  have G : zS T A s.heap s [[zO10 xo t im mk rd po co tr wa wb_ fi cd], z0_, z1_, wwA, wwB, wt] _ _ := G
  rcases hc_1 with ⟨rfl, h_3⟩ | ⟨rfl, h_4, h_5⟩ | ⟨rfl, h_6, h_7⟩
  · have h_3 : (i1.toInt < 0 ∨ (fk 0).toInt ≤ i1.toInt ∨ 2 ≤ i1.toInt) := h_3
    refine lv_astoreN (lv' := [(5, .null), (0, .ref xo), (1, .int i1), (2, .int a_), (3, .int w_), (4, .int q_)]) hx hb dX11_longest_8 hl (by decide) (zLvf_h rfl) (fun ls hl => ?_)
    refine lv_aloadN hx hb dX11_longest_10 (lv_at hl 0 rfl) ?_
    refine lv_ifnullN (tgt := 24) hx hb dX11_longest_12 (by decide) ?_
    refine lv_iconst (v := (-1)) hx hb dX11_longest_24 (by decide) ?_
    have G := G.sub (bs' := [[zO10 xo t im mk rd po co tr wa wb_ fi cd], wt, z0_, z1_, wwA, wwB]) [0, 5, 1, 2, 3, 4] rfl
    exact z_back hQz_ (z_iret C hr hlocks G (Nat.le_of_ble_eq_true rfl) (by omega) dX11_longest_25 ⟨laA, mdA, wyA, pc_A, f1A, f2A, f3A, f4A, f5A, f6A, n4A, wwA, laB, mdB, wyB, pc_B, f1B, f2B, f3B, f4B, f5B, f6B, n4B, wwB, rfl, hwwA, hmdA, hwmA, (by first | exact hNAo.symm | exact (zNA_n (by first | omega | grind)).symm), hpwA, (fun q => q), hTbA, hwwB, hmdB, hwmB, (by first | exact hNAo.symm | exact (zNA_n (by first | omega | grind)).symm), hpwB, (fun q => q), hTbB⟩)
  · have h_4 : i1.toInt = 0 := h_4
    have h_5 : 0 < (fk 0).toInt := h_5
    refine lv_astore (lv' := [(5, .ref l0), (0, .ref xo), (1, .int i1), (2, .int a_), (3, .int w_), (4, .int q_)]) hx hb dX11_longest_8 hl (by decide) (zLvf_h rfl) (fun ls hl => ?_)
    refine lv_aload hx hb dX11_longest_10 (lv_at hl 0 rfl) ?_
    refine lv_ifnull hx hb dX11_longest_12 ?_
    refine lv_aload hx hb dX11_longest_15 (lv_at hl 0 rfl) ?_
    refine lv_iload_n hx hb dX11_longest_17 rfl (lv_at hl 3 rfl) ?_
    refine z_Vi (bc := [z0_]) (br := [[zO10 xo t im mk rd po co tr wa wb_ fi cd], z1_, wwA, wwB, wt]) (As := [.int a_]) (rest := []) C G (c_has l T l0 cr0_ inn0_ k10_ k20_ k30_ k40_ z0_ a_ hz0_) (kV_RX11_160 C.2.2.2.2 (Nat.le_of_ble_eq_true rfl) (Nat.le_of_ble_eq_true rfl)) [1] [1] rfl rfl (ci := 4) (qc := (RX4, TX4, 6)) rfl rfl (List.mem_flatten.mpr ⟨_, List.mem_of_getElem? (i := 0) rfl, (bLand_mem hz0_).choose_spec⟩) rfl rfl hl.1 dX11_longest_18 (Nat.le_of_ble_eq_true rfl) (by show _ + 0 ≤ 6 * (zNA (i1.toInt = 0 ∧ 0 < (fk 0).toInt ∧ 0 ≤ a_.toInt ∧ a_.toInt < cr0_.toInt ∧ a_.toInt < 7) mdA n4A (zPl cr0_ inn0_ k10_) - n4A) + 6 * (zNA (i1.toInt = 1 ∧ 1 < (fk 0).toInt ∧ 0 ≤ a_.toInt ∧ a_.toInt < cr1_.toInt ∧ a_.toInt < 7) mdB n4B (zPl cr1_ inn1_ k11_) - n4B); omega) (fun r_9 b1 H locs hw G => ?_)
    refine zAn2 hw ?_
    intro hbs9 hc_8
    clear hw
    subst hbs9
    have G : zS T A s.heap s [[zO10 xo t im mk rd po co tr wa wb_ fi cd], z1_, wwA, wwB, wt, z0_] _ _ := G
    rcases hc_8 with ⟨rfl, h_10, h_11, h_12⟩ | ⟨rfl, h_13⟩
    · have h_10 : 0 ≤ a_.toInt := h_10
      have h_11 : a_.toInt < cr0_.toInt := h_11
      have h_12 : a_.toInt < 7 := h_12
      refine lv_if_ne (tgt := 26) hx hb dX11_longest_21 (by decide) (fun _ => ?_) (fun q => absurd q (by decide))
      refine lv_aload_n hx hb dX11_longest_26 rfl (lv_at hl 1 rfl) ?_
      refine lv_iload_n hx hb dX11_longest_27 rfl (lv_at hl 2 rfl) ?_
      refine lv_aload hx hb dX11_longest_28 (lv_at hl 0 rfl) ?_
      have hNAm : zNA (i1.toInt = 0 ∧ 0 < (fk 0).toInt ∧ 0 ≤ a_.toInt ∧ a_.toInt < cr0_.toInt ∧ a_.toInt < 7) mdA n4A (zPl cr0_ inn0_ k10_) = zMk mdA n4A (zPl cr0_ inn0_ k10_) := zNA_y (by first | omega | (repeat' (first | omega | assumption | constructor)))
      have hNAo : zNA (i1.toInt = 1 ∧ 1 < (fk 0).toInt ∧ 0 ≤ a_.toInt ∧ a_.toInt < cr1_.toInt ∧ a_.toInt < 7) mdB n4B (zPl cr1_ inn1_ k11_) = n4B := zNA_n (by omega)
      have hn9 : zMk mdA n4A (zPl cr0_ inn0_ k10_) ≤ 131072 := zPw_le (zMk_pw hpwA)
      refine z_Vq (bc := [[zO10 xo t im mk rd po co tr wa wb_ fi cd], wwA, z0_]) (br := [z1_, wwB, wt]) (As := [.int i1, .ref l0]) (rest := []) C G (c_f_waysInA l T xo t im mk rd po co tr wa wb_ fi cd i1 laA mdA wyA pc_A f1A f2A f3A f4A f5A f6A n4A wwA l0 cr0_ inn0_ k10_ k20_ k30_ k40_ z0_ hwwA hz0_ hI0_ hpwA hmdA (kaOk hI0_ hLq0).1 hTbA (by omega)) (kV_RX11_235 C.2.2.2.2 (Nat.le_of_ble_eq_true rfl) (Nat.le_of_ble_eq_true rfl)) [0, 2, 5] [0, 1, 2] rfl rfl (ci := 10) (qc := (RX11, TX11, 11)) rfl rfl (List.mem_flatten.mpr ⟨_, List.mem_of_getElem? (i := 0) rfl, List.mem_cons_self⟩) rfl rfl hl.1 dX11_longest_30 (Nat.le_of_ble_eq_true rfl) (by show _ + (6 * (zMk mdA n4A (zPl cr0_ inn0_ k10_) - n4A)) ≤ 6 * (zNA (i1.toInt = 0 ∧ 0 < (fk 0).toInt ∧ 0 ≤ a_.toInt ∧ a_.toInt < cr0_.toInt ∧ a_.toInt < 7) mdA n4A (zPl cr0_ inn0_ k10_) - n4A) + 6 * (zNA (i1.toInt = 1 ∧ 1 < (fk 0).toInt ∧ 0 ≤ a_.toInt ∧ a_.toInt < cr1_.toInt ∧ a_.toInt < 7) mdB n4B (zPl cr1_ inn1_ k11_) - n4B); omega) (fun r_28 b1 H locs hw G => ?_)
      refine zEx9 hw ?_
      intro w2_14 m2_15 wy2_16 pc2_17 g1_18 g2_19 g4_20 g5_21 g6_22
      refine zCu6 ?_
      intro hbs9 h_23 h_24 h_25 h_26 h_27
      clear hw
      subst hbs9
      have G : zS T A s.heap s [z1_, wwB, wt, [zO10 xo t im mk rd po co tr wa wb_ fi cd], w2_14, z0_] _ _ := G
      subst h_23
      have hwy9 : 0 ≤ wy2_16.toInt ∧ wy2_16.toInt ≤ 16384 := by have q9 := zWy_in (inn := inn0_) hI0_; rw [h_25]; exact ⟨by omega, q9.2⟩
      have hp79 : aPr (aW cr0_ inn0_ k10_) 7 ≤ 16384 := aPr_7 hI0_
      have hwN9 : wy2_16 = nI (aPr (aW cr0_ inn0_ k10_) 7) := h_25.trans (zWy_z hI0_)
      have hwT9 : wy2_16.toInt = ((aPr (aW cr0_ inn0_ k10_) 7 : Nat) : Int) := by rw [hwN9, nI_toInt (by omega)]
      have hOk9 := (kaOk (inn := inn0_) hI0_ hLq0).1
      have hc79 := hI0_.1
      refine lv_astore (lv' := [(6, .ref wa), (5, .ref l0), (0, .ref xo), (1, .int i1), (2, .int a_), (3, .int w_), (4, .int q_)]) hx hb dX11_longest_33 hl (by decide) (zLvf_h rfl) (fun ls hl => ?_)
      refine lv_iconst (v := (-1)) hx hb dX11_longest_35 (by decide) ?_
      refine lv_istore (lv' := [(7, .int (-1)), (6, .ref wa), (5, .ref l0), (0, .ref xo), (1, .int i1), (2, .int a_), (3, .int w_), (4, .int q_)]) hx hb dX11_longest_36 hl (by decide) (zLvf_h rfl) (fun ls hl => ?_)
      refine lv_iconst (v := (-1)) hx hb dX11_longest_38 (by decide) ?_
      refine lv_istore (lv' := [(8, .int (-1)), (7, .int (-1)), (6, .ref wa), (5, .ref l0), (0, .ref xo), (1, .int i1), (2, .int a_), (3, .int w_), (4, .int q_)]) hx hb dX11_longest_39 hl (by decide) (zLvf_h rfl) (fun ls hl => ?_)
      refine lv_iconst (v := 0) hx hb dX11_longest_41 (by decide) ?_
      refine lv_istore (lv' := [(9, .int 0), (8, .int (-1)), (7, .int (-1)), (6, .ref wa), (5, .ref l0), (0, .ref xo), (1, .int i1), (2, .int a_), (3, .int w_), (4, .int q_)]) hx hb dX11_longest_42 hl (by decide) (zLvf_h rfl) (fun ls hl => ?_)
      refine zEx6 h_24 ?_
      intro a1_29 a2_30 a3_31 a4_32 a5_33 a6_34 hbs9
      clear h_24
      subst hbs9
      have G : zS T A s.heap s [z1_, wwB, wt, [zO10 xo t im mk rd po co tr wa wb_ fi cd], [zO0 wa m2_15 wy2_16 l0 pc2_17 a1_29 a2_30 a3_31 a4_32 a5_33 a6_34], [zAr T 0 a1_29 7 g1_18], [zAr T 0 a2_30 7 g2_19], [zAr T 0 a3_31 7 f3A], [zAr T 0 a4_32 (zMk mdA n4A (zPl cr0_ inn0_ k10_)) g4_20], [zAr T 0 a5_33 (zMk mdA n4A (zPl cr0_ inn0_ k10_)) g5_21], [zAr T 0 a6_34 (zMk mdA n4A (zPl cr0_ inn0_ k10_)) g6_22], z0_] _ _ := G.re rfl
      have hw_35 : bWays T wa l0 m2_15 wy2_16 pc2_17 g1_18 g2_19 f3A g4_20 g5_21 g6_22 (zMk mdA n4A (zPl cr0_ inn0_ k10_)) [zO0 wa m2_15 wy2_16 l0 pc2_17 a1_29 a2_30 a3_31 a4_32 a5_33 a6_34, zAr T 0 a1_29 7 g1_18, zAr T 0 a2_30 7 g2_19, zAr T 0 a3_31 7 f3A, zAr T 0 a4_32 (zMk mdA n4A (zPl cr0_ inn0_ k10_)) g4_20, zAr T 0 a5_33 (zMk mdA n4A (zPl cr0_ inn0_ k10_)) g5_21, zAr T 0 a6_34 (zMk mdA n4A (zPl cr0_ inn0_ k10_)) g6_22] := ⟨a1_29, a2_30, a3_31, a4_32, a5_33, a6_34, rfl⟩
      have G : zS T A s.heap s [z1_, wwB, wt, [zO10 xo t im mk rd po co tr wa wb_ fi cd], [zO0 wa m2_15 wy2_16 l0 pc2_17 a1_29 a2_30 a3_31 a4_32 a5_33 a6_34, zAr T 0 a1_29 7 g1_18, zAr T 0 a2_30 7 g2_19, zAr T 0 a3_31 7 f3A, zAr T 0 a4_32 (zMk mdA n4A (zPl cr0_ inn0_ k10_)) g4_20, zAr T 0 a5_33 (zMk mdA n4A (zPl cr0_ inn0_ k10_)) g5_21, zAr T 0 a6_34 (zMk mdA n4A (zPl cr0_ inn0_ k10_)) g6_22], z0_] _ _ := G.re rfl
      refine z_lp3 (T := T) 44 (fun (i : Nat) (u7 : Int32) (u8 : Int32) => [z1_, wwB, wt, [zO10 xo t im mk rd po co tr wa wb_ fi cd], [zO0 wa m2_15 wy2_16 l0 pc2_17 a1_29 a2_30 a3_31 a4_32 a5_33 a6_34, zAr T 0 a1_29 7 g1_18, zAr T 0 a2_30 7 g2_19, zAr T 0 a3_31 7 f3A, zAr T 0 a4_32 (zMk mdA n4A (zPl cr0_ inn0_ k10_)) g4_20, zAr T 0 a5_33 (zMk mdA n4A (zPl cr0_ inn0_ k10_)) g5_21, zAr T 0 a6_34 (zMk mdA n4A (zPl cr0_ inn0_ k10_)) g6_22], z0_]) (fun (i : Nat) (u7 : Int32) (u8 : Int32) => [(9, .int (nI i)), (8, .int u8), (7, .int u7), (6, .ref wa), (5, .ref l0), (0, .ref xo), (1, .int i1), (2, .int a_), (3, .int w_), (4, .int q_)]) (fun (i : Nat) (u7 : Int32) (u8 : Int32) => i ≤ aPr (aW cr0_ inn0_ k10_) 7) (fun (i : Nat) (u7 : Int32) (u8 : Int32) => aPr (aW cr0_ inn0_ k10_) 7 - i) ?_ 0 (-1) (-1) (show 0 ≤ aPr (aW cr0_ inn0_ k10_) 7 from (Nat.zero_le _)) G (lv_sub hl [0, 1, 2, 3, 4, 5, 6, 7, 8, 9] rfl)
      intro i u7 u8 hi ih_44 H locs ls G hl
      replace hi : i ≤ aPr (aW cr0_ inn0_ k10_) 7 := hi
      replace G : zS T A s.heap s [z1_, wwB, wt, [zO10 xo t im mk rd po co tr wa wb_ fi cd], [zO0 wa m2_15 wy2_16 l0 pc2_17 a1_29 a2_30 a3_31 a4_32 a5_33 a6_34, zAr T 0 a1_29 7 g1_18, zAr T 0 a2_30 7 g2_19, zAr T 0 a3_31 7 f3A, zAr T 0 a4_32 (zMk mdA n4A (zPl cr0_ inn0_ k10_)) g4_20, zAr T 0 a5_33 (zMk mdA n4A (zPl cr0_ inn0_ k10_)) g5_21, zAr T 0 a6_34 (zMk mdA n4A (zPl cr0_ inn0_ k10_)) g6_22], z0_] _ _ := G
      replace hl : lv_has ls 12 [(9, .int (nI i)), (8, .int u8), (7, .int u7), (6, .ref wa), (5, .ref l0), (0, .ref xo), (1, .int i1), (2, .int a_), (3, .int w_), (4, .int q_)] := hl
      refine lv_iload hx hb dX11_longest_44 (lv_at hl 0 rfl) ?_
      refine lv_aload hx hb dX11_longest_46 (lv_at hl 3 rfl) ?_
      have G : zS T A s.heap s [z1_, wwB, wt, [zO10 xo t im mk rd po co tr wa wb_ fi cd], [zO0 wa m2_15 wy2_16 l0 pc2_17 a1_29 a2_30 a3_31 a4_32 a5_33 a6_34], [zAr T 0 a1_29 7 g1_18], [zAr T 0 a2_30 7 g2_19], [zAr T 0 a3_31 7 f3A], [zAr T 0 a4_32 (zMk mdA n4A (zPl cr0_ inn0_ k10_)) g4_20], [zAr T 0 a5_33 (zMk mdA n4A (zPl cr0_ inn0_ k10_)) g5_21], [zAr T 0 a6_34 (zMk mdA n4A (zPl cr0_ inn0_ k10_)) g6_22], z0_] _ _ := G.re rfl
      refine z_get C G clX0 4 rfl 1 (by decide) m_fl_RX11_257 rfl dX11_longest_48 ?_
      refine lv_icmp_ge (tgt := 133) hx hb dX11_longest_51 (by decide) (fun c_36 => ?_) (fun c_36 => ?_)
      · have c_36n : wy2_16.toInt ≤ (i : Int) := by have q := (fa_le _ _).mp c_36; rw [nI_toInt (n := i) (by omega)] at q; exact q
        refine lv_iload hx hb dX11_longest_133 (lv_at hl 9 rfl) ?_
        refine lv_if_eq (tgt := 154) hx hb dX11_longest_135 (by decide) (fun c_37 => ?_) (fun c_37 => ?_)
        · have c_37n : q_.toInt = (0 : Int) := (fa_eq _ _).mp c_37
          refine lv_iload hx hb dX11_longest_154 (lv_at hl 2 rfl) ?_
          have hw_38 : bWays T wa l0 m2_15 wy2_16 pc2_17 g1_18 g2_19 f3A g4_20 g5_21 g6_22 (zMk mdA n4A (zPl cr0_ inn0_ k10_)) [zO0 wa m2_15 wy2_16 l0 pc2_17 a1_29 a2_30 a3_31 a4_32 a5_33 a6_34, zAr T 0 a1_29 7 g1_18, zAr T 0 a2_30 7 g2_19, zAr T 0 a3_31 7 f3A, zAr T 0 a4_32 (zMk mdA n4A (zPl cr0_ inn0_ k10_)) g4_20, zAr T 0 a5_33 (zMk mdA n4A (zPl cr0_ inn0_ k10_)) g5_21, zAr T 0 a6_34 (zMk mdA n4A (zPl cr0_ inn0_ k10_)) g6_22] := ⟨a1_29, a2_30, a3_31, a4_32, a5_33, a6_34, rfl⟩
          have G : zS T A s.heap s [z1_, wwB, wt, [zO10 xo t im mk rd po co tr wa wb_ fi cd], [zO0 wa m2_15 wy2_16 l0 pc2_17 a1_29 a2_30 a3_31 a4_32 a5_33 a6_34, zAr T 0 a1_29 7 g1_18, zAr T 0 a2_30 7 g2_19, zAr T 0 a3_31 7 f3A, zAr T 0 a4_32 (zMk mdA n4A (zPl cr0_ inn0_ k10_)) g4_20, zAr T 0 a5_33 (zMk mdA n4A (zPl cr0_ inn0_ k10_)) g5_21, zAr T 0 a6_34 (zMk mdA n4A (zPl cr0_ inn0_ k10_)) g6_22], z0_] _ _ := G.re rfl
          have G := G.sub (bs' := [[zO10 xo t im mk rd po co tr wa wb_ fi cd], wt, z0_, z1_, [zO0 wa m2_15 wy2_16 l0 pc2_17 a1_29 a2_30 a3_31 a4_32 a5_33 a6_34, zAr T 0 a1_29 7 g1_18, zAr T 0 a2_30 7 g2_19, zAr T 0 a3_31 7 f3A, zAr T 0 a4_32 (zMk mdA n4A (zPl cr0_ inn0_ k10_)) g4_20, zAr T 0 a5_33 (zMk mdA n4A (zPl cr0_ inn0_ k10_)) g5_21, zAr T 0 a6_34 (zMk mdA n4A (zPl cr0_ inn0_ k10_)) g6_22], wwB]) [3, 2, 5, 0, 4, 1] rfl
          exact z_back hQz_ (z_iret C hr hlocks G (Nat.le_of_ble_eq_true rfl) (by omega) dX11_longest_156 ⟨l0, m2_15, wy2_16, pc2_17, g1_18, g2_19, f3A, g4_20, g5_21, g6_22, (zMk mdA n4A (zPl cr0_ inn0_ k10_)), ([zO0 wa m2_15 wy2_16 l0 pc2_17 a1_29 a2_30 a3_31 a4_32 a5_33 a6_34, zAr T 0 a1_29 7 g1_18, zAr T 0 a2_30 7 g2_19, zAr T 0 a3_31 7 f3A, zAr T 0 a4_32 (zMk mdA n4A (zPl cr0_ inn0_ k10_)) g4_20, zAr T 0 a5_33 (zMk mdA n4A (zPl cr0_ inn0_ k10_)) g5_21, zAr T 0 a6_34 (zMk mdA n4A (zPl cr0_ inn0_ k10_)) g6_22]), laB, mdB, wyB, pc_B, f1B, f2B, f3B, f4B, f5B, f6B, n4B, wwB, rfl, hw_38, (Or.inr rfl), hwy9, hNAm.symm, (zMk_pw hpwA), (fun _ => h_26), (Or.inr h_27), hwwB, hmdB, hwmB, (by first | exact hNAo.symm | exact (zNA_n (by first | omega | grind)).symm), hpwB, (fun q => q), hTbB⟩)
        · have c_37n : ¬ q_.toInt = (0 : Int) := fun q => c_37 ((fa_eq _ _).mpr q)
          refine lv_iload hx hb dX11_longest_138 (lv_at hl 1 rfl) ?_
          refine lv_iconst (v := (-1)) hx hb dX11_longest_140 (by decide) ?_
          refine lv_icmp_eq (tgt := 154) hx hb dX11_longest_141 (by decide) (fun c_39 => ?_) (fun c_39 => ?_)
          · have c_39n : u8.toInt = (-1 : Int) := (fa_eq _ _).mp c_39
            refine lv_iload hx hb dX11_longest_154 (lv_at hl 2 rfl) ?_
            have hw_40 : bWays T wa l0 m2_15 wy2_16 pc2_17 g1_18 g2_19 f3A g4_20 g5_21 g6_22 (zMk mdA n4A (zPl cr0_ inn0_ k10_)) [zO0 wa m2_15 wy2_16 l0 pc2_17 a1_29 a2_30 a3_31 a4_32 a5_33 a6_34, zAr T 0 a1_29 7 g1_18, zAr T 0 a2_30 7 g2_19, zAr T 0 a3_31 7 f3A, zAr T 0 a4_32 (zMk mdA n4A (zPl cr0_ inn0_ k10_)) g4_20, zAr T 0 a5_33 (zMk mdA n4A (zPl cr0_ inn0_ k10_)) g5_21, zAr T 0 a6_34 (zMk mdA n4A (zPl cr0_ inn0_ k10_)) g6_22] := ⟨a1_29, a2_30, a3_31, a4_32, a5_33, a6_34, rfl⟩
            have G : zS T A s.heap s [z1_, wwB, wt, [zO10 xo t im mk rd po co tr wa wb_ fi cd], [zO0 wa m2_15 wy2_16 l0 pc2_17 a1_29 a2_30 a3_31 a4_32 a5_33 a6_34, zAr T 0 a1_29 7 g1_18, zAr T 0 a2_30 7 g2_19, zAr T 0 a3_31 7 f3A, zAr T 0 a4_32 (zMk mdA n4A (zPl cr0_ inn0_ k10_)) g4_20, zAr T 0 a5_33 (zMk mdA n4A (zPl cr0_ inn0_ k10_)) g5_21, zAr T 0 a6_34 (zMk mdA n4A (zPl cr0_ inn0_ k10_)) g6_22], z0_] _ _ := G.re rfl
            have G := G.sub (bs' := [[zO10 xo t im mk rd po co tr wa wb_ fi cd], wt, z0_, z1_, [zO0 wa m2_15 wy2_16 l0 pc2_17 a1_29 a2_30 a3_31 a4_32 a5_33 a6_34, zAr T 0 a1_29 7 g1_18, zAr T 0 a2_30 7 g2_19, zAr T 0 a3_31 7 f3A, zAr T 0 a4_32 (zMk mdA n4A (zPl cr0_ inn0_ k10_)) g4_20, zAr T 0 a5_33 (zMk mdA n4A (zPl cr0_ inn0_ k10_)) g5_21, zAr T 0 a6_34 (zMk mdA n4A (zPl cr0_ inn0_ k10_)) g6_22], wwB]) [3, 2, 5, 0, 4, 1] rfl
            exact z_back hQz_ (z_iret C hr hlocks G (Nat.le_of_ble_eq_true rfl) (by omega) dX11_longest_156 ⟨l0, m2_15, wy2_16, pc2_17, g1_18, g2_19, f3A, g4_20, g5_21, g6_22, (zMk mdA n4A (zPl cr0_ inn0_ k10_)), ([zO0 wa m2_15 wy2_16 l0 pc2_17 a1_29 a2_30 a3_31 a4_32 a5_33 a6_34, zAr T 0 a1_29 7 g1_18, zAr T 0 a2_30 7 g2_19, zAr T 0 a3_31 7 f3A, zAr T 0 a4_32 (zMk mdA n4A (zPl cr0_ inn0_ k10_)) g4_20, zAr T 0 a5_33 (zMk mdA n4A (zPl cr0_ inn0_ k10_)) g5_21, zAr T 0 a6_34 (zMk mdA n4A (zPl cr0_ inn0_ k10_)) g6_22]), laB, mdB, wyB, pc_B, f1B, f2B, f3B, f4B, f5B, f6B, n4B, wwB, rfl, hw_40, (Or.inr rfl), hwy9, hNAm.symm, (zMk_pw hpwA), (fun _ => h_26), (Or.inr h_27), hwwB, hmdB, hwmB, (by first | exact hNAo.symm | exact (zNA_n (by first | omega | grind)).symm), hpwB, (fun q => q), hTbB⟩)
          · have c_39n : ¬ u8.toInt = (-1 : Int) := fun q => c_39 ((fa_eq _ _).mpr q)
            refine lv_aload hx hb dX11_longest_144 (lv_at hl 3 rfl) ?_
            refine lv_iload hx hb dX11_longest_146 (lv_at hl 1 rfl) ?_
            have hw_41 : bWays T wa l0 m2_15 wy2_16 pc2_17 g1_18 g2_19 f3A g4_20 g5_21 g6_22 (zMk mdA n4A (zPl cr0_ inn0_ k10_)) [zO0 wa m2_15 wy2_16 l0 pc2_17 a1_29 a2_30 a3_31 a4_32 a5_33 a6_34, zAr T 0 a1_29 7 g1_18, zAr T 0 a2_30 7 g2_19, zAr T 0 a3_31 7 f3A, zAr T 0 a4_32 (zMk mdA n4A (zPl cr0_ inn0_ k10_)) g4_20, zAr T 0 a5_33 (zMk mdA n4A (zPl cr0_ inn0_ k10_)) g5_21, zAr T 0 a6_34 (zMk mdA n4A (zPl cr0_ inn0_ k10_)) g6_22] := ⟨a1_29, a2_30, a3_31, a4_32, a5_33, a6_34, rfl⟩
            have G : zS T A s.heap s [z1_, wwB, wt, [zO10 xo t im mk rd po co tr wa wb_ fi cd], [zO0 wa m2_15 wy2_16 l0 pc2_17 a1_29 a2_30 a3_31 a4_32 a5_33 a6_34, zAr T 0 a1_29 7 g1_18, zAr T 0 a2_30 7 g2_19, zAr T 0 a3_31 7 f3A, zAr T 0 a4_32 (zMk mdA n4A (zPl cr0_ inn0_ k10_)) g4_20, zAr T 0 a5_33 (zMk mdA n4A (zPl cr0_ inn0_ k10_)) g5_21, zAr T 0 a6_34 (zMk mdA n4A (zPl cr0_ inn0_ k10_)) g6_22], z0_] _ _ := G.re rfl
            refine z_Vi (bc := [[zO0 wa m2_15 wy2_16 l0 pc2_17 a1_29 a2_30 a3_31 a4_32 a5_33 a6_34, zAr T 0 a1_29 7 g1_18, zAr T 0 a2_30 7 g2_19, zAr T 0 a3_31 7 f3A, zAr T 0 a4_32 (zMk mdA n4A (zPl cr0_ inn0_ k10_)) g4_20, zAr T 0 a5_33 (zMk mdA n4A (zPl cr0_ inn0_ k10_)) g5_21, zAr T 0 a6_34 (zMk mdA n4A (zPl cr0_ inn0_ k10_)) g6_22], z0_]) (br := [z1_, wwB, wt, [zO10 xo t im mk rd po co tr wa wb_ fi cd]]) (As := [.int u8]) (rest := []) C G (c_number l T wa l0 m2_15 wy2_16 pc2_17 g1_18 g2_19 f3A g4_20 g5_21 g6_22 (zMk mdA n4A (zPl cr0_ inn0_ k10_)) ([zO0 wa m2_15 wy2_16 l0 pc2_17 a1_29 a2_30 a3_31 a4_32 a5_33 a6_34, zAr T 0 a1_29 7 g1_18, zAr T 0 a2_30 7 g2_19, zAr T 0 a3_31 7 f3A, zAr T 0 a4_32 (zMk mdA n4A (zPl cr0_ inn0_ k10_)) g4_20, zAr T 0 a5_33 (zMk mdA n4A (zPl cr0_ inn0_ k10_)) g5_21, zAr T 0 a6_34 (zMk mdA n4A (zPl cr0_ inn0_ k10_)) g6_22]) cr0_ inn0_ k10_ k20_ k30_ k40_ z0_ u8 hw_41 hz0_ (by first | with_reducible assumption | with_reducible rfl | omega | assumption | rfl)) (kV_RX11_272 C.2.2.2.2 (Nat.le_of_ble_eq_true rfl) (Nat.le_of_ble_eq_true rfl)) [4, 5] [4, 0] rfl rfl (ci := 0) (qc := (RX0, TX0, 10)) rfl rfl (List.mem_flatten.mpr ⟨_, List.mem_of_getElem? (i := 0) rfl, (bWays_mem hw_41).choose_spec⟩) rfl rfl hl.1 dX11_longest_148 (Nat.le_of_ble_eq_true rfl) (by show _ + 0 ≤ 6 * (zNA (i1.toInt = 0 ∧ 0 < (fk 0).toInt ∧ 0 ≤ a_.toInt ∧ a_.toInt < cr0_.toInt ∧ a_.toInt < 7) mdA n4A (zPl cr0_ inn0_ k10_) - n4A) + 6 * (zNA (i1.toInt = 1 ∧ 1 < (fk 0).toInt ∧ 0 ≤ a_.toInt ∧ a_.toInt < cr1_.toInt ∧ a_.toInt < 7) mdB n4B (zPl cr1_ inn1_ k11_) - n4B); omega) (fun r_42 b1 H locs hw G => ?_)
            obtain rfl := hw
            have G : zS T A s.heap s [z1_, wwB, wt, [zO10 xo t im mk rd po co tr wa wb_ fi cd], [zO0 wa m2_15 wy2_16 l0 pc2_17 a1_29 a2_30 a3_31 a4_32 a5_33 a6_34, zAr T 0 a1_29 7 g1_18, zAr T 0 a2_30 7 g2_19, zAr T 0 a3_31 7 f3A, zAr T 0 a4_32 (zMk mdA n4A (zPl cr0_ inn0_ k10_)) g4_20, zAr T 0 a5_33 (zMk mdA n4A (zPl cr0_ inn0_ k10_)) g5_21, zAr T 0 a6_34 (zMk mdA n4A (zPl cr0_ inn0_ k10_)) g6_22], z0_] _ _ := G
            refine lv_goto (tgt := 156) hx hb dX11_longest_151 (by decide) ?_
            have G := G.sub (bs' := [[zO10 xo t im mk rd po co tr wa wb_ fi cd], wt, z0_, z1_, [zO0 wa m2_15 wy2_16 l0 pc2_17 a1_29 a2_30 a3_31 a4_32 a5_33 a6_34, zAr T 0 a1_29 7 g1_18, zAr T 0 a2_30 7 g2_19, zAr T 0 a3_31 7 f3A, zAr T 0 a4_32 (zMk mdA n4A (zPl cr0_ inn0_ k10_)) g4_20, zAr T 0 a5_33 (zMk mdA n4A (zPl cr0_ inn0_ k10_)) g5_21, zAr T 0 a6_34 (zMk mdA n4A (zPl cr0_ inn0_ k10_)) g6_22], wwB]) [3, 2, 5, 0, 4, 1] rfl
            exact z_back hQz_ (z_iret C hr hlocks G (Nat.le_of_ble_eq_true rfl) (by omega) dX11_longest_156 ⟨l0, m2_15, wy2_16, pc2_17, g1_18, g2_19, f3A, g4_20, g5_21, g6_22, (zMk mdA n4A (zPl cr0_ inn0_ k10_)), ([zO0 wa m2_15 wy2_16 l0 pc2_17 a1_29 a2_30 a3_31 a4_32 a5_33 a6_34, zAr T 0 a1_29 7 g1_18, zAr T 0 a2_30 7 g2_19, zAr T 0 a3_31 7 f3A, zAr T 0 a4_32 (zMk mdA n4A (zPl cr0_ inn0_ k10_)) g4_20, zAr T 0 a5_33 (zMk mdA n4A (zPl cr0_ inn0_ k10_)) g5_21, zAr T 0 a6_34 (zMk mdA n4A (zPl cr0_ inn0_ k10_)) g6_22]), laB, mdB, wyB, pc_B, f1B, f2B, f3B, f4B, f5B, f6B, n4B, wwB, rfl, hw_41, (Or.inr rfl), hwy9, hNAm.symm, (zMk_pw hpwA), (fun _ => h_26), (Or.inr h_27), hwwB, hmdB, hwmB, (by first | exact hNAo.symm | exact (zNA_n (by first | omega | grind)).symm), hpwB, (fun q => q), hTbB⟩)
      · have c_36n : ¬ wy2_16.toInt ≤ (i : Int) := fun q => c_36 ((fa_le _ _).mpr (by rw [nI_toInt (n := i) (by omega)]; exact q))
        refine lv_aload hx hb dX11_longest_54 (lv_at hl 3 rfl) ?_
        refine lv_iload hx hb dX11_longest_56 (lv_at hl 0 rfl) ?_
        refine lv_iload_n hx hb dX11_longest_58 rfl (lv_at hl 7 rfl) ?_
        have hw_43 : bWays T wa l0 m2_15 wy2_16 pc2_17 g1_18 g2_19 f3A g4_20 g5_21 g6_22 (zMk mdA n4A (zPl cr0_ inn0_ k10_)) [zO0 wa m2_15 wy2_16 l0 pc2_17 a1_29 a2_30 a3_31 a4_32 a5_33 a6_34, zAr T 0 a1_29 7 g1_18, zAr T 0 a2_30 7 g2_19, zAr T 0 a3_31 7 f3A, zAr T 0 a4_32 (zMk mdA n4A (zPl cr0_ inn0_ k10_)) g4_20, zAr T 0 a5_33 (zMk mdA n4A (zPl cr0_ inn0_ k10_)) g5_21, zAr T 0 a6_34 (zMk mdA n4A (zPl cr0_ inn0_ k10_)) g6_22] := ⟨a1_29, a2_30, a3_31, a4_32, a5_33, a6_34, rfl⟩
        have G : zS T A s.heap s [z1_, wwB, wt, [zO10 xo t im mk rd po co tr wa wb_ fi cd], [zO0 wa m2_15 wy2_16 l0 pc2_17 a1_29 a2_30 a3_31 a4_32 a5_33 a6_34, zAr T 0 a1_29 7 g1_18, zAr T 0 a2_30 7 g2_19, zAr T 0 a3_31 7 f3A, zAr T 0 a4_32 (zMk mdA n4A (zPl cr0_ inn0_ k10_)) g4_20, zAr T 0 a5_33 (zMk mdA n4A (zPl cr0_ inn0_ k10_)) g5_21, zAr T 0 a6_34 (zMk mdA n4A (zPl cr0_ inn0_ k10_)) g6_22], z0_] _ _ := G.re rfl
        refine z_Vi (bc := [[zO0 wa m2_15 wy2_16 l0 pc2_17 a1_29 a2_30 a3_31 a4_32 a5_33 a6_34, zAr T 0 a1_29 7 g1_18, zAr T 0 a2_30 7 g2_19, zAr T 0 a3_31 7 f3A, zAr T 0 a4_32 (zMk mdA n4A (zPl cr0_ inn0_ k10_)) g4_20, zAr T 0 a5_33 (zMk mdA n4A (zPl cr0_ inn0_ k10_)) g5_21, zAr T 0 a6_34 (zMk mdA n4A (zPl cr0_ inn0_ k10_)) g6_22]]) (br := [z1_, wwB, wt, [zO10 xo t im mk rd po co tr wa wb_ fi cd], z0_]) (As := [.int (nI i), .int a_]) (rest := []) C G (c_steps l T wa l0 m2_15 wy2_16 pc2_17 g1_18 g2_19 f3A g4_20 g5_21 g6_22 (zMk mdA n4A (zPl cr0_ inn0_ k10_)) ([zO0 wa m2_15 wy2_16 l0 pc2_17 a1_29 a2_30 a3_31 a4_32 a5_33 a6_34, zAr T 0 a1_29 7 g1_18, zAr T 0 a2_30 7 g2_19, zAr T 0 a3_31 7 f3A, zAr T 0 a4_32 (zMk mdA n4A (zPl cr0_ inn0_ k10_)) g4_20, zAr T 0 a5_33 (zMk mdA n4A (zPl cr0_ inn0_ k10_)) g5_21, zAr T 0 a6_34 (zMk mdA n4A (zPl cr0_ inn0_ k10_)) g6_22]) (nI i) a_ hw_43 (by first | with_reducible assumption | with_reducible rfl | omega | assumption | rfl)) (kV_RX11_266 C.2.2.2.2 (Nat.le_of_ble_eq_true rfl) (Nat.le_of_ble_eq_true rfl)) [4] [4] rfl rfl (ci := 0) (qc := (RX0, TX0, 10)) rfl rfl (List.mem_flatten.mpr ⟨_, List.mem_of_getElem? (i := 0) rfl, (bWays_mem hw_43).choose_spec⟩) rfl rfl hl.1 dX11_longest_59 (Nat.le_of_ble_eq_true rfl) (by show _ + 0 ≤ 6 * (zNA (i1.toInt = 0 ∧ 0 < (fk 0).toInt ∧ 0 ≤ a_.toInt ∧ a_.toInt < cr0_.toInt ∧ a_.toInt < 7) mdA n4A (zPl cr0_ inn0_ k10_) - n4A) + 6 * (zNA (i1.toInt = 1 ∧ 1 < (fk 0).toInt ∧ 0 ≤ a_.toInt ∧ a_.toInt < cr1_.toInt ∧ a_.toInt < 7) mdB n4B (zPl cr1_ inn1_ k11_) - n4B); omega) (fun r_45 b1 H locs hw G => ?_)
        refine zAn2 hw ?_
        intro hbs9 h_44
        clear hw
        subst hbs9
        have G : zS T A s.heap s [z1_, wwB, wt, [zO10 xo t im mk rd po co tr wa wb_ fi cd], z0_, [zO0 wa m2_15 wy2_16 l0 pc2_17 a1_29 a2_30 a3_31 a4_32 a5_33 a6_34, zAr T 0 a1_29 7 g1_18, zAr T 0 a2_30 7 g2_19, zAr T 0 a3_31 7 f3A, zAr T 0 a4_32 (zMk mdA n4A (zPl cr0_ inn0_ k10_)) g4_20, zAr T 0 a5_33 (zMk mdA n4A (zPl cr0_ inn0_ k10_)) g5_21, zAr T 0 a6_34 (zMk mdA n4A (zPl cr0_ inn0_ k10_)) g6_22]] _ _ := G
        subst h_44
        refine lv_istore (lv' := [(10, .int (zEntry g5_21 (zMk mdA n4A (zPl cr0_ inn0_ k10_)) (nI i) a_ >>> (17 &&& 31))), (9, .int (nI i)), (8, .int u8), (7, .int u7), (6, .ref wa), (5, .ref l0), (0, .ref xo), (1, .int i1), (2, .int a_), (3, .int w_), (4, .int q_)]) hx hb dX11_longest_62 hl (by decide) (zLvf_h rfl) (fun ls hl => ?_)
        refine lv_iload hx hb dX11_longest_64 (lv_at hl 3 rfl) ?_
        refine lv_iconst (v := (-1)) hx hb dX11_longest_66 (by decide) ?_
        refine lv_icmp_eq (tgt := 91) hx hb dX11_longest_67 (by decide) (fun c_46 => ?_) (fun c_46 => ?_)
        · have c_46n : u7.toInt = (-1 : Int) := (fa_eq _ _).mp c_46
          refine lv_iconst (v := 1) hx hb dX11_longest_91 (by decide) ?_
          refine lv_goto (tgt := 96) hx hb dX11_longest_92 (by decide) ?_
          refine lv_istore (lv' := [(11, .int 1), (10, .int (zEntry g5_21 (zMk mdA n4A (zPl cr0_ inn0_ k10_)) (nI i) a_ >>> (17 &&& 31))), (9, .int (nI i)), (8, .int u8), (7, .int u7), (6, .ref wa), (5, .ref l0), (0, .ref xo), (1, .int i1), (2, .int a_), (3, .int w_), (4, .int q_)]) hx hb dX11_longest_96 hl (by decide) (zLvf_h rfl) (fun ls hl => ?_)
          refine lv_iload hx hb dX11_longest_98 (lv_at hl 0 rfl) ?_
          refine lv_if_eq (tgt := 127) hx hb dX11_longest_100 (by decide) (fun q => absurd q (by decide)) (fun _ => ?_)
          refine lv_aload hx hb dX11_longest_103 (lv_at hl 6 rfl) ?_
          refine lv_aload hx hb dX11_longest_105 (lv_at hl 5 rfl) ?_
          refine lv_iload hx hb dX11_longest_107 (lv_at hl 2 rfl) ?_
          refine lv_iload_n hx hb dX11_longest_109 rfl (lv_at hl 9 rfl) ?_
          refine z_Vi (bc := [[zO0 wa m2_15 wy2_16 l0 pc2_17 a1_29 a2_30 a3_31 a4_32 a5_33 a6_34, zAr T 0 a1_29 7 g1_18, zAr T 0 a2_30 7 g2_19, zAr T 0 a3_31 7 f3A, zAr T 0 a4_32 (zMk mdA n4A (zPl cr0_ inn0_ k10_)) g4_20, zAr T 0 a5_33 (zMk mdA n4A (zPl cr0_ inn0_ k10_)) g5_21, zAr T 0 a6_34 (zMk mdA n4A (zPl cr0_ inn0_ k10_)) g6_22]]) (br := [z1_, wwB, wt, [zO10 xo t im mk rd po co tr wa wb_ fi cd], z0_]) (As := [.int (nI i), .int a_]) (rest := [.ref l0]) C G (c_where l T wa l0 m2_15 wy2_16 pc2_17 g1_18 g2_19 f3A g4_20 g5_21 g6_22 (zMk mdA n4A (zPl cr0_ inn0_ k10_)) ([zO0 wa m2_15 wy2_16 l0 pc2_17 a1_29 a2_30 a3_31 a4_32 a5_33 a6_34, zAr T 0 a1_29 7 g1_18, zAr T 0 a2_30 7 g2_19, zAr T 0 a3_31 7 f3A, zAr T 0 a4_32 (zMk mdA n4A (zPl cr0_ inn0_ k10_)) g4_20, zAr T 0 a5_33 (zMk mdA n4A (zPl cr0_ inn0_ k10_)) g5_21, zAr T 0 a6_34 (zMk mdA n4A (zPl cr0_ inn0_ k10_)) g6_22]) (nI i) a_ hw_43 (by first | with_reducible assumption | with_reducible rfl | omega | assumption | rfl)) (kV_RX11_260 C.2.2.2.2 (Nat.le_of_ble_eq_true rfl) (Nat.le_of_ble_eq_true rfl)) [5] [5] rfl rfl (ci := 0) (qc := (RX0, TX0, 10)) rfl rfl (List.mem_flatten.mpr ⟨_, List.mem_of_getElem? (i := 0) rfl, (bWays_mem hw_43).choose_spec⟩) rfl rfl hl.1 dX11_longest_110 (Nat.le_of_ble_eq_true rfl) (by show _ + 0 ≤ 6 * (zNA (i1.toInt = 0 ∧ 0 < (fk 0).toInt ∧ 0 ≤ a_.toInt ∧ a_.toInt < cr0_.toInt ∧ a_.toInt < 7) mdA n4A (zPl cr0_ inn0_ k10_) - n4A) + 6 * (zNA (i1.toInt = 1 ∧ 1 < (fk 0).toInt ∧ 0 ≤ a_.toInt ∧ a_.toInt < cr1_.toInt ∧ a_.toInt < 7) mdB n4B (zPl cr1_ inn1_ k11_) - n4B); omega) (fun r_48 b1 H locs hw G => ?_)
          refine zAn2 hw ?_
          intro hbs9 h_47
          clear hw
          subst hbs9
          have G : zS T A s.heap s [z1_, wwB, wt, [zO10 xo t im mk rd po co tr wa wb_ fi cd], z0_, [zO0 wa m2_15 wy2_16 l0 pc2_17 a1_29 a2_30 a3_31 a4_32 a5_33 a6_34, zAr T 0 a1_29 7 g1_18, zAr T 0 a2_30 7 g2_19, zAr T 0 a3_31 7 f3A, zAr T 0 a4_32 (zMk mdA n4A (zPl cr0_ inn0_ k10_)) g4_20, zAr T 0 a5_33 (zMk mdA n4A (zPl cr0_ inn0_ k10_)) g5_21, zAr T 0 a6_34 (zMk mdA n4A (zPl cr0_ inn0_ k10_)) g6_22]] _ _ := G
          subst h_47
          refine z_Vi (bc := [z0_]) (br := [z1_, wwB, wt, [zO10 xo t im mk rd po co tr wa wb_ fi cd], [zO0 wa m2_15 wy2_16 l0 pc2_17 a1_29 a2_30 a3_31 a4_32 a5_33 a6_34, zAr T 0 a1_29 7 g1_18, zAr T 0 a2_30 7 g2_19, zAr T 0 a3_31 7 f3A, zAr T 0 a4_32 (zMk mdA n4A (zPl cr0_ inn0_ k10_)) g4_20, zAr T 0 a5_33 (zMk mdA n4A (zPl cr0_ inn0_ k10_)) g5_21, zAr T 0 a6_34 (zMk mdA n4A (zPl cr0_ inn0_ k10_)) g6_22]]) (As := [.int (zEntry g5_21 (zMk mdA n4A (zPl cr0_ inn0_ k10_)) (nI i) a_ &&& 7)]) (rest := []) C G (c_isInn l T l0 cr0_ inn0_ k10_ k20_ k30_ k40_ z0_ (zEntry g5_21 (zMk mdA n4A (zPl cr0_ inn0_ k10_)) (nI i) a_ &&& 7) hz0_) (kV_RX11_174 C.2.2.2.2 (Nat.le_of_ble_eq_true rfl) (Nat.le_of_ble_eq_true rfl)) [4] [4] rfl rfl (ci := 4) (qc := (RX4, TX4, 6)) rfl rfl (List.mem_flatten.mpr ⟨_, List.mem_of_getElem? (i := 0) rfl, (bLand_mem hz0_).choose_spec⟩) rfl rfl hl.1 dX11_longest_113 (Nat.le_of_ble_eq_true rfl) (by show _ + 0 ≤ 6 * (zNA (i1.toInt = 0 ∧ 0 < (fk 0).toInt ∧ 0 ≤ a_.toInt ∧ a_.toInt < cr0_.toInt ∧ a_.toInt < 7) mdA n4A (zPl cr0_ inn0_ k10_) - n4A) + 6 * (zNA (i1.toInt = 1 ∧ 1 < (fk 0).toInt ∧ 0 ≤ a_.toInt ∧ a_.toInt < cr1_.toInt ∧ a_.toInt < 7) mdB n4B (zPl cr1_ inn1_ k11_) - n4B); omega) (fun r_50 b1 H locs hw G => ?_)
          refine zAn2 hw ?_
          intro hbs9 hc_49
          clear hw
          subst hbs9
          have G : zS T A s.heap s [z1_, wwB, wt, [zO10 xo t im mk rd po co tr wa wb_ fi cd], [zO0 wa m2_15 wy2_16 l0 pc2_17 a1_29 a2_30 a3_31 a4_32 a5_33 a6_34, zAr T 0 a1_29 7 g1_18, zAr T 0 a2_30 7 g2_19, zAr T 0 a3_31 7 f3A, zAr T 0 a4_32 (zMk mdA n4A (zPl cr0_ inn0_ k10_)) g4_20, zAr T 0 a5_33 (zMk mdA n4A (zPl cr0_ inn0_ k10_)) g5_21, zAr T 0 a6_34 (zMk mdA n4A (zPl cr0_ inn0_ k10_)) g6_22], z0_] _ _ := G
          rcases hc_49 with ⟨rfl, h_51, h_52, h_53, h_54⟩ | ⟨rfl, h_55⟩
          · have h_51 : 0 ≤ (zEntry g5_21 (zMk mdA n4A (zPl cr0_ inn0_ k10_)) (nI i) a_ &&& 7).toInt := h_51
            have h_52 : (zEntry g5_21 (zMk mdA n4A (zPl cr0_ inn0_ k10_)) (nI i) a_ &&& 7).toInt < cr0_.toInt := h_52
            have h_53 : (zEntry g5_21 (zMk mdA n4A (zPl cr0_ inn0_ k10_)) (nI i) a_ &&& 7).toInt < 7 := h_53
            have h_54 : ¬ zBit inn0_ (zEntry g5_21 (zMk mdA n4A (zPl cr0_ inn0_ k10_)) (nI i) a_ &&& 7) = 0 := h_54
            refine lv_if_eq (tgt := 127) hx hb dX11_longest_116 (by decide) (fun q => absurd q (by decide)) (fun _ => ?_)
            refine lv_iload hx hb dX11_longest_119 (lv_at hl 1 rfl) ?_
            refine lv_istore (lv' := [(7, .int (zEntry g5_21 (zMk mdA n4A (zPl cr0_ inn0_ k10_)) (nI i) a_ >>> (17 &&& 31))), (11, .int 1), (10, .int (zEntry g5_21 (zMk mdA n4A (zPl cr0_ inn0_ k10_)) (nI i) a_ >>> (17 &&& 31))), (9, .int (nI i)), (8, .int u8), (6, .ref wa), (5, .ref l0), (0, .ref xo), (1, .int i1), (2, .int a_), (3, .int w_), (4, .int q_)]) hx hb dX11_longest_121 hl (by decide) (zLvf_h rfl) (fun ls hl => ?_)
            refine lv_iload hx hb dX11_longest_123 (lv_at hl 3 rfl) ?_
            refine lv_istore (lv' := [(8, .int (nI i)), (7, .int (zEntry g5_21 (zMk mdA n4A (zPl cr0_ inn0_ k10_)) (nI i) a_ >>> (17 &&& 31))), (11, .int 1), (10, .int (zEntry g5_21 (zMk mdA n4A (zPl cr0_ inn0_ k10_)) (nI i) a_ >>> (17 &&& 31))), (9, .int (nI i)), (6, .ref wa), (5, .ref l0), (0, .ref xo), (1, .int i1), (2, .int a_), (3, .int w_), (4, .int q_)]) hx hb dX11_longest_125 hl (by decide) (zLvf_h rfl) (fun ls hl => ?_)
            refine lv_iinc (v := nI (i + 1)) (lv' := [(9, .int (nI (i + 1))), (8, .int (nI i)), (7, .int (zEntry g5_21 (zMk mdA n4A (zPl cr0_ inn0_ k10_)) (nI i) a_ >>> (17 &&& 31))), (11, .int 1), (10, .int (zEntry g5_21 (zMk mdA n4A (zPl cr0_ inn0_ k10_)) (nI i) a_ >>> (17 &&& 31))), (6, .ref wa), (5, .ref l0), (0, .ref xo), (1, .int i1), (2, .int a_), (3, .int w_), (4, .int q_)]) hx hb dX11_longest_127 hl (k := 4) rfl (z_inc i 1) (by decide) (zLvf_h rfl) (fun ls hl => ?_)
            refine lv_goto (tgt := 44) hx hb dX11_longest_130 (by decide) ?_
            exact ih_44 (i + 1) (zEntry g5_21 (zMk mdA n4A (zPl cr0_ inn0_ k10_)) (nI i) a_ >>> (17 &&& 31)) (nI i) (show (i + 1) ≤ aPr (aW cr0_ inn0_ k10_) 7 from (by omega)) (show aPr (aW cr0_ inn0_ k10_) 7 - (i + 1) < aPr (aW cr0_ inn0_ k10_) 7 - i from by omega) _ _ ls G (lv_sub hl [0, 1, 2, 5, 6, 7, 8, 9, 10, 11] rfl)
          · have h_55 : ((zEntry g5_21 (zMk mdA n4A (zPl cr0_ inn0_ k10_)) (nI i) a_ &&& 7).toInt < 0 ∨ cr0_.toInt ≤ (zEntry g5_21 (zMk mdA n4A (zPl cr0_ inn0_ k10_)) (nI i) a_ &&& 7).toInt ∨ 7 ≤ (zEntry g5_21 (zMk mdA n4A (zPl cr0_ inn0_ k10_)) (nI i) a_ &&& 7).toInt ∨ zBit inn0_ (zEntry g5_21 (zMk mdA n4A (zPl cr0_ inn0_ k10_)) (nI i) a_ &&& 7) = 0) := h_55
            refine lv_if_eq (tgt := 127) hx hb dX11_longest_116 (by decide) (fun _ => ?_) (fun q => absurd (by decide) q)
            refine lv_iinc (v := nI (i + 1)) (lv' := [(9, .int (nI (i + 1))), (11, .int 1), (10, .int (zEntry g5_21 (zMk mdA n4A (zPl cr0_ inn0_ k10_)) (nI i) a_ >>> (17 &&& 31))), (8, .int u8), (7, .int u7), (6, .ref wa), (5, .ref l0), (0, .ref xo), (1, .int i1), (2, .int a_), (3, .int w_), (4, .int q_)]) hx hb dX11_longest_127 hl (k := 2) rfl (z_inc i 1) (by decide) (zLvf_h rfl) (fun ls hl => ?_)
            refine lv_goto (tgt := 44) hx hb dX11_longest_130 (by decide) ?_
            exact ih_44 (i + 1) u7 u8 (show (i + 1) ≤ aPr (aW cr0_ inn0_ k10_) 7 from (by omega)) (show aPr (aW cr0_ inn0_ k10_) 7 - (i + 1) < aPr (aW cr0_ inn0_ k10_) 7 - i from by omega) _ _ ls G (lv_sub hl [0, 3, 4, 5, 6, 7, 8, 9, 10, 11] rfl)
        · have c_46n : ¬ u7.toInt = (-1 : Int) := fun q => c_46 ((fa_eq _ _).mpr q)
          refine lv_iload_n hx hb dX11_longest_70 rfl (lv_at hl 9 rfl) ?_
          refine lv_if_eq (tgt := 84) hx hb dX11_longest_71 (by decide) (fun c_56 => ?_) (fun c_56 => ?_)
          · have c_56n : w_.toInt = (0 : Int) := (fa_eq _ _).mp c_56
            refine lv_iload hx hb dX11_longest_84 (lv_at hl 0 rfl) ?_
            refine lv_iload hx hb dX11_longest_86 (lv_at hl 3 rfl) ?_
            refine lv_icmp_le (tgt := 95) hx hb dX11_longest_88 (by decide) (fun c_57 => ?_) (fun c_57 => ?_)
            · have c_57n : (zEntry g5_21 (zMk mdA n4A (zPl cr0_ inn0_ k10_)) (nI i) a_ >>> (17 &&& 31)).toInt ≤ u7.toInt := (fa_le _ _).mp c_57
              refine lv_iconst (v := 0) hx hb dX11_longest_95 (by decide) ?_
              refine lv_istore (lv' := [(11, .int 0), (10, .int (zEntry g5_21 (zMk mdA n4A (zPl cr0_ inn0_ k10_)) (nI i) a_ >>> (17 &&& 31))), (9, .int (nI i)), (8, .int u8), (7, .int u7), (6, .ref wa), (5, .ref l0), (0, .ref xo), (1, .int i1), (2, .int a_), (3, .int w_), (4, .int q_)]) hx hb dX11_longest_96 hl (by decide) (zLvf_h rfl) (fun ls hl => ?_)
              refine lv_iload hx hb dX11_longest_98 (lv_at hl 0 rfl) ?_
              refine lv_if_eq (tgt := 127) hx hb dX11_longest_100 (by decide) (fun _ => ?_) (fun q => absurd (by decide) q)
              refine lv_iinc (v := nI (i + 1)) (lv' := [(9, .int (nI (i + 1))), (11, .int 0), (10, .int (zEntry g5_21 (zMk mdA n4A (zPl cr0_ inn0_ k10_)) (nI i) a_ >>> (17 &&& 31))), (8, .int u8), (7, .int u7), (6, .ref wa), (5, .ref l0), (0, .ref xo), (1, .int i1), (2, .int a_), (3, .int w_), (4, .int q_)]) hx hb dX11_longest_127 hl (k := 2) rfl (z_inc i 1) (by decide) (zLvf_h rfl) (fun ls hl => ?_)
              refine lv_goto (tgt := 44) hx hb dX11_longest_130 (by decide) ?_
              have G := G.sub (bs' := [z1_, wwB, wt, [zO10 xo t im mk rd po co tr wa wb_ fi cd], [zO0 wa m2_15 wy2_16 l0 pc2_17 a1_29 a2_30 a3_31 a4_32 a5_33 a6_34, zAr T 0 a1_29 7 g1_18, zAr T 0 a2_30 7 g2_19, zAr T 0 a3_31 7 f3A, zAr T 0 a4_32 (zMk mdA n4A (zPl cr0_ inn0_ k10_)) g4_20, zAr T 0 a5_33 (zMk mdA n4A (zPl cr0_ inn0_ k10_)) g5_21, zAr T 0 a6_34 (zMk mdA n4A (zPl cr0_ inn0_ k10_)) g6_22], z0_]) [0, 1, 2, 3, 5, 4] rfl
              exact ih_44 (i + 1) u7 u8 (show (i + 1) ≤ aPr (aW cr0_ inn0_ k10_) 7 from (by omega)) (show aPr (aW cr0_ inn0_ k10_) 7 - (i + 1) < aPr (aW cr0_ inn0_ k10_) 7 - i from by omega) _ _ ls G (lv_sub hl [0, 3, 4, 5, 6, 7, 8, 9, 10, 11] rfl)
            · have c_57n : ¬ (zEntry g5_21 (zMk mdA n4A (zPl cr0_ inn0_ k10_)) (nI i) a_ >>> (17 &&& 31)).toInt ≤ u7.toInt := fun q => c_57 ((fa_le _ _).mpr q)
              refine lv_iconst (v := 1) hx hb dX11_longest_91 (by decide) ?_
              refine lv_goto (tgt := 96) hx hb dX11_longest_92 (by decide) ?_
              refine lv_istore (lv' := [(11, .int 1), (10, .int (zEntry g5_21 (zMk mdA n4A (zPl cr0_ inn0_ k10_)) (nI i) a_ >>> (17 &&& 31))), (9, .int (nI i)), (8, .int u8), (7, .int u7), (6, .ref wa), (5, .ref l0), (0, .ref xo), (1, .int i1), (2, .int a_), (3, .int w_), (4, .int q_)]) hx hb dX11_longest_96 hl (by decide) (zLvf_h rfl) (fun ls hl => ?_)
              refine lv_iload hx hb dX11_longest_98 (lv_at hl 0 rfl) ?_
              refine lv_if_eq (tgt := 127) hx hb dX11_longest_100 (by decide) (fun q => absurd q (by decide)) (fun _ => ?_)
              refine lv_aload hx hb dX11_longest_103 (lv_at hl 6 rfl) ?_
              refine lv_aload hx hb dX11_longest_105 (lv_at hl 5 rfl) ?_
              refine lv_iload hx hb dX11_longest_107 (lv_at hl 2 rfl) ?_
              refine lv_iload_n hx hb dX11_longest_109 rfl (lv_at hl 9 rfl) ?_
              refine z_Vi (bc := [[zO0 wa m2_15 wy2_16 l0 pc2_17 a1_29 a2_30 a3_31 a4_32 a5_33 a6_34, zAr T 0 a1_29 7 g1_18, zAr T 0 a2_30 7 g2_19, zAr T 0 a3_31 7 f3A, zAr T 0 a4_32 (zMk mdA n4A (zPl cr0_ inn0_ k10_)) g4_20, zAr T 0 a5_33 (zMk mdA n4A (zPl cr0_ inn0_ k10_)) g5_21, zAr T 0 a6_34 (zMk mdA n4A (zPl cr0_ inn0_ k10_)) g6_22]]) (br := [z1_, wwB, wt, [zO10 xo t im mk rd po co tr wa wb_ fi cd], z0_]) (As := [.int (nI i), .int a_]) (rest := [.ref l0]) C G (c_where l T wa l0 m2_15 wy2_16 pc2_17 g1_18 g2_19 f3A g4_20 g5_21 g6_22 (zMk mdA n4A (zPl cr0_ inn0_ k10_)) ([zO0 wa m2_15 wy2_16 l0 pc2_17 a1_29 a2_30 a3_31 a4_32 a5_33 a6_34, zAr T 0 a1_29 7 g1_18, zAr T 0 a2_30 7 g2_19, zAr T 0 a3_31 7 f3A, zAr T 0 a4_32 (zMk mdA n4A (zPl cr0_ inn0_ k10_)) g4_20, zAr T 0 a5_33 (zMk mdA n4A (zPl cr0_ inn0_ k10_)) g5_21, zAr T 0 a6_34 (zMk mdA n4A (zPl cr0_ inn0_ k10_)) g6_22]) (nI i) a_ hw_43 (by first | with_reducible assumption | with_reducible rfl | omega | assumption | rfl)) (kV_RX11_260 C.2.2.2.2 (Nat.le_of_ble_eq_true rfl) (Nat.le_of_ble_eq_true rfl)) [5] [5] rfl rfl (ci := 0) (qc := (RX0, TX0, 10)) rfl rfl (List.mem_flatten.mpr ⟨_, List.mem_of_getElem? (i := 0) rfl, (bWays_mem hw_43).choose_spec⟩) rfl rfl hl.1 dX11_longest_110 (Nat.le_of_ble_eq_true rfl) (by show _ + 0 ≤ 6 * (zNA (i1.toInt = 0 ∧ 0 < (fk 0).toInt ∧ 0 ≤ a_.toInt ∧ a_.toInt < cr0_.toInt ∧ a_.toInt < 7) mdA n4A (zPl cr0_ inn0_ k10_) - n4A) + 6 * (zNA (i1.toInt = 1 ∧ 1 < (fk 0).toInt ∧ 0 ≤ a_.toInt ∧ a_.toInt < cr1_.toInt ∧ a_.toInt < 7) mdB n4B (zPl cr1_ inn1_ k11_) - n4B); omega) (fun r_59 b1 H locs hw G => ?_)
              refine zAn2 hw ?_
              intro hbs9 h_58
              clear hw
              subst hbs9
              have G : zS T A s.heap s [z1_, wwB, wt, [zO10 xo t im mk rd po co tr wa wb_ fi cd], z0_, [zO0 wa m2_15 wy2_16 l0 pc2_17 a1_29 a2_30 a3_31 a4_32 a5_33 a6_34, zAr T 0 a1_29 7 g1_18, zAr T 0 a2_30 7 g2_19, zAr T 0 a3_31 7 f3A, zAr T 0 a4_32 (zMk mdA n4A (zPl cr0_ inn0_ k10_)) g4_20, zAr T 0 a5_33 (zMk mdA n4A (zPl cr0_ inn0_ k10_)) g5_21, zAr T 0 a6_34 (zMk mdA n4A (zPl cr0_ inn0_ k10_)) g6_22]] _ _ := G
              subst h_58
              refine z_Vi (bc := [z0_]) (br := [z1_, wwB, wt, [zO10 xo t im mk rd po co tr wa wb_ fi cd], [zO0 wa m2_15 wy2_16 l0 pc2_17 a1_29 a2_30 a3_31 a4_32 a5_33 a6_34, zAr T 0 a1_29 7 g1_18, zAr T 0 a2_30 7 g2_19, zAr T 0 a3_31 7 f3A, zAr T 0 a4_32 (zMk mdA n4A (zPl cr0_ inn0_ k10_)) g4_20, zAr T 0 a5_33 (zMk mdA n4A (zPl cr0_ inn0_ k10_)) g5_21, zAr T 0 a6_34 (zMk mdA n4A (zPl cr0_ inn0_ k10_)) g6_22]]) (As := [.int (zEntry g5_21 (zMk mdA n4A (zPl cr0_ inn0_ k10_)) (nI i) a_ &&& 7)]) (rest := []) C G (c_isInn l T l0 cr0_ inn0_ k10_ k20_ k30_ k40_ z0_ (zEntry g5_21 (zMk mdA n4A (zPl cr0_ inn0_ k10_)) (nI i) a_ &&& 7) hz0_) (kV_RX11_174 C.2.2.2.2 (Nat.le_of_ble_eq_true rfl) (Nat.le_of_ble_eq_true rfl)) [4] [4] rfl rfl (ci := 4) (qc := (RX4, TX4, 6)) rfl rfl (List.mem_flatten.mpr ⟨_, List.mem_of_getElem? (i := 0) rfl, (bLand_mem hz0_).choose_spec⟩) rfl rfl hl.1 dX11_longest_113 (Nat.le_of_ble_eq_true rfl) (by show _ + 0 ≤ 6 * (zNA (i1.toInt = 0 ∧ 0 < (fk 0).toInt ∧ 0 ≤ a_.toInt ∧ a_.toInt < cr0_.toInt ∧ a_.toInt < 7) mdA n4A (zPl cr0_ inn0_ k10_) - n4A) + 6 * (zNA (i1.toInt = 1 ∧ 1 < (fk 0).toInt ∧ 0 ≤ a_.toInt ∧ a_.toInt < cr1_.toInt ∧ a_.toInt < 7) mdB n4B (zPl cr1_ inn1_ k11_) - n4B); omega) (fun r_61 b1 H locs hw G => ?_)
              refine zAn2 hw ?_
              intro hbs9 hc_60
              clear hw
              subst hbs9
              have G : zS T A s.heap s [z1_, wwB, wt, [zO10 xo t im mk rd po co tr wa wb_ fi cd], [zO0 wa m2_15 wy2_16 l0 pc2_17 a1_29 a2_30 a3_31 a4_32 a5_33 a6_34, zAr T 0 a1_29 7 g1_18, zAr T 0 a2_30 7 g2_19, zAr T 0 a3_31 7 f3A, zAr T 0 a4_32 (zMk mdA n4A (zPl cr0_ inn0_ k10_)) g4_20, zAr T 0 a5_33 (zMk mdA n4A (zPl cr0_ inn0_ k10_)) g5_21, zAr T 0 a6_34 (zMk mdA n4A (zPl cr0_ inn0_ k10_)) g6_22], z0_] _ _ := G
              rcases hc_60 with ⟨rfl, h_62, h_63, h_64, h_65⟩ | ⟨rfl, h_66⟩
              · have h_62 : 0 ≤ (zEntry g5_21 (zMk mdA n4A (zPl cr0_ inn0_ k10_)) (nI i) a_ &&& 7).toInt := h_62
                have h_63 : (zEntry g5_21 (zMk mdA n4A (zPl cr0_ inn0_ k10_)) (nI i) a_ &&& 7).toInt < cr0_.toInt := h_63
                have h_64 : (zEntry g5_21 (zMk mdA n4A (zPl cr0_ inn0_ k10_)) (nI i) a_ &&& 7).toInt < 7 := h_64
                have h_65 : ¬ zBit inn0_ (zEntry g5_21 (zMk mdA n4A (zPl cr0_ inn0_ k10_)) (nI i) a_ &&& 7) = 0 := h_65
                refine lv_if_eq (tgt := 127) hx hb dX11_longest_116 (by decide) (fun q => absurd q (by decide)) (fun _ => ?_)
                refine lv_iload hx hb dX11_longest_119 (lv_at hl 1 rfl) ?_
                refine lv_istore (lv' := [(7, .int (zEntry g5_21 (zMk mdA n4A (zPl cr0_ inn0_ k10_)) (nI i) a_ >>> (17 &&& 31))), (11, .int 1), (10, .int (zEntry g5_21 (zMk mdA n4A (zPl cr0_ inn0_ k10_)) (nI i) a_ >>> (17 &&& 31))), (9, .int (nI i)), (8, .int u8), (6, .ref wa), (5, .ref l0), (0, .ref xo), (1, .int i1), (2, .int a_), (3, .int w_), (4, .int q_)]) hx hb dX11_longest_121 hl (by decide) (zLvf_h rfl) (fun ls hl => ?_)
                refine lv_iload hx hb dX11_longest_123 (lv_at hl 3 rfl) ?_
                refine lv_istore (lv' := [(8, .int (nI i)), (7, .int (zEntry g5_21 (zMk mdA n4A (zPl cr0_ inn0_ k10_)) (nI i) a_ >>> (17 &&& 31))), (11, .int 1), (10, .int (zEntry g5_21 (zMk mdA n4A (zPl cr0_ inn0_ k10_)) (nI i) a_ >>> (17 &&& 31))), (9, .int (nI i)), (6, .ref wa), (5, .ref l0), (0, .ref xo), (1, .int i1), (2, .int a_), (3, .int w_), (4, .int q_)]) hx hb dX11_longest_125 hl (by decide) (zLvf_h rfl) (fun ls hl => ?_)
                refine lv_iinc (v := nI (i + 1)) (lv' := [(9, .int (nI (i + 1))), (8, .int (nI i)), (7, .int (zEntry g5_21 (zMk mdA n4A (zPl cr0_ inn0_ k10_)) (nI i) a_ >>> (17 &&& 31))), (11, .int 1), (10, .int (zEntry g5_21 (zMk mdA n4A (zPl cr0_ inn0_ k10_)) (nI i) a_ >>> (17 &&& 31))), (6, .ref wa), (5, .ref l0), (0, .ref xo), (1, .int i1), (2, .int a_), (3, .int w_), (4, .int q_)]) hx hb dX11_longest_127 hl (k := 4) rfl (z_inc i 1) (by decide) (zLvf_h rfl) (fun ls hl => ?_)
                refine lv_goto (tgt := 44) hx hb dX11_longest_130 (by decide) ?_
                exact ih_44 (i + 1) (zEntry g5_21 (zMk mdA n4A (zPl cr0_ inn0_ k10_)) (nI i) a_ >>> (17 &&& 31)) (nI i) (show (i + 1) ≤ aPr (aW cr0_ inn0_ k10_) 7 from (by omega)) (show aPr (aW cr0_ inn0_ k10_) 7 - (i + 1) < aPr (aW cr0_ inn0_ k10_) 7 - i from by omega) _ _ ls G (lv_sub hl [0, 1, 2, 5, 6, 7, 8, 9, 10, 11] rfl)
              · have h_66 : ((zEntry g5_21 (zMk mdA n4A (zPl cr0_ inn0_ k10_)) (nI i) a_ &&& 7).toInt < 0 ∨ cr0_.toInt ≤ (zEntry g5_21 (zMk mdA n4A (zPl cr0_ inn0_ k10_)) (nI i) a_ &&& 7).toInt ∨ 7 ≤ (zEntry g5_21 (zMk mdA n4A (zPl cr0_ inn0_ k10_)) (nI i) a_ &&& 7).toInt ∨ zBit inn0_ (zEntry g5_21 (zMk mdA n4A (zPl cr0_ inn0_ k10_)) (nI i) a_ &&& 7) = 0) := h_66
                refine lv_if_eq (tgt := 127) hx hb dX11_longest_116 (by decide) (fun _ => ?_) (fun q => absurd (by decide) q)
                refine lv_iinc (v := nI (i + 1)) (lv' := [(9, .int (nI (i + 1))), (11, .int 1), (10, .int (zEntry g5_21 (zMk mdA n4A (zPl cr0_ inn0_ k10_)) (nI i) a_ >>> (17 &&& 31))), (8, .int u8), (7, .int u7), (6, .ref wa), (5, .ref l0), (0, .ref xo), (1, .int i1), (2, .int a_), (3, .int w_), (4, .int q_)]) hx hb dX11_longest_127 hl (k := 2) rfl (z_inc i 1) (by decide) (zLvf_h rfl) (fun ls hl => ?_)
                refine lv_goto (tgt := 44) hx hb dX11_longest_130 (by decide) ?_
                exact ih_44 (i + 1) u7 u8 (show (i + 1) ≤ aPr (aW cr0_ inn0_ k10_) 7 from (by omega)) (show aPr (aW cr0_ inn0_ k10_) 7 - (i + 1) < aPr (aW cr0_ inn0_ k10_) 7 - i from by omega) _ _ ls G (lv_sub hl [0, 3, 4, 5, 6, 7, 8, 9, 10, 11] rfl)
          · have c_56n : ¬ w_.toInt = (0 : Int) := fun q => c_56 ((fa_eq _ _).mpr q)
            refine lv_iload hx hb dX11_longest_74 (lv_at hl 0 rfl) ?_
            refine lv_iload hx hb dX11_longest_76 (lv_at hl 3 rfl) ?_
            refine lv_icmp_ge (tgt := 95) hx hb dX11_longest_78 (by decide) (fun c_67 => ?_) (fun c_67 => ?_)
            · have c_67n : u7.toInt ≤ (zEntry g5_21 (zMk mdA n4A (zPl cr0_ inn0_ k10_)) (nI i) a_ >>> (17 &&& 31)).toInt := (fa_le _ _).mp c_67
              refine lv_iconst (v := 0) hx hb dX11_longest_95 (by decide) ?_
              refine lv_istore (lv' := [(11, .int 0), (10, .int (zEntry g5_21 (zMk mdA n4A (zPl cr0_ inn0_ k10_)) (nI i) a_ >>> (17 &&& 31))), (9, .int (nI i)), (8, .int u8), (7, .int u7), (6, .ref wa), (5, .ref l0), (0, .ref xo), (1, .int i1), (2, .int a_), (3, .int w_), (4, .int q_)]) hx hb dX11_longest_96 hl (by decide) (zLvf_h rfl) (fun ls hl => ?_)
              refine lv_iload hx hb dX11_longest_98 (lv_at hl 0 rfl) ?_
              refine lv_if_eq (tgt := 127) hx hb dX11_longest_100 (by decide) (fun _ => ?_) (fun q => absurd (by decide) q)
              refine lv_iinc (v := nI (i + 1)) (lv' := [(9, .int (nI (i + 1))), (11, .int 0), (10, .int (zEntry g5_21 (zMk mdA n4A (zPl cr0_ inn0_ k10_)) (nI i) a_ >>> (17 &&& 31))), (8, .int u8), (7, .int u7), (6, .ref wa), (5, .ref l0), (0, .ref xo), (1, .int i1), (2, .int a_), (3, .int w_), (4, .int q_)]) hx hb dX11_longest_127 hl (k := 2) rfl (z_inc i 1) (by decide) (zLvf_h rfl) (fun ls hl => ?_)
              refine lv_goto (tgt := 44) hx hb dX11_longest_130 (by decide) ?_
              have G := G.sub (bs' := [z1_, wwB, wt, [zO10 xo t im mk rd po co tr wa wb_ fi cd], [zO0 wa m2_15 wy2_16 l0 pc2_17 a1_29 a2_30 a3_31 a4_32 a5_33 a6_34, zAr T 0 a1_29 7 g1_18, zAr T 0 a2_30 7 g2_19, zAr T 0 a3_31 7 f3A, zAr T 0 a4_32 (zMk mdA n4A (zPl cr0_ inn0_ k10_)) g4_20, zAr T 0 a5_33 (zMk mdA n4A (zPl cr0_ inn0_ k10_)) g5_21, zAr T 0 a6_34 (zMk mdA n4A (zPl cr0_ inn0_ k10_)) g6_22], z0_]) [0, 1, 2, 3, 5, 4] rfl
              exact ih_44 (i + 1) u7 u8 (show (i + 1) ≤ aPr (aW cr0_ inn0_ k10_) 7 from (by omega)) (show aPr (aW cr0_ inn0_ k10_) 7 - (i + 1) < aPr (aW cr0_ inn0_ k10_) 7 - i from by omega) _ _ ls G (lv_sub hl [0, 3, 4, 5, 6, 7, 8, 9, 10, 11] rfl)
            · have c_67n : ¬ u7.toInt ≤ (zEntry g5_21 (zMk mdA n4A (zPl cr0_ inn0_ k10_)) (nI i) a_ >>> (17 &&& 31)).toInt := fun q => c_67 ((fa_le _ _).mpr q)
              refine lv_goto (tgt := 91) hx hb dX11_longest_81 (by decide) ?_
              refine lv_iconst (v := 1) hx hb dX11_longest_91 (by decide) ?_
              refine lv_goto (tgt := 96) hx hb dX11_longest_92 (by decide) ?_
              refine lv_istore (lv' := [(11, .int 1), (10, .int (zEntry g5_21 (zMk mdA n4A (zPl cr0_ inn0_ k10_)) (nI i) a_ >>> (17 &&& 31))), (9, .int (nI i)), (8, .int u8), (7, .int u7), (6, .ref wa), (5, .ref l0), (0, .ref xo), (1, .int i1), (2, .int a_), (3, .int w_), (4, .int q_)]) hx hb dX11_longest_96 hl (by decide) (zLvf_h rfl) (fun ls hl => ?_)
              refine lv_iload hx hb dX11_longest_98 (lv_at hl 0 rfl) ?_
              refine lv_if_eq (tgt := 127) hx hb dX11_longest_100 (by decide) (fun q => absurd q (by decide)) (fun _ => ?_)
              refine lv_aload hx hb dX11_longest_103 (lv_at hl 6 rfl) ?_
              refine lv_aload hx hb dX11_longest_105 (lv_at hl 5 rfl) ?_
              refine lv_iload hx hb dX11_longest_107 (lv_at hl 2 rfl) ?_
              refine lv_iload_n hx hb dX11_longest_109 rfl (lv_at hl 9 rfl) ?_
              refine z_Vi (bc := [[zO0 wa m2_15 wy2_16 l0 pc2_17 a1_29 a2_30 a3_31 a4_32 a5_33 a6_34, zAr T 0 a1_29 7 g1_18, zAr T 0 a2_30 7 g2_19, zAr T 0 a3_31 7 f3A, zAr T 0 a4_32 (zMk mdA n4A (zPl cr0_ inn0_ k10_)) g4_20, zAr T 0 a5_33 (zMk mdA n4A (zPl cr0_ inn0_ k10_)) g5_21, zAr T 0 a6_34 (zMk mdA n4A (zPl cr0_ inn0_ k10_)) g6_22]]) (br := [z1_, wwB, wt, [zO10 xo t im mk rd po co tr wa wb_ fi cd], z0_]) (As := [.int (nI i), .int a_]) (rest := [.ref l0]) C G (c_where l T wa l0 m2_15 wy2_16 pc2_17 g1_18 g2_19 f3A g4_20 g5_21 g6_22 (zMk mdA n4A (zPl cr0_ inn0_ k10_)) ([zO0 wa m2_15 wy2_16 l0 pc2_17 a1_29 a2_30 a3_31 a4_32 a5_33 a6_34, zAr T 0 a1_29 7 g1_18, zAr T 0 a2_30 7 g2_19, zAr T 0 a3_31 7 f3A, zAr T 0 a4_32 (zMk mdA n4A (zPl cr0_ inn0_ k10_)) g4_20, zAr T 0 a5_33 (zMk mdA n4A (zPl cr0_ inn0_ k10_)) g5_21, zAr T 0 a6_34 (zMk mdA n4A (zPl cr0_ inn0_ k10_)) g6_22]) (nI i) a_ hw_43 (by first | with_reducible assumption | with_reducible rfl | omega | assumption | rfl)) (kV_RX11_260 C.2.2.2.2 (Nat.le_of_ble_eq_true rfl) (Nat.le_of_ble_eq_true rfl)) [5] [5] rfl rfl (ci := 0) (qc := (RX0, TX0, 10)) rfl rfl (List.mem_flatten.mpr ⟨_, List.mem_of_getElem? (i := 0) rfl, (bWays_mem hw_43).choose_spec⟩) rfl rfl hl.1 dX11_longest_110 (Nat.le_of_ble_eq_true rfl) (by show _ + 0 ≤ 6 * (zNA (i1.toInt = 0 ∧ 0 < (fk 0).toInt ∧ 0 ≤ a_.toInt ∧ a_.toInt < cr0_.toInt ∧ a_.toInt < 7) mdA n4A (zPl cr0_ inn0_ k10_) - n4A) + 6 * (zNA (i1.toInt = 1 ∧ 1 < (fk 0).toInt ∧ 0 ≤ a_.toInt ∧ a_.toInt < cr1_.toInt ∧ a_.toInt < 7) mdB n4B (zPl cr1_ inn1_ k11_) - n4B); omega) (fun r_69 b1 H locs hw G => ?_)
              refine zAn2 hw ?_
              intro hbs9 h_68
              clear hw
              subst hbs9
              have G : zS T A s.heap s [z1_, wwB, wt, [zO10 xo t im mk rd po co tr wa wb_ fi cd], z0_, [zO0 wa m2_15 wy2_16 l0 pc2_17 a1_29 a2_30 a3_31 a4_32 a5_33 a6_34, zAr T 0 a1_29 7 g1_18, zAr T 0 a2_30 7 g2_19, zAr T 0 a3_31 7 f3A, zAr T 0 a4_32 (zMk mdA n4A (zPl cr0_ inn0_ k10_)) g4_20, zAr T 0 a5_33 (zMk mdA n4A (zPl cr0_ inn0_ k10_)) g5_21, zAr T 0 a6_34 (zMk mdA n4A (zPl cr0_ inn0_ k10_)) g6_22]] _ _ := G
              subst h_68
              refine z_Vi (bc := [z0_]) (br := [z1_, wwB, wt, [zO10 xo t im mk rd po co tr wa wb_ fi cd], [zO0 wa m2_15 wy2_16 l0 pc2_17 a1_29 a2_30 a3_31 a4_32 a5_33 a6_34, zAr T 0 a1_29 7 g1_18, zAr T 0 a2_30 7 g2_19, zAr T 0 a3_31 7 f3A, zAr T 0 a4_32 (zMk mdA n4A (zPl cr0_ inn0_ k10_)) g4_20, zAr T 0 a5_33 (zMk mdA n4A (zPl cr0_ inn0_ k10_)) g5_21, zAr T 0 a6_34 (zMk mdA n4A (zPl cr0_ inn0_ k10_)) g6_22]]) (As := [.int (zEntry g5_21 (zMk mdA n4A (zPl cr0_ inn0_ k10_)) (nI i) a_ &&& 7)]) (rest := []) C G (c_isInn l T l0 cr0_ inn0_ k10_ k20_ k30_ k40_ z0_ (zEntry g5_21 (zMk mdA n4A (zPl cr0_ inn0_ k10_)) (nI i) a_ &&& 7) hz0_) (kV_RX11_174 C.2.2.2.2 (Nat.le_of_ble_eq_true rfl) (Nat.le_of_ble_eq_true rfl)) [4] [4] rfl rfl (ci := 4) (qc := (RX4, TX4, 6)) rfl rfl (List.mem_flatten.mpr ⟨_, List.mem_of_getElem? (i := 0) rfl, (bLand_mem hz0_).choose_spec⟩) rfl rfl hl.1 dX11_longest_113 (Nat.le_of_ble_eq_true rfl) (by show _ + 0 ≤ 6 * (zNA (i1.toInt = 0 ∧ 0 < (fk 0).toInt ∧ 0 ≤ a_.toInt ∧ a_.toInt < cr0_.toInt ∧ a_.toInt < 7) mdA n4A (zPl cr0_ inn0_ k10_) - n4A) + 6 * (zNA (i1.toInt = 1 ∧ 1 < (fk 0).toInt ∧ 0 ≤ a_.toInt ∧ a_.toInt < cr1_.toInt ∧ a_.toInt < 7) mdB n4B (zPl cr1_ inn1_ k11_) - n4B); omega) (fun r_71 b1 H locs hw G => ?_)
              refine zAn2 hw ?_
              intro hbs9 hc_70
              clear hw
              subst hbs9
              have G : zS T A s.heap s [z1_, wwB, wt, [zO10 xo t im mk rd po co tr wa wb_ fi cd], [zO0 wa m2_15 wy2_16 l0 pc2_17 a1_29 a2_30 a3_31 a4_32 a5_33 a6_34, zAr T 0 a1_29 7 g1_18, zAr T 0 a2_30 7 g2_19, zAr T 0 a3_31 7 f3A, zAr T 0 a4_32 (zMk mdA n4A (zPl cr0_ inn0_ k10_)) g4_20, zAr T 0 a5_33 (zMk mdA n4A (zPl cr0_ inn0_ k10_)) g5_21, zAr T 0 a6_34 (zMk mdA n4A (zPl cr0_ inn0_ k10_)) g6_22], z0_] _ _ := G
              rcases hc_70 with ⟨rfl, h_72, h_73, h_74, h_75⟩ | ⟨rfl, h_76⟩
              · have h_72 : 0 ≤ (zEntry g5_21 (zMk mdA n4A (zPl cr0_ inn0_ k10_)) (nI i) a_ &&& 7).toInt := h_72
                have h_73 : (zEntry g5_21 (zMk mdA n4A (zPl cr0_ inn0_ k10_)) (nI i) a_ &&& 7).toInt < cr0_.toInt := h_73
                have h_74 : (zEntry g5_21 (zMk mdA n4A (zPl cr0_ inn0_ k10_)) (nI i) a_ &&& 7).toInt < 7 := h_74
                have h_75 : ¬ zBit inn0_ (zEntry g5_21 (zMk mdA n4A (zPl cr0_ inn0_ k10_)) (nI i) a_ &&& 7) = 0 := h_75
                refine lv_if_eq (tgt := 127) hx hb dX11_longest_116 (by decide) (fun q => absurd q (by decide)) (fun _ => ?_)
                refine lv_iload hx hb dX11_longest_119 (lv_at hl 1 rfl) ?_
                refine lv_istore (lv' := [(7, .int (zEntry g5_21 (zMk mdA n4A (zPl cr0_ inn0_ k10_)) (nI i) a_ >>> (17 &&& 31))), (11, .int 1), (10, .int (zEntry g5_21 (zMk mdA n4A (zPl cr0_ inn0_ k10_)) (nI i) a_ >>> (17 &&& 31))), (9, .int (nI i)), (8, .int u8), (6, .ref wa), (5, .ref l0), (0, .ref xo), (1, .int i1), (2, .int a_), (3, .int w_), (4, .int q_)]) hx hb dX11_longest_121 hl (by decide) (zLvf_h rfl) (fun ls hl => ?_)
                refine lv_iload hx hb dX11_longest_123 (lv_at hl 3 rfl) ?_
                refine lv_istore (lv' := [(8, .int (nI i)), (7, .int (zEntry g5_21 (zMk mdA n4A (zPl cr0_ inn0_ k10_)) (nI i) a_ >>> (17 &&& 31))), (11, .int 1), (10, .int (zEntry g5_21 (zMk mdA n4A (zPl cr0_ inn0_ k10_)) (nI i) a_ >>> (17 &&& 31))), (9, .int (nI i)), (6, .ref wa), (5, .ref l0), (0, .ref xo), (1, .int i1), (2, .int a_), (3, .int w_), (4, .int q_)]) hx hb dX11_longest_125 hl (by decide) (zLvf_h rfl) (fun ls hl => ?_)
                refine lv_iinc (v := nI (i + 1)) (lv' := [(9, .int (nI (i + 1))), (8, .int (nI i)), (7, .int (zEntry g5_21 (zMk mdA n4A (zPl cr0_ inn0_ k10_)) (nI i) a_ >>> (17 &&& 31))), (11, .int 1), (10, .int (zEntry g5_21 (zMk mdA n4A (zPl cr0_ inn0_ k10_)) (nI i) a_ >>> (17 &&& 31))), (6, .ref wa), (5, .ref l0), (0, .ref xo), (1, .int i1), (2, .int a_), (3, .int w_), (4, .int q_)]) hx hb dX11_longest_127 hl (k := 4) rfl (z_inc i 1) (by decide) (zLvf_h rfl) (fun ls hl => ?_)
                refine lv_goto (tgt := 44) hx hb dX11_longest_130 (by decide) ?_
                exact ih_44 (i + 1) (zEntry g5_21 (zMk mdA n4A (zPl cr0_ inn0_ k10_)) (nI i) a_ >>> (17 &&& 31)) (nI i) (show (i + 1) ≤ aPr (aW cr0_ inn0_ k10_) 7 from (by omega)) (show aPr (aW cr0_ inn0_ k10_) 7 - (i + 1) < aPr (aW cr0_ inn0_ k10_) 7 - i from by omega) _ _ ls G (lv_sub hl [0, 1, 2, 5, 6, 7, 8, 9, 10, 11] rfl)
              · have h_76 : ((zEntry g5_21 (zMk mdA n4A (zPl cr0_ inn0_ k10_)) (nI i) a_ &&& 7).toInt < 0 ∨ cr0_.toInt ≤ (zEntry g5_21 (zMk mdA n4A (zPl cr0_ inn0_ k10_)) (nI i) a_ &&& 7).toInt ∨ 7 ≤ (zEntry g5_21 (zMk mdA n4A (zPl cr0_ inn0_ k10_)) (nI i) a_ &&& 7).toInt ∨ zBit inn0_ (zEntry g5_21 (zMk mdA n4A (zPl cr0_ inn0_ k10_)) (nI i) a_ &&& 7) = 0) := h_76
                refine lv_if_eq (tgt := 127) hx hb dX11_longest_116 (by decide) (fun _ => ?_) (fun q => absurd (by decide) q)
                refine lv_iinc (v := nI (i + 1)) (lv' := [(9, .int (nI (i + 1))), (11, .int 1), (10, .int (zEntry g5_21 (zMk mdA n4A (zPl cr0_ inn0_ k10_)) (nI i) a_ >>> (17 &&& 31))), (8, .int u8), (7, .int u7), (6, .ref wa), (5, .ref l0), (0, .ref xo), (1, .int i1), (2, .int a_), (3, .int w_), (4, .int q_)]) hx hb dX11_longest_127 hl (k := 2) rfl (z_inc i 1) (by decide) (zLvf_h rfl) (fun ls hl => ?_)
                refine lv_goto (tgt := 44) hx hb dX11_longest_130 (by decide) ?_
                exact ih_44 (i + 1) u7 u8 (show (i + 1) ≤ aPr (aW cr0_ inn0_ k10_) 7 from (by omega)) (show aPr (aW cr0_ inn0_ k10_) 7 - (i + 1) < aPr (aW cr0_ inn0_ k10_) 7 - i from by omega) _ _ ls G (lv_sub hl [0, 3, 4, 5, 6, 7, 8, 9, 10, 11] rfl)
    · have h_13 : (a_.toInt < 0 ∨ cr0_.toInt ≤ a_.toInt ∨ 7 ≤ a_.toInt) := h_13
      refine lv_if_ne (tgt := 26) hx hb dX11_longest_21 (by decide) (fun q => absurd (by decide) q) (fun _ => ?_)
      refine lv_iconst (v := (-1)) hx hb dX11_longest_24 (by decide) ?_
      have G := G.sub (bs' := [[zO10 xo t im mk rd po co tr wa wb_ fi cd], wt, z0_, z1_, wwA, wwB]) [0, 4, 5, 1, 2, 3] rfl
      exact z_back hQz_ (z_iret C hr hlocks G (Nat.le_of_ble_eq_true rfl) (by omega) dX11_longest_25 ⟨laA, mdA, wyA, pc_A, f1A, f2A, f3A, f4A, f5A, f6A, n4A, wwA, laB, mdB, wyB, pc_B, f1B, f2B, f3B, f4B, f5B, f6B, n4B, wwB, rfl, hwwA, hmdA, hwmA, (by first | exact hNAo.symm | exact (zNA_n (by first | omega | grind)).symm), hpwA, (fun q => q), hTbA, hwwB, hmdB, hwmB, (by first | exact hNAo.symm | exact (zNA_n (by first | omega | grind)).symm), hpwB, (fun q => q), hTbB⟩)
  · have h_6 : i1.toInt = 1 := h_6
    have h_7 : 1 < (fk 0).toInt := h_7
    refine lv_astore (lv' := [(5, .ref l1), (0, .ref xo), (1, .int i1), (2, .int a_), (3, .int w_), (4, .int q_)]) hx hb dX11_longest_8 hl (by decide) (zLvf_h rfl) (fun ls hl => ?_)
    refine lv_aload hx hb dX11_longest_10 (lv_at hl 0 rfl) ?_
    refine lv_ifnull hx hb dX11_longest_12 ?_
    refine lv_aload hx hb dX11_longest_15 (lv_at hl 0 rfl) ?_
    refine lv_iload_n hx hb dX11_longest_17 rfl (lv_at hl 3 rfl) ?_
    refine z_Vi (bc := [z1_]) (br := [[zO10 xo t im mk rd po co tr wa wb_ fi cd], z0_, wwA, wwB, wt]) (As := [.int a_]) (rest := []) C G (c_has l T l1 cr1_ inn1_ k11_ k21_ k31_ k41_ z1_ a_ hz1_) (kV_RX11_160 C.2.2.2.2 (Nat.le_of_ble_eq_true rfl) (Nat.le_of_ble_eq_true rfl)) [2] [2] rfl rfl (ci := 4) (qc := (RX4, TX4, 6)) rfl rfl (List.mem_flatten.mpr ⟨_, List.mem_of_getElem? (i := 0) rfl, (bLand_mem hz1_).choose_spec⟩) rfl rfl hl.1 dX11_longest_18 (Nat.le_of_ble_eq_true rfl) (by show _ + 0 ≤ 6 * (zNA (i1.toInt = 0 ∧ 0 < (fk 0).toInt ∧ 0 ≤ a_.toInt ∧ a_.toInt < cr0_.toInt ∧ a_.toInt < 7) mdA n4A (zPl cr0_ inn0_ k10_) - n4A) + 6 * (zNA (i1.toInt = 1 ∧ 1 < (fk 0).toInt ∧ 0 ≤ a_.toInt ∧ a_.toInt < cr1_.toInt ∧ a_.toInt < 7) mdB n4B (zPl cr1_ inn1_ k11_) - n4B); omega) (fun r_78 b1 H locs hw G => ?_)
    refine zAn2 hw ?_
    intro hbs9 hc_77
    clear hw
    subst hbs9
    have G : zS T A s.heap s [[zO10 xo t im mk rd po co tr wa wb_ fi cd], z0_, wwA, wwB, wt, z1_] _ _ := G
    rcases hc_77 with ⟨rfl, h_79, h_80, h_81⟩ | ⟨rfl, h_82⟩
    · have h_79 : 0 ≤ a_.toInt := h_79
      have h_80 : a_.toInt < cr1_.toInt := h_80
      have h_81 : a_.toInt < 7 := h_81
      refine lv_if_ne (tgt := 26) hx hb dX11_longest_21 (by decide) (fun _ => ?_) (fun q => absurd q (by decide))
      refine lv_aload_n hx hb dX11_longest_26 rfl (lv_at hl 1 rfl) ?_
      refine lv_iload_n hx hb dX11_longest_27 rfl (lv_at hl 2 rfl) ?_
      refine lv_aload hx hb dX11_longest_28 (lv_at hl 0 rfl) ?_
      have hNAm : zNA (i1.toInt = 1 ∧ 1 < (fk 0).toInt ∧ 0 ≤ a_.toInt ∧ a_.toInt < cr1_.toInt ∧ a_.toInt < 7) mdB n4B (zPl cr1_ inn1_ k11_) = zMk mdB n4B (zPl cr1_ inn1_ k11_) := zNA_y (by first | omega | (repeat' (first | omega | assumption | constructor)))
      have hNAo : zNA (i1.toInt = 0 ∧ 0 < (fk 0).toInt ∧ 0 ≤ a_.toInt ∧ a_.toInt < cr0_.toInt ∧ a_.toInt < 7) mdA n4A (zPl cr0_ inn0_ k10_) = n4A := zNA_n (by omega)
      have hn9 : zMk mdB n4B (zPl cr1_ inn1_ k11_) ≤ 131072 := zPw_le (zMk_pw hpwB)
      refine z_Vq (bc := [[zO10 xo t im mk rd po co tr wa wb_ fi cd], wwB, z1_]) (br := [z0_, wwA, wt]) (As := [.int i1, .ref l1]) (rest := []) C G (c_f_waysInB l T xo t im mk rd po co tr wa wb_ fi cd i1 laB mdB wyB pc_B f1B f2B f3B f4B f5B f6B n4B wwB l1 cr1_ inn1_ k11_ k21_ k31_ k41_ z1_ hwwB hz1_ hI1_ hpwB hmdB (kaOk hI1_ hLq1).1 hTbB (by omega)) (kV_RX11_235 C.2.2.2.2 (Nat.le_of_ble_eq_true rfl) (Nat.le_of_ble_eq_true rfl)) [0, 3, 5] [0, 2, 1] rfl rfl (ci := 10) (qc := (RX11, TX11, 11)) rfl rfl (List.mem_flatten.mpr ⟨_, List.mem_of_getElem? (i := 0) rfl, List.mem_cons_self⟩) rfl rfl hl.1 dX11_longest_30 (Nat.le_of_ble_eq_true rfl) (by show _ + (6 * (zMk mdB n4B (zPl cr1_ inn1_ k11_) - n4B)) ≤ 6 * (zNA (i1.toInt = 0 ∧ 0 < (fk 0).toInt ∧ 0 ≤ a_.toInt ∧ a_.toInt < cr0_.toInt ∧ a_.toInt < 7) mdA n4A (zPl cr0_ inn0_ k10_) - n4A) + 6 * (zNA (i1.toInt = 1 ∧ 1 < (fk 0).toInt ∧ 0 ≤ a_.toInt ∧ a_.toInt < cr1_.toInt ∧ a_.toInt < 7) mdB n4B (zPl cr1_ inn1_ k11_) - n4B); omega) (fun r_97 b1 H locs hw G => ?_)
      refine zEx9 hw ?_
      intro w2_83 m2_84 wy2_85 pc2_86 g1_87 g2_88 g4_89 g5_90 g6_91
      refine zCu6 ?_
      intro hbs9 h_92 h_93 h_94 h_95 h_96
      clear hw
      subst hbs9
      have G : zS T A s.heap s [z0_, wwA, wt, [zO10 xo t im mk rd po co tr wa wb_ fi cd], w2_83, z1_] _ _ := G
      subst h_92
      have hwy9 : 0 ≤ wy2_85.toInt ∧ wy2_85.toInt ≤ 16384 := by have q9 := zWy_in (inn := inn1_) hI1_; rw [h_94]; exact ⟨by omega, q9.2⟩
      have hp79 : aPr (aW cr1_ inn1_ k11_) 7 ≤ 16384 := aPr_7 hI1_
      have hwN9 : wy2_85 = nI (aPr (aW cr1_ inn1_ k11_) 7) := h_94.trans (zWy_z hI1_)
      have hwT9 : wy2_85.toInt = ((aPr (aW cr1_ inn1_ k11_) 7 : Nat) : Int) := by rw [hwN9, nI_toInt (by omega)]
      have hOk9 := (kaOk (inn := inn1_) hI1_ hLq1).1
      have hc79 := hI1_.1
      refine lv_astore (lv' := [(6, .ref wb_), (5, .ref l1), (0, .ref xo), (1, .int i1), (2, .int a_), (3, .int w_), (4, .int q_)]) hx hb dX11_longest_33 hl (by decide) (zLvf_h rfl) (fun ls hl => ?_)
      refine lv_iconst (v := (-1)) hx hb dX11_longest_35 (by decide) ?_
      refine lv_istore (lv' := [(7, .int (-1)), (6, .ref wb_), (5, .ref l1), (0, .ref xo), (1, .int i1), (2, .int a_), (3, .int w_), (4, .int q_)]) hx hb dX11_longest_36 hl (by decide) (zLvf_h rfl) (fun ls hl => ?_)
      refine lv_iconst (v := (-1)) hx hb dX11_longest_38 (by decide) ?_
      refine lv_istore (lv' := [(8, .int (-1)), (7, .int (-1)), (6, .ref wb_), (5, .ref l1), (0, .ref xo), (1, .int i1), (2, .int a_), (3, .int w_), (4, .int q_)]) hx hb dX11_longest_39 hl (by decide) (zLvf_h rfl) (fun ls hl => ?_)
      refine lv_iconst (v := 0) hx hb dX11_longest_41 (by decide) ?_
      refine lv_istore (lv' := [(9, .int 0), (8, .int (-1)), (7, .int (-1)), (6, .ref wb_), (5, .ref l1), (0, .ref xo), (1, .int i1), (2, .int a_), (3, .int w_), (4, .int q_)]) hx hb dX11_longest_42 hl (by decide) (zLvf_h rfl) (fun ls hl => ?_)
      refine zEx6 h_93 ?_
      intro a1_98 a2_99 a3_100 a4_101 a5_102 a6_103 hbs9
      clear h_93
      subst hbs9
      have G : zS T A s.heap s [z0_, wwA, wt, [zO10 xo t im mk rd po co tr wa wb_ fi cd], [zO0 wb_ m2_84 wy2_85 l1 pc2_86 a1_98 a2_99 a3_100 a4_101 a5_102 a6_103], [zAr T 0 a1_98 7 g1_87], [zAr T 0 a2_99 7 g2_88], [zAr T 0 a3_100 7 f3B], [zAr T 0 a4_101 (zMk mdB n4B (zPl cr1_ inn1_ k11_)) g4_89], [zAr T 0 a5_102 (zMk mdB n4B (zPl cr1_ inn1_ k11_)) g5_90], [zAr T 0 a6_103 (zMk mdB n4B (zPl cr1_ inn1_ k11_)) g6_91], z1_] _ _ := G.re rfl
      have hw_104 : bWays T wb_ l1 m2_84 wy2_85 pc2_86 g1_87 g2_88 f3B g4_89 g5_90 g6_91 (zMk mdB n4B (zPl cr1_ inn1_ k11_)) [zO0 wb_ m2_84 wy2_85 l1 pc2_86 a1_98 a2_99 a3_100 a4_101 a5_102 a6_103, zAr T 0 a1_98 7 g1_87, zAr T 0 a2_99 7 g2_88, zAr T 0 a3_100 7 f3B, zAr T 0 a4_101 (zMk mdB n4B (zPl cr1_ inn1_ k11_)) g4_89, zAr T 0 a5_102 (zMk mdB n4B (zPl cr1_ inn1_ k11_)) g5_90, zAr T 0 a6_103 (zMk mdB n4B (zPl cr1_ inn1_ k11_)) g6_91] := ⟨a1_98, a2_99, a3_100, a4_101, a5_102, a6_103, rfl⟩
      have G : zS T A s.heap s [z0_, wwA, wt, [zO10 xo t im mk rd po co tr wa wb_ fi cd], [zO0 wb_ m2_84 wy2_85 l1 pc2_86 a1_98 a2_99 a3_100 a4_101 a5_102 a6_103, zAr T 0 a1_98 7 g1_87, zAr T 0 a2_99 7 g2_88, zAr T 0 a3_100 7 f3B, zAr T 0 a4_101 (zMk mdB n4B (zPl cr1_ inn1_ k11_)) g4_89, zAr T 0 a5_102 (zMk mdB n4B (zPl cr1_ inn1_ k11_)) g5_90, zAr T 0 a6_103 (zMk mdB n4B (zPl cr1_ inn1_ k11_)) g6_91], z1_] _ _ := G.re rfl
      refine z_lp3 (T := T) 44 (fun (i : Nat) (u7 : Int32) (u8 : Int32) => [z0_, wwA, wt, [zO10 xo t im mk rd po co tr wa wb_ fi cd], [zO0 wb_ m2_84 wy2_85 l1 pc2_86 a1_98 a2_99 a3_100 a4_101 a5_102 a6_103, zAr T 0 a1_98 7 g1_87, zAr T 0 a2_99 7 g2_88, zAr T 0 a3_100 7 f3B, zAr T 0 a4_101 (zMk mdB n4B (zPl cr1_ inn1_ k11_)) g4_89, zAr T 0 a5_102 (zMk mdB n4B (zPl cr1_ inn1_ k11_)) g5_90, zAr T 0 a6_103 (zMk mdB n4B (zPl cr1_ inn1_ k11_)) g6_91], z1_]) (fun (i : Nat) (u7 : Int32) (u8 : Int32) => [(9, .int (nI i)), (8, .int u8), (7, .int u7), (6, .ref wb_), (5, .ref l1), (0, .ref xo), (1, .int i1), (2, .int a_), (3, .int w_), (4, .int q_)]) (fun (i : Nat) (u7 : Int32) (u8 : Int32) => i ≤ aPr (aW cr1_ inn1_ k11_) 7) (fun (i : Nat) (u7 : Int32) (u8 : Int32) => aPr (aW cr1_ inn1_ k11_) 7 - i) ?_ 0 (-1) (-1) (show 0 ≤ aPr (aW cr1_ inn1_ k11_) 7 from (Nat.zero_le _)) G (lv_sub hl [0, 1, 2, 3, 4, 5, 6, 7, 8, 9] rfl)
      intro i u7 u8 hi ih_44 H locs ls G hl
      replace hi : i ≤ aPr (aW cr1_ inn1_ k11_) 7 := hi
      replace G : zS T A s.heap s [z0_, wwA, wt, [zO10 xo t im mk rd po co tr wa wb_ fi cd], [zO0 wb_ m2_84 wy2_85 l1 pc2_86 a1_98 a2_99 a3_100 a4_101 a5_102 a6_103, zAr T 0 a1_98 7 g1_87, zAr T 0 a2_99 7 g2_88, zAr T 0 a3_100 7 f3B, zAr T 0 a4_101 (zMk mdB n4B (zPl cr1_ inn1_ k11_)) g4_89, zAr T 0 a5_102 (zMk mdB n4B (zPl cr1_ inn1_ k11_)) g5_90, zAr T 0 a6_103 (zMk mdB n4B (zPl cr1_ inn1_ k11_)) g6_91], z1_] _ _ := G
      replace hl : lv_has ls 12 [(9, .int (nI i)), (8, .int u8), (7, .int u7), (6, .ref wb_), (5, .ref l1), (0, .ref xo), (1, .int i1), (2, .int a_), (3, .int w_), (4, .int q_)] := hl
      refine lv_iload hx hb dX11_longest_44 (lv_at hl 0 rfl) ?_
      refine lv_aload hx hb dX11_longest_46 (lv_at hl 3 rfl) ?_
      have G : zS T A s.heap s [z0_, wwA, wt, [zO10 xo t im mk rd po co tr wa wb_ fi cd], [zO0 wb_ m2_84 wy2_85 l1 pc2_86 a1_98 a2_99 a3_100 a4_101 a5_102 a6_103], [zAr T 0 a1_98 7 g1_87], [zAr T 0 a2_99 7 g2_88], [zAr T 0 a3_100 7 f3B], [zAr T 0 a4_101 (zMk mdB n4B (zPl cr1_ inn1_ k11_)) g4_89], [zAr T 0 a5_102 (zMk mdB n4B (zPl cr1_ inn1_ k11_)) g5_90], [zAr T 0 a6_103 (zMk mdB n4B (zPl cr1_ inn1_ k11_)) g6_91], z1_] _ _ := G.re rfl
      refine z_get C G clX0 4 rfl 1 (by decide) m_fl_RX11_257 rfl dX11_longest_48 ?_
      refine lv_icmp_ge (tgt := 133) hx hb dX11_longest_51 (by decide) (fun c_105 => ?_) (fun c_105 => ?_)
      · have c_105n : wy2_85.toInt ≤ (i : Int) := by have q := (fa_le _ _).mp c_105; rw [nI_toInt (n := i) (by omega)] at q; exact q
        refine lv_iload hx hb dX11_longest_133 (lv_at hl 9 rfl) ?_
        refine lv_if_eq (tgt := 154) hx hb dX11_longest_135 (by decide) (fun c_106 => ?_) (fun c_106 => ?_)
        · have c_106n : q_.toInt = (0 : Int) := (fa_eq _ _).mp c_106
          refine lv_iload hx hb dX11_longest_154 (lv_at hl 2 rfl) ?_
          have hw_107 : bWays T wb_ l1 m2_84 wy2_85 pc2_86 g1_87 g2_88 f3B g4_89 g5_90 g6_91 (zMk mdB n4B (zPl cr1_ inn1_ k11_)) [zO0 wb_ m2_84 wy2_85 l1 pc2_86 a1_98 a2_99 a3_100 a4_101 a5_102 a6_103, zAr T 0 a1_98 7 g1_87, zAr T 0 a2_99 7 g2_88, zAr T 0 a3_100 7 f3B, zAr T 0 a4_101 (zMk mdB n4B (zPl cr1_ inn1_ k11_)) g4_89, zAr T 0 a5_102 (zMk mdB n4B (zPl cr1_ inn1_ k11_)) g5_90, zAr T 0 a6_103 (zMk mdB n4B (zPl cr1_ inn1_ k11_)) g6_91] := ⟨a1_98, a2_99, a3_100, a4_101, a5_102, a6_103, rfl⟩
          have G : zS T A s.heap s [z0_, wwA, wt, [zO10 xo t im mk rd po co tr wa wb_ fi cd], [zO0 wb_ m2_84 wy2_85 l1 pc2_86 a1_98 a2_99 a3_100 a4_101 a5_102 a6_103, zAr T 0 a1_98 7 g1_87, zAr T 0 a2_99 7 g2_88, zAr T 0 a3_100 7 f3B, zAr T 0 a4_101 (zMk mdB n4B (zPl cr1_ inn1_ k11_)) g4_89, zAr T 0 a5_102 (zMk mdB n4B (zPl cr1_ inn1_ k11_)) g5_90, zAr T 0 a6_103 (zMk mdB n4B (zPl cr1_ inn1_ k11_)) g6_91], z1_] _ _ := G.re rfl
          have G := G.sub (bs' := [[zO10 xo t im mk rd po co tr wa wb_ fi cd], wt, z0_, z1_, wwA, [zO0 wb_ m2_84 wy2_85 l1 pc2_86 a1_98 a2_99 a3_100 a4_101 a5_102 a6_103, zAr T 0 a1_98 7 g1_87, zAr T 0 a2_99 7 g2_88, zAr T 0 a3_100 7 f3B, zAr T 0 a4_101 (zMk mdB n4B (zPl cr1_ inn1_ k11_)) g4_89, zAr T 0 a5_102 (zMk mdB n4B (zPl cr1_ inn1_ k11_)) g5_90, zAr T 0 a6_103 (zMk mdB n4B (zPl cr1_ inn1_ k11_)) g6_91]]) [3, 2, 0, 5, 1, 4] rfl
          exact z_back hQz_ (z_iret C hr hlocks G (Nat.le_of_ble_eq_true rfl) (by omega) dX11_longest_156 ⟨laA, mdA, wyA, pc_A, f1A, f2A, f3A, f4A, f5A, f6A, n4A, wwA, l1, m2_84, wy2_85, pc2_86, g1_87, g2_88, f3B, g4_89, g5_90, g6_91, (zMk mdB n4B (zPl cr1_ inn1_ k11_)), ([zO0 wb_ m2_84 wy2_85 l1 pc2_86 a1_98 a2_99 a3_100 a4_101 a5_102 a6_103, zAr T 0 a1_98 7 g1_87, zAr T 0 a2_99 7 g2_88, zAr T 0 a3_100 7 f3B, zAr T 0 a4_101 (zMk mdB n4B (zPl cr1_ inn1_ k11_)) g4_89, zAr T 0 a5_102 (zMk mdB n4B (zPl cr1_ inn1_ k11_)) g5_90, zAr T 0 a6_103 (zMk mdB n4B (zPl cr1_ inn1_ k11_)) g6_91]), rfl, hwwA, hmdA, hwmA, (by first | exact hNAo.symm | exact (zNA_n (by first | omega | grind)).symm), hpwA, (fun q => q), hTbA, hw_107, (Or.inr rfl), hwy9, hNAm.symm, (zMk_pw hpwB), (fun _ => h_95), (Or.inr h_96)⟩)
        · have c_106n : ¬ q_.toInt = (0 : Int) := fun q => c_106 ((fa_eq _ _).mpr q)
          refine lv_iload hx hb dX11_longest_138 (lv_at hl 1 rfl) ?_
          refine lv_iconst (v := (-1)) hx hb dX11_longest_140 (by decide) ?_
          refine lv_icmp_eq (tgt := 154) hx hb dX11_longest_141 (by decide) (fun c_108 => ?_) (fun c_108 => ?_)
          · have c_108n : u8.toInt = (-1 : Int) := (fa_eq _ _).mp c_108
            refine lv_iload hx hb dX11_longest_154 (lv_at hl 2 rfl) ?_
            have hw_109 : bWays T wb_ l1 m2_84 wy2_85 pc2_86 g1_87 g2_88 f3B g4_89 g5_90 g6_91 (zMk mdB n4B (zPl cr1_ inn1_ k11_)) [zO0 wb_ m2_84 wy2_85 l1 pc2_86 a1_98 a2_99 a3_100 a4_101 a5_102 a6_103, zAr T 0 a1_98 7 g1_87, zAr T 0 a2_99 7 g2_88, zAr T 0 a3_100 7 f3B, zAr T 0 a4_101 (zMk mdB n4B (zPl cr1_ inn1_ k11_)) g4_89, zAr T 0 a5_102 (zMk mdB n4B (zPl cr1_ inn1_ k11_)) g5_90, zAr T 0 a6_103 (zMk mdB n4B (zPl cr1_ inn1_ k11_)) g6_91] := ⟨a1_98, a2_99, a3_100, a4_101, a5_102, a6_103, rfl⟩
            have G : zS T A s.heap s [z0_, wwA, wt, [zO10 xo t im mk rd po co tr wa wb_ fi cd], [zO0 wb_ m2_84 wy2_85 l1 pc2_86 a1_98 a2_99 a3_100 a4_101 a5_102 a6_103, zAr T 0 a1_98 7 g1_87, zAr T 0 a2_99 7 g2_88, zAr T 0 a3_100 7 f3B, zAr T 0 a4_101 (zMk mdB n4B (zPl cr1_ inn1_ k11_)) g4_89, zAr T 0 a5_102 (zMk mdB n4B (zPl cr1_ inn1_ k11_)) g5_90, zAr T 0 a6_103 (zMk mdB n4B (zPl cr1_ inn1_ k11_)) g6_91], z1_] _ _ := G.re rfl
            have G := G.sub (bs' := [[zO10 xo t im mk rd po co tr wa wb_ fi cd], wt, z0_, z1_, wwA, [zO0 wb_ m2_84 wy2_85 l1 pc2_86 a1_98 a2_99 a3_100 a4_101 a5_102 a6_103, zAr T 0 a1_98 7 g1_87, zAr T 0 a2_99 7 g2_88, zAr T 0 a3_100 7 f3B, zAr T 0 a4_101 (zMk mdB n4B (zPl cr1_ inn1_ k11_)) g4_89, zAr T 0 a5_102 (zMk mdB n4B (zPl cr1_ inn1_ k11_)) g5_90, zAr T 0 a6_103 (zMk mdB n4B (zPl cr1_ inn1_ k11_)) g6_91]]) [3, 2, 0, 5, 1, 4] rfl
            exact z_back hQz_ (z_iret C hr hlocks G (Nat.le_of_ble_eq_true rfl) (by omega) dX11_longest_156 ⟨laA, mdA, wyA, pc_A, f1A, f2A, f3A, f4A, f5A, f6A, n4A, wwA, l1, m2_84, wy2_85, pc2_86, g1_87, g2_88, f3B, g4_89, g5_90, g6_91, (zMk mdB n4B (zPl cr1_ inn1_ k11_)), ([zO0 wb_ m2_84 wy2_85 l1 pc2_86 a1_98 a2_99 a3_100 a4_101 a5_102 a6_103, zAr T 0 a1_98 7 g1_87, zAr T 0 a2_99 7 g2_88, zAr T 0 a3_100 7 f3B, zAr T 0 a4_101 (zMk mdB n4B (zPl cr1_ inn1_ k11_)) g4_89, zAr T 0 a5_102 (zMk mdB n4B (zPl cr1_ inn1_ k11_)) g5_90, zAr T 0 a6_103 (zMk mdB n4B (zPl cr1_ inn1_ k11_)) g6_91]), rfl, hwwA, hmdA, hwmA, (by first | exact hNAo.symm | exact (zNA_n (by first | omega | grind)).symm), hpwA, (fun q => q), hTbA, hw_109, (Or.inr rfl), hwy9, hNAm.symm, (zMk_pw hpwB), (fun _ => h_95), (Or.inr h_96)⟩)
          · have c_108n : ¬ u8.toInt = (-1 : Int) := fun q => c_108 ((fa_eq _ _).mpr q)
            refine lv_aload hx hb dX11_longest_144 (lv_at hl 3 rfl) ?_
            refine lv_iload hx hb dX11_longest_146 (lv_at hl 1 rfl) ?_
            have hw_110 : bWays T wb_ l1 m2_84 wy2_85 pc2_86 g1_87 g2_88 f3B g4_89 g5_90 g6_91 (zMk mdB n4B (zPl cr1_ inn1_ k11_)) [zO0 wb_ m2_84 wy2_85 l1 pc2_86 a1_98 a2_99 a3_100 a4_101 a5_102 a6_103, zAr T 0 a1_98 7 g1_87, zAr T 0 a2_99 7 g2_88, zAr T 0 a3_100 7 f3B, zAr T 0 a4_101 (zMk mdB n4B (zPl cr1_ inn1_ k11_)) g4_89, zAr T 0 a5_102 (zMk mdB n4B (zPl cr1_ inn1_ k11_)) g5_90, zAr T 0 a6_103 (zMk mdB n4B (zPl cr1_ inn1_ k11_)) g6_91] := ⟨a1_98, a2_99, a3_100, a4_101, a5_102, a6_103, rfl⟩
            have G : zS T A s.heap s [z0_, wwA, wt, [zO10 xo t im mk rd po co tr wa wb_ fi cd], [zO0 wb_ m2_84 wy2_85 l1 pc2_86 a1_98 a2_99 a3_100 a4_101 a5_102 a6_103, zAr T 0 a1_98 7 g1_87, zAr T 0 a2_99 7 g2_88, zAr T 0 a3_100 7 f3B, zAr T 0 a4_101 (zMk mdB n4B (zPl cr1_ inn1_ k11_)) g4_89, zAr T 0 a5_102 (zMk mdB n4B (zPl cr1_ inn1_ k11_)) g5_90, zAr T 0 a6_103 (zMk mdB n4B (zPl cr1_ inn1_ k11_)) g6_91], z1_] _ _ := G.re rfl
            refine z_Vi (bc := [[zO0 wb_ m2_84 wy2_85 l1 pc2_86 a1_98 a2_99 a3_100 a4_101 a5_102 a6_103, zAr T 0 a1_98 7 g1_87, zAr T 0 a2_99 7 g2_88, zAr T 0 a3_100 7 f3B, zAr T 0 a4_101 (zMk mdB n4B (zPl cr1_ inn1_ k11_)) g4_89, zAr T 0 a5_102 (zMk mdB n4B (zPl cr1_ inn1_ k11_)) g5_90, zAr T 0 a6_103 (zMk mdB n4B (zPl cr1_ inn1_ k11_)) g6_91], z1_]) (br := [z0_, wwA, wt, [zO10 xo t im mk rd po co tr wa wb_ fi cd]]) (As := [.int u8]) (rest := []) C G (c_number l T wb_ l1 m2_84 wy2_85 pc2_86 g1_87 g2_88 f3B g4_89 g5_90 g6_91 (zMk mdB n4B (zPl cr1_ inn1_ k11_)) ([zO0 wb_ m2_84 wy2_85 l1 pc2_86 a1_98 a2_99 a3_100 a4_101 a5_102 a6_103, zAr T 0 a1_98 7 g1_87, zAr T 0 a2_99 7 g2_88, zAr T 0 a3_100 7 f3B, zAr T 0 a4_101 (zMk mdB n4B (zPl cr1_ inn1_ k11_)) g4_89, zAr T 0 a5_102 (zMk mdB n4B (zPl cr1_ inn1_ k11_)) g5_90, zAr T 0 a6_103 (zMk mdB n4B (zPl cr1_ inn1_ k11_)) g6_91]) cr1_ inn1_ k11_ k21_ k31_ k41_ z1_ u8 hw_110 hz1_ (by first | with_reducible assumption | with_reducible rfl | omega | assumption | rfl)) (kV_RX11_272 C.2.2.2.2 (Nat.le_of_ble_eq_true rfl) (Nat.le_of_ble_eq_true rfl)) [4, 5] [4, 0] rfl rfl (ci := 0) (qc := (RX0, TX0, 10)) rfl rfl (List.mem_flatten.mpr ⟨_, List.mem_of_getElem? (i := 0) rfl, (bWays_mem hw_110).choose_spec⟩) rfl rfl hl.1 dX11_longest_148 (Nat.le_of_ble_eq_true rfl) (by show _ + 0 ≤ 6 * (zNA (i1.toInt = 0 ∧ 0 < (fk 0).toInt ∧ 0 ≤ a_.toInt ∧ a_.toInt < cr0_.toInt ∧ a_.toInt < 7) mdA n4A (zPl cr0_ inn0_ k10_) - n4A) + 6 * (zNA (i1.toInt = 1 ∧ 1 < (fk 0).toInt ∧ 0 ≤ a_.toInt ∧ a_.toInt < cr1_.toInt ∧ a_.toInt < 7) mdB n4B (zPl cr1_ inn1_ k11_) - n4B); omega) (fun r_111 b1 H locs hw G => ?_)
            obtain rfl := hw
            have G : zS T A s.heap s [z0_, wwA, wt, [zO10 xo t im mk rd po co tr wa wb_ fi cd], [zO0 wb_ m2_84 wy2_85 l1 pc2_86 a1_98 a2_99 a3_100 a4_101 a5_102 a6_103, zAr T 0 a1_98 7 g1_87, zAr T 0 a2_99 7 g2_88, zAr T 0 a3_100 7 f3B, zAr T 0 a4_101 (zMk mdB n4B (zPl cr1_ inn1_ k11_)) g4_89, zAr T 0 a5_102 (zMk mdB n4B (zPl cr1_ inn1_ k11_)) g5_90, zAr T 0 a6_103 (zMk mdB n4B (zPl cr1_ inn1_ k11_)) g6_91], z1_] _ _ := G
            refine lv_goto (tgt := 156) hx hb dX11_longest_151 (by decide) ?_
            have G := G.sub (bs' := [[zO10 xo t im mk rd po co tr wa wb_ fi cd], wt, z0_, z1_, wwA, [zO0 wb_ m2_84 wy2_85 l1 pc2_86 a1_98 a2_99 a3_100 a4_101 a5_102 a6_103, zAr T 0 a1_98 7 g1_87, zAr T 0 a2_99 7 g2_88, zAr T 0 a3_100 7 f3B, zAr T 0 a4_101 (zMk mdB n4B (zPl cr1_ inn1_ k11_)) g4_89, zAr T 0 a5_102 (zMk mdB n4B (zPl cr1_ inn1_ k11_)) g5_90, zAr T 0 a6_103 (zMk mdB n4B (zPl cr1_ inn1_ k11_)) g6_91]]) [3, 2, 0, 5, 1, 4] rfl
            exact z_back hQz_ (z_iret C hr hlocks G (Nat.le_of_ble_eq_true rfl) (by omega) dX11_longest_156 ⟨laA, mdA, wyA, pc_A, f1A, f2A, f3A, f4A, f5A, f6A, n4A, wwA, l1, m2_84, wy2_85, pc2_86, g1_87, g2_88, f3B, g4_89, g5_90, g6_91, (zMk mdB n4B (zPl cr1_ inn1_ k11_)), ([zO0 wb_ m2_84 wy2_85 l1 pc2_86 a1_98 a2_99 a3_100 a4_101 a5_102 a6_103, zAr T 0 a1_98 7 g1_87, zAr T 0 a2_99 7 g2_88, zAr T 0 a3_100 7 f3B, zAr T 0 a4_101 (zMk mdB n4B (zPl cr1_ inn1_ k11_)) g4_89, zAr T 0 a5_102 (zMk mdB n4B (zPl cr1_ inn1_ k11_)) g5_90, zAr T 0 a6_103 (zMk mdB n4B (zPl cr1_ inn1_ k11_)) g6_91]), rfl, hwwA, hmdA, hwmA, (by first | exact hNAo.symm | exact (zNA_n (by first | omega | grind)).symm), hpwA, (fun q => q), hTbA, hw_110, (Or.inr rfl), hwy9, hNAm.symm, (zMk_pw hpwB), (fun _ => h_95), (Or.inr h_96)⟩)
      · have c_105n : ¬ wy2_85.toInt ≤ (i : Int) := fun q => c_105 ((fa_le _ _).mpr (by rw [nI_toInt (n := i) (by omega)]; exact q))
        refine lv_aload hx hb dX11_longest_54 (lv_at hl 3 rfl) ?_
        refine lv_iload hx hb dX11_longest_56 (lv_at hl 0 rfl) ?_
        refine lv_iload_n hx hb dX11_longest_58 rfl (lv_at hl 7 rfl) ?_
        have hw_112 : bWays T wb_ l1 m2_84 wy2_85 pc2_86 g1_87 g2_88 f3B g4_89 g5_90 g6_91 (zMk mdB n4B (zPl cr1_ inn1_ k11_)) [zO0 wb_ m2_84 wy2_85 l1 pc2_86 a1_98 a2_99 a3_100 a4_101 a5_102 a6_103, zAr T 0 a1_98 7 g1_87, zAr T 0 a2_99 7 g2_88, zAr T 0 a3_100 7 f3B, zAr T 0 a4_101 (zMk mdB n4B (zPl cr1_ inn1_ k11_)) g4_89, zAr T 0 a5_102 (zMk mdB n4B (zPl cr1_ inn1_ k11_)) g5_90, zAr T 0 a6_103 (zMk mdB n4B (zPl cr1_ inn1_ k11_)) g6_91] := ⟨a1_98, a2_99, a3_100, a4_101, a5_102, a6_103, rfl⟩
        have G : zS T A s.heap s [z0_, wwA, wt, [zO10 xo t im mk rd po co tr wa wb_ fi cd], [zO0 wb_ m2_84 wy2_85 l1 pc2_86 a1_98 a2_99 a3_100 a4_101 a5_102 a6_103, zAr T 0 a1_98 7 g1_87, zAr T 0 a2_99 7 g2_88, zAr T 0 a3_100 7 f3B, zAr T 0 a4_101 (zMk mdB n4B (zPl cr1_ inn1_ k11_)) g4_89, zAr T 0 a5_102 (zMk mdB n4B (zPl cr1_ inn1_ k11_)) g5_90, zAr T 0 a6_103 (zMk mdB n4B (zPl cr1_ inn1_ k11_)) g6_91], z1_] _ _ := G.re rfl
        refine z_Vi (bc := [[zO0 wb_ m2_84 wy2_85 l1 pc2_86 a1_98 a2_99 a3_100 a4_101 a5_102 a6_103, zAr T 0 a1_98 7 g1_87, zAr T 0 a2_99 7 g2_88, zAr T 0 a3_100 7 f3B, zAr T 0 a4_101 (zMk mdB n4B (zPl cr1_ inn1_ k11_)) g4_89, zAr T 0 a5_102 (zMk mdB n4B (zPl cr1_ inn1_ k11_)) g5_90, zAr T 0 a6_103 (zMk mdB n4B (zPl cr1_ inn1_ k11_)) g6_91]]) (br := [z0_, wwA, wt, [zO10 xo t im mk rd po co tr wa wb_ fi cd], z1_]) (As := [.int (nI i), .int a_]) (rest := []) C G (c_steps l T wb_ l1 m2_84 wy2_85 pc2_86 g1_87 g2_88 f3B g4_89 g5_90 g6_91 (zMk mdB n4B (zPl cr1_ inn1_ k11_)) ([zO0 wb_ m2_84 wy2_85 l1 pc2_86 a1_98 a2_99 a3_100 a4_101 a5_102 a6_103, zAr T 0 a1_98 7 g1_87, zAr T 0 a2_99 7 g2_88, zAr T 0 a3_100 7 f3B, zAr T 0 a4_101 (zMk mdB n4B (zPl cr1_ inn1_ k11_)) g4_89, zAr T 0 a5_102 (zMk mdB n4B (zPl cr1_ inn1_ k11_)) g5_90, zAr T 0 a6_103 (zMk mdB n4B (zPl cr1_ inn1_ k11_)) g6_91]) (nI i) a_ hw_112 (by first | with_reducible assumption | with_reducible rfl | omega | assumption | rfl)) (kV_RX11_266 C.2.2.2.2 (Nat.le_of_ble_eq_true rfl) (Nat.le_of_ble_eq_true rfl)) [4] [4] rfl rfl (ci := 0) (qc := (RX0, TX0, 10)) rfl rfl (List.mem_flatten.mpr ⟨_, List.mem_of_getElem? (i := 0) rfl, (bWays_mem hw_112).choose_spec⟩) rfl rfl hl.1 dX11_longest_59 (Nat.le_of_ble_eq_true rfl) (by show _ + 0 ≤ 6 * (zNA (i1.toInt = 0 ∧ 0 < (fk 0).toInt ∧ 0 ≤ a_.toInt ∧ a_.toInt < cr0_.toInt ∧ a_.toInt < 7) mdA n4A (zPl cr0_ inn0_ k10_) - n4A) + 6 * (zNA (i1.toInt = 1 ∧ 1 < (fk 0).toInt ∧ 0 ≤ a_.toInt ∧ a_.toInt < cr1_.toInt ∧ a_.toInt < 7) mdB n4B (zPl cr1_ inn1_ k11_) - n4B); omega) (fun r_114 b1 H locs hw G => ?_)
        refine zAn2 hw ?_
        intro hbs9 h_113
        clear hw
        subst hbs9
        have G : zS T A s.heap s [z0_, wwA, wt, [zO10 xo t im mk rd po co tr wa wb_ fi cd], z1_, [zO0 wb_ m2_84 wy2_85 l1 pc2_86 a1_98 a2_99 a3_100 a4_101 a5_102 a6_103, zAr T 0 a1_98 7 g1_87, zAr T 0 a2_99 7 g2_88, zAr T 0 a3_100 7 f3B, zAr T 0 a4_101 (zMk mdB n4B (zPl cr1_ inn1_ k11_)) g4_89, zAr T 0 a5_102 (zMk mdB n4B (zPl cr1_ inn1_ k11_)) g5_90, zAr T 0 a6_103 (zMk mdB n4B (zPl cr1_ inn1_ k11_)) g6_91]] _ _ := G
        subst h_113
        refine lv_istore (lv' := [(10, .int (zEntry g5_90 (zMk mdB n4B (zPl cr1_ inn1_ k11_)) (nI i) a_ >>> (17 &&& 31))), (9, .int (nI i)), (8, .int u8), (7, .int u7), (6, .ref wb_), (5, .ref l1), (0, .ref xo), (1, .int i1), (2, .int a_), (3, .int w_), (4, .int q_)]) hx hb dX11_longest_62 hl (by decide) (zLvf_h rfl) (fun ls hl => ?_)
        refine lv_iload hx hb dX11_longest_64 (lv_at hl 3 rfl) ?_
        refine lv_iconst (v := (-1)) hx hb dX11_longest_66 (by decide) ?_
        refine lv_icmp_eq (tgt := 91) hx hb dX11_longest_67 (by decide) (fun c_115 => ?_) (fun c_115 => ?_)
        · have c_115n : u7.toInt = (-1 : Int) := (fa_eq _ _).mp c_115
          refine lv_iconst (v := 1) hx hb dX11_longest_91 (by decide) ?_
          refine lv_goto (tgt := 96) hx hb dX11_longest_92 (by decide) ?_
          refine lv_istore (lv' := [(11, .int 1), (10, .int (zEntry g5_90 (zMk mdB n4B (zPl cr1_ inn1_ k11_)) (nI i) a_ >>> (17 &&& 31))), (9, .int (nI i)), (8, .int u8), (7, .int u7), (6, .ref wb_), (5, .ref l1), (0, .ref xo), (1, .int i1), (2, .int a_), (3, .int w_), (4, .int q_)]) hx hb dX11_longest_96 hl (by decide) (zLvf_h rfl) (fun ls hl => ?_)
          refine lv_iload hx hb dX11_longest_98 (lv_at hl 0 rfl) ?_
          refine lv_if_eq (tgt := 127) hx hb dX11_longest_100 (by decide) (fun q => absurd q (by decide)) (fun _ => ?_)
          refine lv_aload hx hb dX11_longest_103 (lv_at hl 6 rfl) ?_
          refine lv_aload hx hb dX11_longest_105 (lv_at hl 5 rfl) ?_
          refine lv_iload hx hb dX11_longest_107 (lv_at hl 2 rfl) ?_
          refine lv_iload_n hx hb dX11_longest_109 rfl (lv_at hl 9 rfl) ?_
          refine z_Vi (bc := [[zO0 wb_ m2_84 wy2_85 l1 pc2_86 a1_98 a2_99 a3_100 a4_101 a5_102 a6_103, zAr T 0 a1_98 7 g1_87, zAr T 0 a2_99 7 g2_88, zAr T 0 a3_100 7 f3B, zAr T 0 a4_101 (zMk mdB n4B (zPl cr1_ inn1_ k11_)) g4_89, zAr T 0 a5_102 (zMk mdB n4B (zPl cr1_ inn1_ k11_)) g5_90, zAr T 0 a6_103 (zMk mdB n4B (zPl cr1_ inn1_ k11_)) g6_91]]) (br := [z0_, wwA, wt, [zO10 xo t im mk rd po co tr wa wb_ fi cd], z1_]) (As := [.int (nI i), .int a_]) (rest := [.ref l1]) C G (c_where l T wb_ l1 m2_84 wy2_85 pc2_86 g1_87 g2_88 f3B g4_89 g5_90 g6_91 (zMk mdB n4B (zPl cr1_ inn1_ k11_)) ([zO0 wb_ m2_84 wy2_85 l1 pc2_86 a1_98 a2_99 a3_100 a4_101 a5_102 a6_103, zAr T 0 a1_98 7 g1_87, zAr T 0 a2_99 7 g2_88, zAr T 0 a3_100 7 f3B, zAr T 0 a4_101 (zMk mdB n4B (zPl cr1_ inn1_ k11_)) g4_89, zAr T 0 a5_102 (zMk mdB n4B (zPl cr1_ inn1_ k11_)) g5_90, zAr T 0 a6_103 (zMk mdB n4B (zPl cr1_ inn1_ k11_)) g6_91]) (nI i) a_ hw_112 (by first | with_reducible assumption | with_reducible rfl | omega | assumption | rfl)) (kV_RX11_260 C.2.2.2.2 (Nat.le_of_ble_eq_true rfl) (Nat.le_of_ble_eq_true rfl)) [5] [5] rfl rfl (ci := 0) (qc := (RX0, TX0, 10)) rfl rfl (List.mem_flatten.mpr ⟨_, List.mem_of_getElem? (i := 0) rfl, (bWays_mem hw_112).choose_spec⟩) rfl rfl hl.1 dX11_longest_110 (Nat.le_of_ble_eq_true rfl) (by show _ + 0 ≤ 6 * (zNA (i1.toInt = 0 ∧ 0 < (fk 0).toInt ∧ 0 ≤ a_.toInt ∧ a_.toInt < cr0_.toInt ∧ a_.toInt < 7) mdA n4A (zPl cr0_ inn0_ k10_) - n4A) + 6 * (zNA (i1.toInt = 1 ∧ 1 < (fk 0).toInt ∧ 0 ≤ a_.toInt ∧ a_.toInt < cr1_.toInt ∧ a_.toInt < 7) mdB n4B (zPl cr1_ inn1_ k11_) - n4B); omega) (fun r_117 b1 H locs hw G => ?_)
          refine zAn2 hw ?_
          intro hbs9 h_116
          clear hw
          subst hbs9
          have G : zS T A s.heap s [z0_, wwA, wt, [zO10 xo t im mk rd po co tr wa wb_ fi cd], z1_, [zO0 wb_ m2_84 wy2_85 l1 pc2_86 a1_98 a2_99 a3_100 a4_101 a5_102 a6_103, zAr T 0 a1_98 7 g1_87, zAr T 0 a2_99 7 g2_88, zAr T 0 a3_100 7 f3B, zAr T 0 a4_101 (zMk mdB n4B (zPl cr1_ inn1_ k11_)) g4_89, zAr T 0 a5_102 (zMk mdB n4B (zPl cr1_ inn1_ k11_)) g5_90, zAr T 0 a6_103 (zMk mdB n4B (zPl cr1_ inn1_ k11_)) g6_91]] _ _ := G
          subst h_116
          refine z_Vi (bc := [z1_]) (br := [z0_, wwA, wt, [zO10 xo t im mk rd po co tr wa wb_ fi cd], [zO0 wb_ m2_84 wy2_85 l1 pc2_86 a1_98 a2_99 a3_100 a4_101 a5_102 a6_103, zAr T 0 a1_98 7 g1_87, zAr T 0 a2_99 7 g2_88, zAr T 0 a3_100 7 f3B, zAr T 0 a4_101 (zMk mdB n4B (zPl cr1_ inn1_ k11_)) g4_89, zAr T 0 a5_102 (zMk mdB n4B (zPl cr1_ inn1_ k11_)) g5_90, zAr T 0 a6_103 (zMk mdB n4B (zPl cr1_ inn1_ k11_)) g6_91]]) (As := [.int (zEntry g5_90 (zMk mdB n4B (zPl cr1_ inn1_ k11_)) (nI i) a_ &&& 7)]) (rest := []) C G (c_isInn l T l1 cr1_ inn1_ k11_ k21_ k31_ k41_ z1_ (zEntry g5_90 (zMk mdB n4B (zPl cr1_ inn1_ k11_)) (nI i) a_ &&& 7) hz1_) (kV_RX11_174 C.2.2.2.2 (Nat.le_of_ble_eq_true rfl) (Nat.le_of_ble_eq_true rfl)) [4] [4] rfl rfl (ci := 4) (qc := (RX4, TX4, 6)) rfl rfl (List.mem_flatten.mpr ⟨_, List.mem_of_getElem? (i := 0) rfl, (bLand_mem hz1_).choose_spec⟩) rfl rfl hl.1 dX11_longest_113 (Nat.le_of_ble_eq_true rfl) (by show _ + 0 ≤ 6 * (zNA (i1.toInt = 0 ∧ 0 < (fk 0).toInt ∧ 0 ≤ a_.toInt ∧ a_.toInt < cr0_.toInt ∧ a_.toInt < 7) mdA n4A (zPl cr0_ inn0_ k10_) - n4A) + 6 * (zNA (i1.toInt = 1 ∧ 1 < (fk 0).toInt ∧ 0 ≤ a_.toInt ∧ a_.toInt < cr1_.toInt ∧ a_.toInt < 7) mdB n4B (zPl cr1_ inn1_ k11_) - n4B); omega) (fun r_119 b1 H locs hw G => ?_)
          refine zAn2 hw ?_
          intro hbs9 hc_118
          clear hw
          subst hbs9
          have G : zS T A s.heap s [z0_, wwA, wt, [zO10 xo t im mk rd po co tr wa wb_ fi cd], [zO0 wb_ m2_84 wy2_85 l1 pc2_86 a1_98 a2_99 a3_100 a4_101 a5_102 a6_103, zAr T 0 a1_98 7 g1_87, zAr T 0 a2_99 7 g2_88, zAr T 0 a3_100 7 f3B, zAr T 0 a4_101 (zMk mdB n4B (zPl cr1_ inn1_ k11_)) g4_89, zAr T 0 a5_102 (zMk mdB n4B (zPl cr1_ inn1_ k11_)) g5_90, zAr T 0 a6_103 (zMk mdB n4B (zPl cr1_ inn1_ k11_)) g6_91], z1_] _ _ := G
          rcases hc_118 with ⟨rfl, h_120, h_121, h_122, h_123⟩ | ⟨rfl, h_124⟩
          · have h_120 : 0 ≤ (zEntry g5_90 (zMk mdB n4B (zPl cr1_ inn1_ k11_)) (nI i) a_ &&& 7).toInt := h_120
            have h_121 : (zEntry g5_90 (zMk mdB n4B (zPl cr1_ inn1_ k11_)) (nI i) a_ &&& 7).toInt < cr1_.toInt := h_121
            have h_122 : (zEntry g5_90 (zMk mdB n4B (zPl cr1_ inn1_ k11_)) (nI i) a_ &&& 7).toInt < 7 := h_122
            have h_123 : ¬ zBit inn1_ (zEntry g5_90 (zMk mdB n4B (zPl cr1_ inn1_ k11_)) (nI i) a_ &&& 7) = 0 := h_123
            refine lv_if_eq (tgt := 127) hx hb dX11_longest_116 (by decide) (fun q => absurd q (by decide)) (fun _ => ?_)
            refine lv_iload hx hb dX11_longest_119 (lv_at hl 1 rfl) ?_
            refine lv_istore (lv' := [(7, .int (zEntry g5_90 (zMk mdB n4B (zPl cr1_ inn1_ k11_)) (nI i) a_ >>> (17 &&& 31))), (11, .int 1), (10, .int (zEntry g5_90 (zMk mdB n4B (zPl cr1_ inn1_ k11_)) (nI i) a_ >>> (17 &&& 31))), (9, .int (nI i)), (8, .int u8), (6, .ref wb_), (5, .ref l1), (0, .ref xo), (1, .int i1), (2, .int a_), (3, .int w_), (4, .int q_)]) hx hb dX11_longest_121 hl (by decide) (zLvf_h rfl) (fun ls hl => ?_)
            refine lv_iload hx hb dX11_longest_123 (lv_at hl 3 rfl) ?_
            refine lv_istore (lv' := [(8, .int (nI i)), (7, .int (zEntry g5_90 (zMk mdB n4B (zPl cr1_ inn1_ k11_)) (nI i) a_ >>> (17 &&& 31))), (11, .int 1), (10, .int (zEntry g5_90 (zMk mdB n4B (zPl cr1_ inn1_ k11_)) (nI i) a_ >>> (17 &&& 31))), (9, .int (nI i)), (6, .ref wb_), (5, .ref l1), (0, .ref xo), (1, .int i1), (2, .int a_), (3, .int w_), (4, .int q_)]) hx hb dX11_longest_125 hl (by decide) (zLvf_h rfl) (fun ls hl => ?_)
            refine lv_iinc (v := nI (i + 1)) (lv' := [(9, .int (nI (i + 1))), (8, .int (nI i)), (7, .int (zEntry g5_90 (zMk mdB n4B (zPl cr1_ inn1_ k11_)) (nI i) a_ >>> (17 &&& 31))), (11, .int 1), (10, .int (zEntry g5_90 (zMk mdB n4B (zPl cr1_ inn1_ k11_)) (nI i) a_ >>> (17 &&& 31))), (6, .ref wb_), (5, .ref l1), (0, .ref xo), (1, .int i1), (2, .int a_), (3, .int w_), (4, .int q_)]) hx hb dX11_longest_127 hl (k := 4) rfl (z_inc i 1) (by decide) (zLvf_h rfl) (fun ls hl => ?_)
            refine lv_goto (tgt := 44) hx hb dX11_longest_130 (by decide) ?_
            exact ih_44 (i + 1) (zEntry g5_90 (zMk mdB n4B (zPl cr1_ inn1_ k11_)) (nI i) a_ >>> (17 &&& 31)) (nI i) (show (i + 1) ≤ aPr (aW cr1_ inn1_ k11_) 7 from (by omega)) (show aPr (aW cr1_ inn1_ k11_) 7 - (i + 1) < aPr (aW cr1_ inn1_ k11_) 7 - i from by omega) _ _ ls G (lv_sub hl [0, 1, 2, 5, 6, 7, 8, 9, 10, 11] rfl)
          · have h_124 : ((zEntry g5_90 (zMk mdB n4B (zPl cr1_ inn1_ k11_)) (nI i) a_ &&& 7).toInt < 0 ∨ cr1_.toInt ≤ (zEntry g5_90 (zMk mdB n4B (zPl cr1_ inn1_ k11_)) (nI i) a_ &&& 7).toInt ∨ 7 ≤ (zEntry g5_90 (zMk mdB n4B (zPl cr1_ inn1_ k11_)) (nI i) a_ &&& 7).toInt ∨ zBit inn1_ (zEntry g5_90 (zMk mdB n4B (zPl cr1_ inn1_ k11_)) (nI i) a_ &&& 7) = 0) := h_124
            refine lv_if_eq (tgt := 127) hx hb dX11_longest_116 (by decide) (fun _ => ?_) (fun q => absurd (by decide) q)
            refine lv_iinc (v := nI (i + 1)) (lv' := [(9, .int (nI (i + 1))), (11, .int 1), (10, .int (zEntry g5_90 (zMk mdB n4B (zPl cr1_ inn1_ k11_)) (nI i) a_ >>> (17 &&& 31))), (8, .int u8), (7, .int u7), (6, .ref wb_), (5, .ref l1), (0, .ref xo), (1, .int i1), (2, .int a_), (3, .int w_), (4, .int q_)]) hx hb dX11_longest_127 hl (k := 2) rfl (z_inc i 1) (by decide) (zLvf_h rfl) (fun ls hl => ?_)
            refine lv_goto (tgt := 44) hx hb dX11_longest_130 (by decide) ?_
            exact ih_44 (i + 1) u7 u8 (show (i + 1) ≤ aPr (aW cr1_ inn1_ k11_) 7 from (by omega)) (show aPr (aW cr1_ inn1_ k11_) 7 - (i + 1) < aPr (aW cr1_ inn1_ k11_) 7 - i from by omega) _ _ ls G (lv_sub hl [0, 3, 4, 5, 6, 7, 8, 9, 10, 11] rfl)
        · have c_115n : ¬ u7.toInt = (-1 : Int) := fun q => c_115 ((fa_eq _ _).mpr q)
          refine lv_iload_n hx hb dX11_longest_70 rfl (lv_at hl 9 rfl) ?_
          refine lv_if_eq (tgt := 84) hx hb dX11_longest_71 (by decide) (fun c_125 => ?_) (fun c_125 => ?_)
          · have c_125n : w_.toInt = (0 : Int) := (fa_eq _ _).mp c_125
            refine lv_iload hx hb dX11_longest_84 (lv_at hl 0 rfl) ?_
            refine lv_iload hx hb dX11_longest_86 (lv_at hl 3 rfl) ?_
            refine lv_icmp_le (tgt := 95) hx hb dX11_longest_88 (by decide) (fun c_126 => ?_) (fun c_126 => ?_)
            · have c_126n : (zEntry g5_90 (zMk mdB n4B (zPl cr1_ inn1_ k11_)) (nI i) a_ >>> (17 &&& 31)).toInt ≤ u7.toInt := (fa_le _ _).mp c_126
              refine lv_iconst (v := 0) hx hb dX11_longest_95 (by decide) ?_
              refine lv_istore (lv' := [(11, .int 0), (10, .int (zEntry g5_90 (zMk mdB n4B (zPl cr1_ inn1_ k11_)) (nI i) a_ >>> (17 &&& 31))), (9, .int (nI i)), (8, .int u8), (7, .int u7), (6, .ref wb_), (5, .ref l1), (0, .ref xo), (1, .int i1), (2, .int a_), (3, .int w_), (4, .int q_)]) hx hb dX11_longest_96 hl (by decide) (zLvf_h rfl) (fun ls hl => ?_)
              refine lv_iload hx hb dX11_longest_98 (lv_at hl 0 rfl) ?_
              refine lv_if_eq (tgt := 127) hx hb dX11_longest_100 (by decide) (fun _ => ?_) (fun q => absurd (by decide) q)
              refine lv_iinc (v := nI (i + 1)) (lv' := [(9, .int (nI (i + 1))), (11, .int 0), (10, .int (zEntry g5_90 (zMk mdB n4B (zPl cr1_ inn1_ k11_)) (nI i) a_ >>> (17 &&& 31))), (8, .int u8), (7, .int u7), (6, .ref wb_), (5, .ref l1), (0, .ref xo), (1, .int i1), (2, .int a_), (3, .int w_), (4, .int q_)]) hx hb dX11_longest_127 hl (k := 2) rfl (z_inc i 1) (by decide) (zLvf_h rfl) (fun ls hl => ?_)
              refine lv_goto (tgt := 44) hx hb dX11_longest_130 (by decide) ?_
              have G := G.sub (bs' := [z0_, wwA, wt, [zO10 xo t im mk rd po co tr wa wb_ fi cd], [zO0 wb_ m2_84 wy2_85 l1 pc2_86 a1_98 a2_99 a3_100 a4_101 a5_102 a6_103, zAr T 0 a1_98 7 g1_87, zAr T 0 a2_99 7 g2_88, zAr T 0 a3_100 7 f3B, zAr T 0 a4_101 (zMk mdB n4B (zPl cr1_ inn1_ k11_)) g4_89, zAr T 0 a5_102 (zMk mdB n4B (zPl cr1_ inn1_ k11_)) g5_90, zAr T 0 a6_103 (zMk mdB n4B (zPl cr1_ inn1_ k11_)) g6_91], z1_]) [0, 1, 2, 3, 5, 4] rfl
              exact ih_44 (i + 1) u7 u8 (show (i + 1) ≤ aPr (aW cr1_ inn1_ k11_) 7 from (by omega)) (show aPr (aW cr1_ inn1_ k11_) 7 - (i + 1) < aPr (aW cr1_ inn1_ k11_) 7 - i from by omega) _ _ ls G (lv_sub hl [0, 3, 4, 5, 6, 7, 8, 9, 10, 11] rfl)
            · have c_126n : ¬ (zEntry g5_90 (zMk mdB n4B (zPl cr1_ inn1_ k11_)) (nI i) a_ >>> (17 &&& 31)).toInt ≤ u7.toInt := fun q => c_126 ((fa_le _ _).mpr q)
              refine lv_iconst (v := 1) hx hb dX11_longest_91 (by decide) ?_
              refine lv_goto (tgt := 96) hx hb dX11_longest_92 (by decide) ?_
              refine lv_istore (lv' := [(11, .int 1), (10, .int (zEntry g5_90 (zMk mdB n4B (zPl cr1_ inn1_ k11_)) (nI i) a_ >>> (17 &&& 31))), (9, .int (nI i)), (8, .int u8), (7, .int u7), (6, .ref wb_), (5, .ref l1), (0, .ref xo), (1, .int i1), (2, .int a_), (3, .int w_), (4, .int q_)]) hx hb dX11_longest_96 hl (by decide) (zLvf_h rfl) (fun ls hl => ?_)
              refine lv_iload hx hb dX11_longest_98 (lv_at hl 0 rfl) ?_
              refine lv_if_eq (tgt := 127) hx hb dX11_longest_100 (by decide) (fun q => absurd q (by decide)) (fun _ => ?_)
              refine lv_aload hx hb dX11_longest_103 (lv_at hl 6 rfl) ?_
              refine lv_aload hx hb dX11_longest_105 (lv_at hl 5 rfl) ?_
              refine lv_iload hx hb dX11_longest_107 (lv_at hl 2 rfl) ?_
              refine lv_iload_n hx hb dX11_longest_109 rfl (lv_at hl 9 rfl) ?_
              refine z_Vi (bc := [[zO0 wb_ m2_84 wy2_85 l1 pc2_86 a1_98 a2_99 a3_100 a4_101 a5_102 a6_103, zAr T 0 a1_98 7 g1_87, zAr T 0 a2_99 7 g2_88, zAr T 0 a3_100 7 f3B, zAr T 0 a4_101 (zMk mdB n4B (zPl cr1_ inn1_ k11_)) g4_89, zAr T 0 a5_102 (zMk mdB n4B (zPl cr1_ inn1_ k11_)) g5_90, zAr T 0 a6_103 (zMk mdB n4B (zPl cr1_ inn1_ k11_)) g6_91]]) (br := [z0_, wwA, wt, [zO10 xo t im mk rd po co tr wa wb_ fi cd], z1_]) (As := [.int (nI i), .int a_]) (rest := [.ref l1]) C G (c_where l T wb_ l1 m2_84 wy2_85 pc2_86 g1_87 g2_88 f3B g4_89 g5_90 g6_91 (zMk mdB n4B (zPl cr1_ inn1_ k11_)) ([zO0 wb_ m2_84 wy2_85 l1 pc2_86 a1_98 a2_99 a3_100 a4_101 a5_102 a6_103, zAr T 0 a1_98 7 g1_87, zAr T 0 a2_99 7 g2_88, zAr T 0 a3_100 7 f3B, zAr T 0 a4_101 (zMk mdB n4B (zPl cr1_ inn1_ k11_)) g4_89, zAr T 0 a5_102 (zMk mdB n4B (zPl cr1_ inn1_ k11_)) g5_90, zAr T 0 a6_103 (zMk mdB n4B (zPl cr1_ inn1_ k11_)) g6_91]) (nI i) a_ hw_112 (by first | with_reducible assumption | with_reducible rfl | omega | assumption | rfl)) (kV_RX11_260 C.2.2.2.2 (Nat.le_of_ble_eq_true rfl) (Nat.le_of_ble_eq_true rfl)) [5] [5] rfl rfl (ci := 0) (qc := (RX0, TX0, 10)) rfl rfl (List.mem_flatten.mpr ⟨_, List.mem_of_getElem? (i := 0) rfl, (bWays_mem hw_112).choose_spec⟩) rfl rfl hl.1 dX11_longest_110 (Nat.le_of_ble_eq_true rfl) (by show _ + 0 ≤ 6 * (zNA (i1.toInt = 0 ∧ 0 < (fk 0).toInt ∧ 0 ≤ a_.toInt ∧ a_.toInt < cr0_.toInt ∧ a_.toInt < 7) mdA n4A (zPl cr0_ inn0_ k10_) - n4A) + 6 * (zNA (i1.toInt = 1 ∧ 1 < (fk 0).toInt ∧ 0 ≤ a_.toInt ∧ a_.toInt < cr1_.toInt ∧ a_.toInt < 7) mdB n4B (zPl cr1_ inn1_ k11_) - n4B); omega) (fun r_128 b1 H locs hw G => ?_)
              refine zAn2 hw ?_
              intro hbs9 h_127
              clear hw
              subst hbs9
              have G : zS T A s.heap s [z0_, wwA, wt, [zO10 xo t im mk rd po co tr wa wb_ fi cd], z1_, [zO0 wb_ m2_84 wy2_85 l1 pc2_86 a1_98 a2_99 a3_100 a4_101 a5_102 a6_103, zAr T 0 a1_98 7 g1_87, zAr T 0 a2_99 7 g2_88, zAr T 0 a3_100 7 f3B, zAr T 0 a4_101 (zMk mdB n4B (zPl cr1_ inn1_ k11_)) g4_89, zAr T 0 a5_102 (zMk mdB n4B (zPl cr1_ inn1_ k11_)) g5_90, zAr T 0 a6_103 (zMk mdB n4B (zPl cr1_ inn1_ k11_)) g6_91]] _ _ := G
              subst h_127
              refine z_Vi (bc := [z1_]) (br := [z0_, wwA, wt, [zO10 xo t im mk rd po co tr wa wb_ fi cd], [zO0 wb_ m2_84 wy2_85 l1 pc2_86 a1_98 a2_99 a3_100 a4_101 a5_102 a6_103, zAr T 0 a1_98 7 g1_87, zAr T 0 a2_99 7 g2_88, zAr T 0 a3_100 7 f3B, zAr T 0 a4_101 (zMk mdB n4B (zPl cr1_ inn1_ k11_)) g4_89, zAr T 0 a5_102 (zMk mdB n4B (zPl cr1_ inn1_ k11_)) g5_90, zAr T 0 a6_103 (zMk mdB n4B (zPl cr1_ inn1_ k11_)) g6_91]]) (As := [.int (zEntry g5_90 (zMk mdB n4B (zPl cr1_ inn1_ k11_)) (nI i) a_ &&& 7)]) (rest := []) C G (c_isInn l T l1 cr1_ inn1_ k11_ k21_ k31_ k41_ z1_ (zEntry g5_90 (zMk mdB n4B (zPl cr1_ inn1_ k11_)) (nI i) a_ &&& 7) hz1_) (kV_RX11_174 C.2.2.2.2 (Nat.le_of_ble_eq_true rfl) (Nat.le_of_ble_eq_true rfl)) [4] [4] rfl rfl (ci := 4) (qc := (RX4, TX4, 6)) rfl rfl (List.mem_flatten.mpr ⟨_, List.mem_of_getElem? (i := 0) rfl, (bLand_mem hz1_).choose_spec⟩) rfl rfl hl.1 dX11_longest_113 (Nat.le_of_ble_eq_true rfl) (by show _ + 0 ≤ 6 * (zNA (i1.toInt = 0 ∧ 0 < (fk 0).toInt ∧ 0 ≤ a_.toInt ∧ a_.toInt < cr0_.toInt ∧ a_.toInt < 7) mdA n4A (zPl cr0_ inn0_ k10_) - n4A) + 6 * (zNA (i1.toInt = 1 ∧ 1 < (fk 0).toInt ∧ 0 ≤ a_.toInt ∧ a_.toInt < cr1_.toInt ∧ a_.toInt < 7) mdB n4B (zPl cr1_ inn1_ k11_) - n4B); omega) (fun r_130 b1 H locs hw G => ?_)
              refine zAn2 hw ?_
              intro hbs9 hc_129
              clear hw
              subst hbs9
              have G : zS T A s.heap s [z0_, wwA, wt, [zO10 xo t im mk rd po co tr wa wb_ fi cd], [zO0 wb_ m2_84 wy2_85 l1 pc2_86 a1_98 a2_99 a3_100 a4_101 a5_102 a6_103, zAr T 0 a1_98 7 g1_87, zAr T 0 a2_99 7 g2_88, zAr T 0 a3_100 7 f3B, zAr T 0 a4_101 (zMk mdB n4B (zPl cr1_ inn1_ k11_)) g4_89, zAr T 0 a5_102 (zMk mdB n4B (zPl cr1_ inn1_ k11_)) g5_90, zAr T 0 a6_103 (zMk mdB n4B (zPl cr1_ inn1_ k11_)) g6_91], z1_] _ _ := G
              rcases hc_129 with ⟨rfl, h_131, h_132, h_133, h_134⟩ | ⟨rfl, h_135⟩
              · have h_131 : 0 ≤ (zEntry g5_90 (zMk mdB n4B (zPl cr1_ inn1_ k11_)) (nI i) a_ &&& 7).toInt := h_131
                have h_132 : (zEntry g5_90 (zMk mdB n4B (zPl cr1_ inn1_ k11_)) (nI i) a_ &&& 7).toInt < cr1_.toInt := h_132
                have h_133 : (zEntry g5_90 (zMk mdB n4B (zPl cr1_ inn1_ k11_)) (nI i) a_ &&& 7).toInt < 7 := h_133
                have h_134 : ¬ zBit inn1_ (zEntry g5_90 (zMk mdB n4B (zPl cr1_ inn1_ k11_)) (nI i) a_ &&& 7) = 0 := h_134
                refine lv_if_eq (tgt := 127) hx hb dX11_longest_116 (by decide) (fun q => absurd q (by decide)) (fun _ => ?_)
                refine lv_iload hx hb dX11_longest_119 (lv_at hl 1 rfl) ?_
                refine lv_istore (lv' := [(7, .int (zEntry g5_90 (zMk mdB n4B (zPl cr1_ inn1_ k11_)) (nI i) a_ >>> (17 &&& 31))), (11, .int 1), (10, .int (zEntry g5_90 (zMk mdB n4B (zPl cr1_ inn1_ k11_)) (nI i) a_ >>> (17 &&& 31))), (9, .int (nI i)), (8, .int u8), (6, .ref wb_), (5, .ref l1), (0, .ref xo), (1, .int i1), (2, .int a_), (3, .int w_), (4, .int q_)]) hx hb dX11_longest_121 hl (by decide) (zLvf_h rfl) (fun ls hl => ?_)
                refine lv_iload hx hb dX11_longest_123 (lv_at hl 3 rfl) ?_
                refine lv_istore (lv' := [(8, .int (nI i)), (7, .int (zEntry g5_90 (zMk mdB n4B (zPl cr1_ inn1_ k11_)) (nI i) a_ >>> (17 &&& 31))), (11, .int 1), (10, .int (zEntry g5_90 (zMk mdB n4B (zPl cr1_ inn1_ k11_)) (nI i) a_ >>> (17 &&& 31))), (9, .int (nI i)), (6, .ref wb_), (5, .ref l1), (0, .ref xo), (1, .int i1), (2, .int a_), (3, .int w_), (4, .int q_)]) hx hb dX11_longest_125 hl (by decide) (zLvf_h rfl) (fun ls hl => ?_)
                refine lv_iinc (v := nI (i + 1)) (lv' := [(9, .int (nI (i + 1))), (8, .int (nI i)), (7, .int (zEntry g5_90 (zMk mdB n4B (zPl cr1_ inn1_ k11_)) (nI i) a_ >>> (17 &&& 31))), (11, .int 1), (10, .int (zEntry g5_90 (zMk mdB n4B (zPl cr1_ inn1_ k11_)) (nI i) a_ >>> (17 &&& 31))), (6, .ref wb_), (5, .ref l1), (0, .ref xo), (1, .int i1), (2, .int a_), (3, .int w_), (4, .int q_)]) hx hb dX11_longest_127 hl (k := 4) rfl (z_inc i 1) (by decide) (zLvf_h rfl) (fun ls hl => ?_)
                refine lv_goto (tgt := 44) hx hb dX11_longest_130 (by decide) ?_
                exact ih_44 (i + 1) (zEntry g5_90 (zMk mdB n4B (zPl cr1_ inn1_ k11_)) (nI i) a_ >>> (17 &&& 31)) (nI i) (show (i + 1) ≤ aPr (aW cr1_ inn1_ k11_) 7 from (by omega)) (show aPr (aW cr1_ inn1_ k11_) 7 - (i + 1) < aPr (aW cr1_ inn1_ k11_) 7 - i from by omega) _ _ ls G (lv_sub hl [0, 1, 2, 5, 6, 7, 8, 9, 10, 11] rfl)
              · have h_135 : ((zEntry g5_90 (zMk mdB n4B (zPl cr1_ inn1_ k11_)) (nI i) a_ &&& 7).toInt < 0 ∨ cr1_.toInt ≤ (zEntry g5_90 (zMk mdB n4B (zPl cr1_ inn1_ k11_)) (nI i) a_ &&& 7).toInt ∨ 7 ≤ (zEntry g5_90 (zMk mdB n4B (zPl cr1_ inn1_ k11_)) (nI i) a_ &&& 7).toInt ∨ zBit inn1_ (zEntry g5_90 (zMk mdB n4B (zPl cr1_ inn1_ k11_)) (nI i) a_ &&& 7) = 0) := h_135
                refine lv_if_eq (tgt := 127) hx hb dX11_longest_116 (by decide) (fun _ => ?_) (fun q => absurd (by decide) q)
                refine lv_iinc (v := nI (i + 1)) (lv' := [(9, .int (nI (i + 1))), (11, .int 1), (10, .int (zEntry g5_90 (zMk mdB n4B (zPl cr1_ inn1_ k11_)) (nI i) a_ >>> (17 &&& 31))), (8, .int u8), (7, .int u7), (6, .ref wb_), (5, .ref l1), (0, .ref xo), (1, .int i1), (2, .int a_), (3, .int w_), (4, .int q_)]) hx hb dX11_longest_127 hl (k := 2) rfl (z_inc i 1) (by decide) (zLvf_h rfl) (fun ls hl => ?_)
                refine lv_goto (tgt := 44) hx hb dX11_longest_130 (by decide) ?_
                exact ih_44 (i + 1) u7 u8 (show (i + 1) ≤ aPr (aW cr1_ inn1_ k11_) 7 from (by omega)) (show aPr (aW cr1_ inn1_ k11_) 7 - (i + 1) < aPr (aW cr1_ inn1_ k11_) 7 - i from by omega) _ _ ls G (lv_sub hl [0, 3, 4, 5, 6, 7, 8, 9, 10, 11] rfl)
          · have c_125n : ¬ w_.toInt = (0 : Int) := fun q => c_125 ((fa_eq _ _).mpr q)
            refine lv_iload hx hb dX11_longest_74 (lv_at hl 0 rfl) ?_
            refine lv_iload hx hb dX11_longest_76 (lv_at hl 3 rfl) ?_
            refine lv_icmp_ge (tgt := 95) hx hb dX11_longest_78 (by decide) (fun c_136 => ?_) (fun c_136 => ?_)
            · have c_136n : u7.toInt ≤ (zEntry g5_90 (zMk mdB n4B (zPl cr1_ inn1_ k11_)) (nI i) a_ >>> (17 &&& 31)).toInt := (fa_le _ _).mp c_136
              refine lv_iconst (v := 0) hx hb dX11_longest_95 (by decide) ?_
              refine lv_istore (lv' := [(11, .int 0), (10, .int (zEntry g5_90 (zMk mdB n4B (zPl cr1_ inn1_ k11_)) (nI i) a_ >>> (17 &&& 31))), (9, .int (nI i)), (8, .int u8), (7, .int u7), (6, .ref wb_), (5, .ref l1), (0, .ref xo), (1, .int i1), (2, .int a_), (3, .int w_), (4, .int q_)]) hx hb dX11_longest_96 hl (by decide) (zLvf_h rfl) (fun ls hl => ?_)
              refine lv_iload hx hb dX11_longest_98 (lv_at hl 0 rfl) ?_
              refine lv_if_eq (tgt := 127) hx hb dX11_longest_100 (by decide) (fun _ => ?_) (fun q => absurd (by decide) q)
              refine lv_iinc (v := nI (i + 1)) (lv' := [(9, .int (nI (i + 1))), (11, .int 0), (10, .int (zEntry g5_90 (zMk mdB n4B (zPl cr1_ inn1_ k11_)) (nI i) a_ >>> (17 &&& 31))), (8, .int u8), (7, .int u7), (6, .ref wb_), (5, .ref l1), (0, .ref xo), (1, .int i1), (2, .int a_), (3, .int w_), (4, .int q_)]) hx hb dX11_longest_127 hl (k := 2) rfl (z_inc i 1) (by decide) (zLvf_h rfl) (fun ls hl => ?_)
              refine lv_goto (tgt := 44) hx hb dX11_longest_130 (by decide) ?_
              have G := G.sub (bs' := [z0_, wwA, wt, [zO10 xo t im mk rd po co tr wa wb_ fi cd], [zO0 wb_ m2_84 wy2_85 l1 pc2_86 a1_98 a2_99 a3_100 a4_101 a5_102 a6_103, zAr T 0 a1_98 7 g1_87, zAr T 0 a2_99 7 g2_88, zAr T 0 a3_100 7 f3B, zAr T 0 a4_101 (zMk mdB n4B (zPl cr1_ inn1_ k11_)) g4_89, zAr T 0 a5_102 (zMk mdB n4B (zPl cr1_ inn1_ k11_)) g5_90, zAr T 0 a6_103 (zMk mdB n4B (zPl cr1_ inn1_ k11_)) g6_91], z1_]) [0, 1, 2, 3, 5, 4] rfl
              exact ih_44 (i + 1) u7 u8 (show (i + 1) ≤ aPr (aW cr1_ inn1_ k11_) 7 from (by omega)) (show aPr (aW cr1_ inn1_ k11_) 7 - (i + 1) < aPr (aW cr1_ inn1_ k11_) 7 - i from by omega) _ _ ls G (lv_sub hl [0, 3, 4, 5, 6, 7, 8, 9, 10, 11] rfl)
            · have c_136n : ¬ u7.toInt ≤ (zEntry g5_90 (zMk mdB n4B (zPl cr1_ inn1_ k11_)) (nI i) a_ >>> (17 &&& 31)).toInt := fun q => c_136 ((fa_le _ _).mpr q)
              refine lv_goto (tgt := 91) hx hb dX11_longest_81 (by decide) ?_
              refine lv_iconst (v := 1) hx hb dX11_longest_91 (by decide) ?_
              refine lv_goto (tgt := 96) hx hb dX11_longest_92 (by decide) ?_
              refine lv_istore (lv' := [(11, .int 1), (10, .int (zEntry g5_90 (zMk mdB n4B (zPl cr1_ inn1_ k11_)) (nI i) a_ >>> (17 &&& 31))), (9, .int (nI i)), (8, .int u8), (7, .int u7), (6, .ref wb_), (5, .ref l1), (0, .ref xo), (1, .int i1), (2, .int a_), (3, .int w_), (4, .int q_)]) hx hb dX11_longest_96 hl (by decide) (zLvf_h rfl) (fun ls hl => ?_)
              refine lv_iload hx hb dX11_longest_98 (lv_at hl 0 rfl) ?_
              refine lv_if_eq (tgt := 127) hx hb dX11_longest_100 (by decide) (fun q => absurd q (by decide)) (fun _ => ?_)
              refine lv_aload hx hb dX11_longest_103 (lv_at hl 6 rfl) ?_
              refine lv_aload hx hb dX11_longest_105 (lv_at hl 5 rfl) ?_
              refine lv_iload hx hb dX11_longest_107 (lv_at hl 2 rfl) ?_
              refine lv_iload_n hx hb dX11_longest_109 rfl (lv_at hl 9 rfl) ?_
              refine z_Vi (bc := [[zO0 wb_ m2_84 wy2_85 l1 pc2_86 a1_98 a2_99 a3_100 a4_101 a5_102 a6_103, zAr T 0 a1_98 7 g1_87, zAr T 0 a2_99 7 g2_88, zAr T 0 a3_100 7 f3B, zAr T 0 a4_101 (zMk mdB n4B (zPl cr1_ inn1_ k11_)) g4_89, zAr T 0 a5_102 (zMk mdB n4B (zPl cr1_ inn1_ k11_)) g5_90, zAr T 0 a6_103 (zMk mdB n4B (zPl cr1_ inn1_ k11_)) g6_91]]) (br := [z0_, wwA, wt, [zO10 xo t im mk rd po co tr wa wb_ fi cd], z1_]) (As := [.int (nI i), .int a_]) (rest := [.ref l1]) C G (c_where l T wb_ l1 m2_84 wy2_85 pc2_86 g1_87 g2_88 f3B g4_89 g5_90 g6_91 (zMk mdB n4B (zPl cr1_ inn1_ k11_)) ([zO0 wb_ m2_84 wy2_85 l1 pc2_86 a1_98 a2_99 a3_100 a4_101 a5_102 a6_103, zAr T 0 a1_98 7 g1_87, zAr T 0 a2_99 7 g2_88, zAr T 0 a3_100 7 f3B, zAr T 0 a4_101 (zMk mdB n4B (zPl cr1_ inn1_ k11_)) g4_89, zAr T 0 a5_102 (zMk mdB n4B (zPl cr1_ inn1_ k11_)) g5_90, zAr T 0 a6_103 (zMk mdB n4B (zPl cr1_ inn1_ k11_)) g6_91]) (nI i) a_ hw_112 (by first | with_reducible assumption | with_reducible rfl | omega | assumption | rfl)) (kV_RX11_260 C.2.2.2.2 (Nat.le_of_ble_eq_true rfl) (Nat.le_of_ble_eq_true rfl)) [5] [5] rfl rfl (ci := 0) (qc := (RX0, TX0, 10)) rfl rfl (List.mem_flatten.mpr ⟨_, List.mem_of_getElem? (i := 0) rfl, (bWays_mem hw_112).choose_spec⟩) rfl rfl hl.1 dX11_longest_110 (Nat.le_of_ble_eq_true rfl) (by show _ + 0 ≤ 6 * (zNA (i1.toInt = 0 ∧ 0 < (fk 0).toInt ∧ 0 ≤ a_.toInt ∧ a_.toInt < cr0_.toInt ∧ a_.toInt < 7) mdA n4A (zPl cr0_ inn0_ k10_) - n4A) + 6 * (zNA (i1.toInt = 1 ∧ 1 < (fk 0).toInt ∧ 0 ≤ a_.toInt ∧ a_.toInt < cr1_.toInt ∧ a_.toInt < 7) mdB n4B (zPl cr1_ inn1_ k11_) - n4B); omega) (fun r_138 b1 H locs hw G => ?_)
              refine zAn2 hw ?_
              intro hbs9 h_137
              clear hw
              subst hbs9
              have G : zS T A s.heap s [z0_, wwA, wt, [zO10 xo t im mk rd po co tr wa wb_ fi cd], z1_, [zO0 wb_ m2_84 wy2_85 l1 pc2_86 a1_98 a2_99 a3_100 a4_101 a5_102 a6_103, zAr T 0 a1_98 7 g1_87, zAr T 0 a2_99 7 g2_88, zAr T 0 a3_100 7 f3B, zAr T 0 a4_101 (zMk mdB n4B (zPl cr1_ inn1_ k11_)) g4_89, zAr T 0 a5_102 (zMk mdB n4B (zPl cr1_ inn1_ k11_)) g5_90, zAr T 0 a6_103 (zMk mdB n4B (zPl cr1_ inn1_ k11_)) g6_91]] _ _ := G
              subst h_137
              refine z_Vi (bc := [z1_]) (br := [z0_, wwA, wt, [zO10 xo t im mk rd po co tr wa wb_ fi cd], [zO0 wb_ m2_84 wy2_85 l1 pc2_86 a1_98 a2_99 a3_100 a4_101 a5_102 a6_103, zAr T 0 a1_98 7 g1_87, zAr T 0 a2_99 7 g2_88, zAr T 0 a3_100 7 f3B, zAr T 0 a4_101 (zMk mdB n4B (zPl cr1_ inn1_ k11_)) g4_89, zAr T 0 a5_102 (zMk mdB n4B (zPl cr1_ inn1_ k11_)) g5_90, zAr T 0 a6_103 (zMk mdB n4B (zPl cr1_ inn1_ k11_)) g6_91]]) (As := [.int (zEntry g5_90 (zMk mdB n4B (zPl cr1_ inn1_ k11_)) (nI i) a_ &&& 7)]) (rest := []) C G (c_isInn l T l1 cr1_ inn1_ k11_ k21_ k31_ k41_ z1_ (zEntry g5_90 (zMk mdB n4B (zPl cr1_ inn1_ k11_)) (nI i) a_ &&& 7) hz1_) (kV_RX11_174 C.2.2.2.2 (Nat.le_of_ble_eq_true rfl) (Nat.le_of_ble_eq_true rfl)) [4] [4] rfl rfl (ci := 4) (qc := (RX4, TX4, 6)) rfl rfl (List.mem_flatten.mpr ⟨_, List.mem_of_getElem? (i := 0) rfl, (bLand_mem hz1_).choose_spec⟩) rfl rfl hl.1 dX11_longest_113 (Nat.le_of_ble_eq_true rfl) (by show _ + 0 ≤ 6 * (zNA (i1.toInt = 0 ∧ 0 < (fk 0).toInt ∧ 0 ≤ a_.toInt ∧ a_.toInt < cr0_.toInt ∧ a_.toInt < 7) mdA n4A (zPl cr0_ inn0_ k10_) - n4A) + 6 * (zNA (i1.toInt = 1 ∧ 1 < (fk 0).toInt ∧ 0 ≤ a_.toInt ∧ a_.toInt < cr1_.toInt ∧ a_.toInt < 7) mdB n4B (zPl cr1_ inn1_ k11_) - n4B); omega) (fun r_140 b1 H locs hw G => ?_)
              refine zAn2 hw ?_
              intro hbs9 hc_139
              clear hw
              subst hbs9
              have G : zS T A s.heap s [z0_, wwA, wt, [zO10 xo t im mk rd po co tr wa wb_ fi cd], [zO0 wb_ m2_84 wy2_85 l1 pc2_86 a1_98 a2_99 a3_100 a4_101 a5_102 a6_103, zAr T 0 a1_98 7 g1_87, zAr T 0 a2_99 7 g2_88, zAr T 0 a3_100 7 f3B, zAr T 0 a4_101 (zMk mdB n4B (zPl cr1_ inn1_ k11_)) g4_89, zAr T 0 a5_102 (zMk mdB n4B (zPl cr1_ inn1_ k11_)) g5_90, zAr T 0 a6_103 (zMk mdB n4B (zPl cr1_ inn1_ k11_)) g6_91], z1_] _ _ := G
              rcases hc_139 with ⟨rfl, h_141, h_142, h_143, h_144⟩ | ⟨rfl, h_145⟩
              · have h_141 : 0 ≤ (zEntry g5_90 (zMk mdB n4B (zPl cr1_ inn1_ k11_)) (nI i) a_ &&& 7).toInt := h_141
                have h_142 : (zEntry g5_90 (zMk mdB n4B (zPl cr1_ inn1_ k11_)) (nI i) a_ &&& 7).toInt < cr1_.toInt := h_142
                have h_143 : (zEntry g5_90 (zMk mdB n4B (zPl cr1_ inn1_ k11_)) (nI i) a_ &&& 7).toInt < 7 := h_143
                have h_144 : ¬ zBit inn1_ (zEntry g5_90 (zMk mdB n4B (zPl cr1_ inn1_ k11_)) (nI i) a_ &&& 7) = 0 := h_144
                refine lv_if_eq (tgt := 127) hx hb dX11_longest_116 (by decide) (fun q => absurd q (by decide)) (fun _ => ?_)
                refine lv_iload hx hb dX11_longest_119 (lv_at hl 1 rfl) ?_
                refine lv_istore (lv' := [(7, .int (zEntry g5_90 (zMk mdB n4B (zPl cr1_ inn1_ k11_)) (nI i) a_ >>> (17 &&& 31))), (11, .int 1), (10, .int (zEntry g5_90 (zMk mdB n4B (zPl cr1_ inn1_ k11_)) (nI i) a_ >>> (17 &&& 31))), (9, .int (nI i)), (8, .int u8), (6, .ref wb_), (5, .ref l1), (0, .ref xo), (1, .int i1), (2, .int a_), (3, .int w_), (4, .int q_)]) hx hb dX11_longest_121 hl (by decide) (zLvf_h rfl) (fun ls hl => ?_)
                refine lv_iload hx hb dX11_longest_123 (lv_at hl 3 rfl) ?_
                refine lv_istore (lv' := [(8, .int (nI i)), (7, .int (zEntry g5_90 (zMk mdB n4B (zPl cr1_ inn1_ k11_)) (nI i) a_ >>> (17 &&& 31))), (11, .int 1), (10, .int (zEntry g5_90 (zMk mdB n4B (zPl cr1_ inn1_ k11_)) (nI i) a_ >>> (17 &&& 31))), (9, .int (nI i)), (6, .ref wb_), (5, .ref l1), (0, .ref xo), (1, .int i1), (2, .int a_), (3, .int w_), (4, .int q_)]) hx hb dX11_longest_125 hl (by decide) (zLvf_h rfl) (fun ls hl => ?_)
                refine lv_iinc (v := nI (i + 1)) (lv' := [(9, .int (nI (i + 1))), (8, .int (nI i)), (7, .int (zEntry g5_90 (zMk mdB n4B (zPl cr1_ inn1_ k11_)) (nI i) a_ >>> (17 &&& 31))), (11, .int 1), (10, .int (zEntry g5_90 (zMk mdB n4B (zPl cr1_ inn1_ k11_)) (nI i) a_ >>> (17 &&& 31))), (6, .ref wb_), (5, .ref l1), (0, .ref xo), (1, .int i1), (2, .int a_), (3, .int w_), (4, .int q_)]) hx hb dX11_longest_127 hl (k := 4) rfl (z_inc i 1) (by decide) (zLvf_h rfl) (fun ls hl => ?_)
                refine lv_goto (tgt := 44) hx hb dX11_longest_130 (by decide) ?_
                exact ih_44 (i + 1) (zEntry g5_90 (zMk mdB n4B (zPl cr1_ inn1_ k11_)) (nI i) a_ >>> (17 &&& 31)) (nI i) (show (i + 1) ≤ aPr (aW cr1_ inn1_ k11_) 7 from (by omega)) (show aPr (aW cr1_ inn1_ k11_) 7 - (i + 1) < aPr (aW cr1_ inn1_ k11_) 7 - i from by omega) _ _ ls G (lv_sub hl [0, 1, 2, 5, 6, 7, 8, 9, 10, 11] rfl)
              · have h_145 : ((zEntry g5_90 (zMk mdB n4B (zPl cr1_ inn1_ k11_)) (nI i) a_ &&& 7).toInt < 0 ∨ cr1_.toInt ≤ (zEntry g5_90 (zMk mdB n4B (zPl cr1_ inn1_ k11_)) (nI i) a_ &&& 7).toInt ∨ 7 ≤ (zEntry g5_90 (zMk mdB n4B (zPl cr1_ inn1_ k11_)) (nI i) a_ &&& 7).toInt ∨ zBit inn1_ (zEntry g5_90 (zMk mdB n4B (zPl cr1_ inn1_ k11_)) (nI i) a_ &&& 7) = 0) := h_145
                refine lv_if_eq (tgt := 127) hx hb dX11_longest_116 (by decide) (fun _ => ?_) (fun q => absurd (by decide) q)
                refine lv_iinc (v := nI (i + 1)) (lv' := [(9, .int (nI (i + 1))), (11, .int 1), (10, .int (zEntry g5_90 (zMk mdB n4B (zPl cr1_ inn1_ k11_)) (nI i) a_ >>> (17 &&& 31))), (8, .int u8), (7, .int u7), (6, .ref wb_), (5, .ref l1), (0, .ref xo), (1, .int i1), (2, .int a_), (3, .int w_), (4, .int q_)]) hx hb dX11_longest_127 hl (k := 2) rfl (z_inc i 1) (by decide) (zLvf_h rfl) (fun ls hl => ?_)
                refine lv_goto (tgt := 44) hx hb dX11_longest_130 (by decide) ?_
                exact ih_44 (i + 1) u7 u8 (show (i + 1) ≤ aPr (aW cr1_ inn1_ k11_) 7 from (by omega)) (show aPr (aW cr1_ inn1_ k11_) 7 - (i + 1) < aPr (aW cr1_ inn1_ k11_) 7 - i from by omega) _ _ ls G (lv_sub hl [0, 3, 4, 5, 6, 7, 8, 9, 10, 11] rfl)
    · have h_82 : (a_.toInt < 0 ∨ cr1_.toInt ≤ a_.toInt ∨ 7 ≤ a_.toInt) := h_82
      refine lv_if_ne (tgt := 26) hx hb dX11_longest_21 (by decide) (fun q => absurd (by decide) q) (fun _ => ?_)
      refine lv_iconst (v := (-1)) hx hb dX11_longest_24 (by decide) ?_
      have G := G.sub (bs' := [[zO10 xo t im mk rd po co tr wa wb_ fi cd], wt, z0_, z1_, wwA, wwB]) [0, 4, 1, 5, 2, 3] rfl
      exact z_back hQz_ (z_iret C hr hlocks G (Nat.le_of_ble_eq_true rfl) (by omega) dX11_longest_25 ⟨laA, mdA, wyA, pc_A, f1A, f2A, f3A, f4A, f5A, f6A, n4A, wwA, laB, mdB, wyB, pc_B, f1B, f2B, f3B, f4B, f5B, f6B, n4B, wwB, rfl, hwwA, hmdA, hwmA, (by first | exact hNAo.symm | exact (zNA_n (by first | omega | grind)).symm), hpwA, (fun q => q), hTbA, hwwB, hmdB, hwmB, (by first | exact hNAo.symm | exact (zNA_n (by first | omega | grind)).symm), hpwB, (fun q => q), hTbB⟩)
set_option maxHeartbeats 4000000 in
set_option maxRecDepth 100000 in
/-- c_t_back -/
theorem c_t_back (l : Launch) (T : zTy) (xo : Nat) (t : Nat) (im : Nat) (mk : Nat) (rd : Nat) (po : Nat) (co : Nat) (tr : Nat) (wa : Nat) (wb_ : Nat) (fi : Nat) (cd : Nat) (l0 : Nat) (l1 : Nat) (d0 : Nat) (d1 : Nat) (g0 : Nat) (g1 : Nat) (ln : Int32) (fl : Int32) (pl : Int32) (ft : Nat → Int32) (fk : Nat → Int32) (wt : va_W) (cr0_ : Int32) (inn0_ : Int32) (k10_ : Nat → Int32) (k20_ : Nat → Int32) (k30_ : Nat → Int32) (k40_ : Nat → Int32) (z0_ : va_W) (cr1_ : Int32) (inn1_ : Int32) (k11_ : Nat → Int32) (k21_ : Nat → Int32) (k31_ : Nat → Int32) (k41_ : Nat → Int32) (z1_ : va_W) (laA : Nat) (mdA : Int32) (wyA : Int32) (pc_A : Int32) (f1A : Nat → Int32) (f2A : Nat → Int32) (f3A : Nat → Int32) (f4A : Nat → Int32) (f5A : Nat → Int32) (f6A : Nat → Int32) (n4A : Nat) (wwA : va_W) (laB : Nat) (mdB : Int32) (wyB : Int32) (pc_B : Int32) (f1B : Nat → Int32) (f2B : Nat → Int32) (f3B : Nat → Int32) (f4B : Nat → Int32) (f5B : Nat → Int32) (f6B : Nat → Int32) (n4B : Nat) (wwB : va_W) (i1 : Int32) (a_ : Int32) (ht : bTold T t l0 l1 d0 d1 g0 g1 ln fl pl ft fk wt) (hK : zKT fk) (hz0_ : bLand T l0 cr0_ inn0_ k10_ k20_ k30_ k40_ z0_) (hI0_ : zLI cr0_ k10_ k30_) (hz1_ : bLand T l1 cr1_ inn1_ k11_ k21_ k31_ k41_ z1_) (hI1_ : zLI cr1_ k11_ k31_) (hwwA : bWays T wa laA mdA wyA pc_A f1A f2A f3A f4A f5A f6A n4A wwA) (hpwA : zPw n4A) (hmdA : mdA = 0 ∨ laA = l0) (hwmA : 0 ≤ wyA.toInt ∧ wyA.toInt ≤ 16384) (hTbA : mdA = 0 ∨ zTab cr0_ inn0_ k10_ k20_ wyA pc_A f1A f2A f5A n4A) (hLq0 : zLq cr0_ k10_ k20_) (hwwB : bWays T wb_ laB mdB wyB pc_B f1B f2B f3B f4B f5B f6B n4B wwB) (hpwB : zPw n4B) (hmdB : mdB = 0 ∨ laB = l1) (hwmB : 0 ≤ wyB.toInt ∧ wyB.toInt ≤ 16384) (hTbB : mdB = 0 ∨ zTab cr1_ inn1_ k11_ k21_ wyB pc_B f1B f2B f5B n4B) (hLq1 : zLq cr1_ k11_ k21_) : zMi l T yX11_back cX11_back 8 (some .int) 7 3 (6 * (zNA (i1.toInt = 0 ∧ 0 < (fk 0).toInt ∧ 0 ≤ a_.toInt ∧ a_.toInt < cr0_.toInt ∧ a_.toInt < 7) mdA n4A (zPl cr0_ inn0_ k10_) - n4A) + 6 * (zNA (i1.toInt = 1 ∧ 1 < (fk 0).toInt ∧ 0 ≤ a_.toInt ∧ a_.toInt < cr1_.toInt ∧ a_.toInt < 7) mdB n4B (zPl cr1_ inn1_ k11_) - n4B)) [.ref xo, .int i1, .int a_] [[zO10 xo t im mk rd po co tr wa wb_ fi cd], wt, z0_, z1_, wwA, wwB] (fun (r : Int32) bs => ∃ (laA_2 : Nat) (mdA_2 : Int32) (wyA_2 : Int32) (pc_A_2 : Int32) (f1A_2 : Nat → Int32) (f2A_2 : Nat → Int32) (f3A_2 : Nat → Int32) (f4A_2 : Nat → Int32) (f5A_2 : Nat → Int32) (f6A_2 : Nat → Int32) (n4A_2 : Nat) (wwA_2 : va_W) (laB_2 : Nat) (mdB_2 : Int32) (wyB_2 : Int32) (pc_B_2 : Int32) (f1B_2 : Nat → Int32) (f2B_2 : Nat → Int32) (f3B_2 : Nat → Int32) (f4B_2 : Nat → Int32) (f5B_2 : Nat → Int32) (f6B_2 : Nat → Int32) (n4B_2 : Nat) (wwB_2 : va_W), bs = [[zO10 xo t im mk rd po co tr wa wb_ fi cd], wt, z0_, z1_, wwA_2, wwB_2] ∧ bWays T wa laA_2 mdA_2 wyA_2 pc_A_2 f1A_2 f2A_2 f3A_2 f4A_2 f5A_2 f6A_2 n4A_2 wwA_2 ∧ (mdA_2 = 0 ∨ laA_2 = l0) ∧ (0 ≤ wyA_2.toInt ∧ wyA_2.toInt ≤ 16384) ∧ n4A_2 = zNA (i1.toInt = 0 ∧ 0 < (fk 0).toInt ∧ 0 ≤ a_.toInt ∧ a_.toInt < cr0_.toInt ∧ a_.toInt < 7) mdA n4A (zPl cr0_ inn0_ k10_) ∧ zPw n4A_2 ∧ (¬ mdA = 0 → ¬ mdA_2 = 0) ∧ (mdA_2 = 0 ∨ zTab cr0_ inn0_ k10_ k20_ wyA_2 pc_A_2 f1A_2 f2A_2 f5A_2 n4A_2) ∧ bWays T wb_ laB_2 mdB_2 wyB_2 pc_B_2 f1B_2 f2B_2 f3B_2 f4B_2 f5B_2 f6B_2 n4B_2 wwB_2 ∧ (mdB_2 = 0 ∨ laB_2 = l1) ∧ (0 ≤ wyB_2.toInt ∧ wyB_2.toInt ≤ 16384) ∧ n4B_2 = zNA (i1.toInt = 1 ∧ 1 < (fk 0).toInt ∧ 0 ≤ a_.toInt ∧ a_.toInt < cr1_.toInt ∧ a_.toInt < 7) mdB n4B (zPl cr1_ inn1_ k11_) ∧ zPw n4B_2 ∧ (¬ mdB = 0 → ¬ mdB_2 = 0) ∧ (mdB_2 = 0 ∨ zTab cr1_ inn1_ k11_ k21_ wyB_2 pc_B_2 f1B_2 f2B_2 f5B_2 n4B_2)) := by
  refine zMi_of (own := RX11) (by decide) rfl (Nat.le_of_ble_eq_true rfl) ?_
  intro p e s m args below meth c A ls C hr hlocks hnm hAe G hl
  refine zHide (fun Qz_ hQz_ => ?_)
  have hx := C.1
  have hb := C.2.1
  replace hmdA : zHd (mdA = 0 ∨ laA = l0) := hmdA
  replace hTbA : zHd (mdA = 0 ∨ zTab cr0_ inn0_ k10_ k20_ wyA pc_A f1A f2A f5A n4A) := hTbA
  replace hmdB : zHd (mdB = 0 ∨ laB = l1) := hmdB
  replace hTbB : zHd (mdB = 0 ∨ zTab cr1_ inn1_ k11_ k21_ wyB pc_B f1B f2B f5B n4B) := hTbB
  have hl : lv_has ls 8 [(0, .ref xo), (1, .int i1), (2, .int a_)] := hl
  refine lv_aload_n hx hb dX11_back_0 rfl (lv_at hl 0 rfl) ?_
  refine z_get C G clX11 0 rfl 0 (by decide) m_fl_RX11_10 rfl dX11_back_1 ?_
  refine lv_iload_n hx hb dX11_back_4 rfl (lv_at hl 1 rfl) ?_
  refine z_Vq (bc := [wt]) (br := [[zO10 xo t im mk rd po co tr wa wb_ fi cd], z0_, z1_, wwA, wwB]) (As := [.int i1]) (rest := []) C G (c_landAt l T t l0 l1 d0 d1 g0 g1 ln fl pl ft fk wt i1 ht) (kV_RX11_121 C.2.2.2.2 (Nat.le_of_ble_eq_true rfl) (Nat.le_of_ble_eq_true rfl)) [1] [1] rfl rfl (ci := 8) (qc := (RX9, TX9, 8)) rfl rfl (List.mem_flatten.mpr ⟨_, List.mem_of_getElem? (i := 0) rfl, (bTold_mem ht).choose_spec⟩) rfl rfl hl.1 dX11_back_5 (Nat.le_of_ble_eq_true rfl) (by show _ + 0 ≤ 6 * (zNA (i1.toInt = 0 ∧ 0 < (fk 0).toInt ∧ 0 ≤ a_.toInt ∧ a_.toInt < cr0_.toInt ∧ a_.toInt < 7) mdA n4A (zPl cr0_ inn0_ k10_) - n4A) + 6 * (zNA (i1.toInt = 1 ∧ 1 < (fk 0).toInt ∧ 0 ≤ a_.toInt ∧ a_.toInt < cr1_.toInt ∧ a_.toInt < 7) mdB n4B (zPl cr1_ inn1_ k11_) - n4B); omega) (fun r_2 b1 H locs hw G => ?_)
  refine zAn2 hw ?_
  intro hbs9 hc_1
  clear hw
  subst hbs9
  have G : zS T A s.heap s [[zO10 xo t im mk rd po co tr wa wb_ fi cd], z0_, z1_, wwA, wwB, wt] _ _ := G
  rcases hc_1 with ⟨rfl, h_3⟩ | ⟨rfl, h_4, h_5⟩ | ⟨rfl, h_6, h_7⟩
  · have h_3 : (i1.toInt < 0 ∨ (fk 0).toInt ≤ i1.toInt ∨ 2 ≤ i1.toInt) := h_3
    refine lv_astore_nN (lv' := [(3, .null), (0, .ref xo), (1, .int i1), (2, .int a_)]) hx hb dX11_back_8 rfl hl (by decide) (zLvf_h rfl) (fun ls hl => ?_)
    refine lv_aload_nN hx hb dX11_back_9 rfl (lv_at hl 0 rfl) ?_
    refine lv_ifnullN (tgt := 21) hx hb dX11_back_10 (by decide) ?_
    refine lv_iconst (v := (-1)) hx hb dX11_back_21 (by decide) ?_
    have G := G.sub (bs' := [[zO10 xo t im mk rd po co tr wa wb_ fi cd], wt, z0_, z1_, wwA, wwB]) [0, 5, 1, 2, 3, 4] rfl
    exact z_back hQz_ (z_iret C hr hlocks G (Nat.le_of_ble_eq_true rfl) (by omega) dX11_back_22 ⟨laA, mdA, wyA, pc_A, f1A, f2A, f3A, f4A, f5A, f6A, n4A, wwA, laB, mdB, wyB, pc_B, f1B, f2B, f3B, f4B, f5B, f6B, n4B, wwB, rfl, hwwA, hmdA, hwmA, (by first | exact hNAo.symm | exact (zNA_n (by first | omega | grind)).symm), hpwA, (fun q => q), hTbA, hwwB, hmdB, hwmB, (by first | exact hNAo.symm | exact (zNA_n (by first | omega | grind)).symm), hpwB, (fun q => q), hTbB⟩)
  · have h_4 : i1.toInt = 0 := h_4
    have h_5 : 0 < (fk 0).toInt := h_5
    refine lv_astore_n (lv' := [(3, .ref l0), (0, .ref xo), (1, .int i1), (2, .int a_)]) hx hb dX11_back_8 rfl hl (by decide) (zLvf_h rfl) (fun ls hl => ?_)
    refine lv_aload_n hx hb dX11_back_9 rfl (lv_at hl 0 rfl) ?_
    refine lv_ifnull hx hb dX11_back_10 ?_
    refine lv_aload_n hx hb dX11_back_13 rfl (lv_at hl 0 rfl) ?_
    refine lv_iload_n hx hb dX11_back_14 rfl (lv_at hl 3 rfl) ?_
    refine z_Vi (bc := [z0_]) (br := [[zO10 xo t im mk rd po co tr wa wb_ fi cd], z1_, wwA, wwB, wt]) (As := [.int a_]) (rest := []) C G (c_has l T l0 cr0_ inn0_ k10_ k20_ k30_ k40_ z0_ a_ hz0_) (kV_RX11_160 C.2.2.2.2 (Nat.le_of_ble_eq_true rfl) (Nat.le_of_ble_eq_true rfl)) [1] [1] rfl rfl (ci := 4) (qc := (RX4, TX4, 6)) rfl rfl (List.mem_flatten.mpr ⟨_, List.mem_of_getElem? (i := 0) rfl, (bLand_mem hz0_).choose_spec⟩) rfl rfl hl.1 dX11_back_15 (Nat.le_of_ble_eq_true rfl) (by show _ + 0 ≤ 6 * (zNA (i1.toInt = 0 ∧ 0 < (fk 0).toInt ∧ 0 ≤ a_.toInt ∧ a_.toInt < cr0_.toInt ∧ a_.toInt < 7) mdA n4A (zPl cr0_ inn0_ k10_) - n4A) + 6 * (zNA (i1.toInt = 1 ∧ 1 < (fk 0).toInt ∧ 0 ≤ a_.toInt ∧ a_.toInt < cr1_.toInt ∧ a_.toInt < 7) mdB n4B (zPl cr1_ inn1_ k11_) - n4B); omega) (fun r_9 b1 H locs hw G => ?_)
    refine zAn2 hw ?_
    intro hbs9 hc_8
    clear hw
    subst hbs9
    have G : zS T A s.heap s [[zO10 xo t im mk rd po co tr wa wb_ fi cd], z1_, wwA, wwB, wt, z0_] _ _ := G
    rcases hc_8 with ⟨rfl, h_10, h_11, h_12⟩ | ⟨rfl, h_13⟩
    · have h_10 : 0 ≤ a_.toInt := h_10
      have h_11 : a_.toInt < cr0_.toInt := h_11
      have h_12 : a_.toInt < 7 := h_12
      refine lv_if_ne (tgt := 23) hx hb dX11_back_18 (by decide) (fun _ => ?_) (fun q => absurd q (by decide))
      refine lv_aload_n hx hb dX11_back_23 rfl (lv_at hl 1 rfl) ?_
      refine lv_iload_n hx hb dX11_back_24 rfl (lv_at hl 2 rfl) ?_
      refine lv_aload_n hx hb dX11_back_25 rfl (lv_at hl 0 rfl) ?_
      have hNAm : zNA (i1.toInt = 0 ∧ 0 < (fk 0).toInt ∧ 0 ≤ a_.toInt ∧ a_.toInt < cr0_.toInt ∧ a_.toInt < 7) mdA n4A (zPl cr0_ inn0_ k10_) = zMk mdA n4A (zPl cr0_ inn0_ k10_) := zNA_y (by first | omega | (repeat' (first | omega | assumption | constructor)))
      have hNAo : zNA (i1.toInt = 1 ∧ 1 < (fk 0).toInt ∧ 0 ≤ a_.toInt ∧ a_.toInt < cr1_.toInt ∧ a_.toInt < 7) mdB n4B (zPl cr1_ inn1_ k11_) = n4B := zNA_n (by omega)
      have hn9 : zMk mdA n4A (zPl cr0_ inn0_ k10_) ≤ 131072 := zPw_le (zMk_pw hpwA)
      refine z_Vq (bc := [[zO10 xo t im mk rd po co tr wa wb_ fi cd], wwA, z0_]) (br := [z1_, wwB, wt]) (As := [.int i1, .ref l0]) (rest := []) C G (c_f_waysInA l T xo t im mk rd po co tr wa wb_ fi cd i1 laA mdA wyA pc_A f1A f2A f3A f4A f5A f6A n4A wwA l0 cr0_ inn0_ k10_ k20_ k30_ k40_ z0_ hwwA hz0_ hI0_ hpwA hmdA (kaOk hI0_ hLq0).1 hTbA (by omega)) (kV_RX11_235 C.2.2.2.2 (Nat.le_of_ble_eq_true rfl) (Nat.le_of_ble_eq_true rfl)) [0, 2, 5] [0, 1, 2] rfl rfl (ci := 10) (qc := (RX11, TX11, 11)) rfl rfl (List.mem_flatten.mpr ⟨_, List.mem_of_getElem? (i := 0) rfl, List.mem_cons_self⟩) rfl rfl hl.1 dX11_back_26 (Nat.le_of_ble_eq_true rfl) (by show _ + (6 * (zMk mdA n4A (zPl cr0_ inn0_ k10_) - n4A)) ≤ 6 * (zNA (i1.toInt = 0 ∧ 0 < (fk 0).toInt ∧ 0 ≤ a_.toInt ∧ a_.toInt < cr0_.toInt ∧ a_.toInt < 7) mdA n4A (zPl cr0_ inn0_ k10_) - n4A) + 6 * (zNA (i1.toInt = 1 ∧ 1 < (fk 0).toInt ∧ 0 ≤ a_.toInt ∧ a_.toInt < cr1_.toInt ∧ a_.toInt < 7) mdB n4B (zPl cr1_ inn1_ k11_) - n4B); omega) (fun r_28 b1 H locs hw G => ?_)
      refine zEx9 hw ?_
      intro w2_14 m2_15 wy2_16 pc2_17 g1_18 g2_19 g4_20 g5_21 g6_22
      refine zCu6 ?_
      intro hbs9 h_23 h_24 h_25 h_26 h_27
      clear hw
      subst hbs9
      have G : zS T A s.heap s [z1_, wwB, wt, [zO10 xo t im mk rd po co tr wa wb_ fi cd], w2_14, z0_] _ _ := G
      subst h_23
      have hwy9 : 0 ≤ wy2_16.toInt ∧ wy2_16.toInt ≤ 16384 := by have q9 := zWy_in (inn := inn0_) hI0_; rw [h_25]; exact ⟨by omega, q9.2⟩
      have hp79 : aPr (aW cr0_ inn0_ k10_) 7 ≤ 16384 := aPr_7 hI0_
      have hwN9 : wy2_16 = nI (aPr (aW cr0_ inn0_ k10_) 7) := h_25.trans (zWy_z hI0_)
      have hwT9 : wy2_16.toInt = ((aPr (aW cr0_ inn0_ k10_) 7 : Nat) : Int) := by rw [hwN9, nI_toInt (by omega)]
      have hOk9 := (kaOk (inn := inn0_) hI0_ hLq0).1
      have hc79 := hI0_.1
      refine lv_astore (lv' := [(4, .ref wa), (3, .ref l0), (0, .ref xo), (1, .int i1), (2, .int a_)]) hx hb dX11_back_29 hl (by decide) (zLvf_h rfl) (fun ls hl => ?_)
      refine lv_aload hx hb dX11_back_31 (lv_at hl 0 rfl) ?_
      refine z_Vi (bc := [w2_14, z0_]) (br := [z1_, wwB, wt, [zO10 xo t im mk rd po co tr wa wb_ fi cd]]) (As := []) (rest := []) C G (c_wayTold l T wa l0 m2_15 wy2_16 pc2_17 g1_18 g2_19 f3A g4_20 g5_21 g6_22 (zMk mdA n4A (zPl cr0_ inn0_ k10_)) w2_14 cr0_ inn0_ k10_ k20_ k30_ k40_ z0_ h_24 hz0_ (by first | with_reducible assumption | with_reducible rfl | omega | assumption | rfl)) (kV_RX11_242 C.2.2.2.2 (Nat.le_of_ble_eq_true rfl) (Nat.le_of_ble_eq_true rfl)) [4, 5] [4, 0] rfl rfl (ci := 0) (qc := (RX0, TX0, 10)) rfl rfl (List.mem_flatten.mpr ⟨_, List.mem_of_getElem? (i := 0) rfl, (bWays_mem h_24).choose_spec⟩) rfl rfl hl.1 dX11_back_33 (Nat.le_of_ble_eq_true rfl) (by show _ + 0 ≤ 6 * (zNA (i1.toInt = 0 ∧ 0 < (fk 0).toInt ∧ 0 ≤ a_.toInt ∧ a_.toInt < cr0_.toInt ∧ a_.toInt < 7) mdA n4A (zPl cr0_ inn0_ k10_) - n4A) + 6 * (zNA (i1.toInt = 1 ∧ 1 < (fk 0).toInt ∧ 0 ≤ a_.toInt ∧ a_.toInt < cr1_.toInt ∧ a_.toInt < 7) mdB n4B (zPl cr1_ inn1_ k11_) - n4B); omega) (fun r_29 b1 H locs hw G => ?_)
      obtain rfl := hw
      have G : zS T A s.heap s [z1_, wwB, wt, [zO10 xo t im mk rd po co tr wa wb_ fi cd], w2_14, z0_] _ _ := G
      refine lv_istore (lv' := [(5, .int r_29), (4, .ref wa), (3, .ref l0), (0, .ref xo), (1, .int i1), (2, .int a_)]) hx hb dX11_back_36 hl (by decide) (zLvf_h rfl) (fun ls hl => ?_)
      refine lv_iconst (v := 0) hx hb dX11_back_38 (by decide) ?_
      refine lv_istore (lv' := [(6, .int 0), (5, .int r_29), (4, .ref wa), (3, .ref l0), (0, .ref xo), (1, .int i1), (2, .int a_)]) hx hb dX11_back_39 hl (by decide) (zLvf_h rfl) (fun ls hl => ?_)
      refine lv_iconst (v := 0) hx hb dX11_back_41 (by decide) ?_
      refine lv_istore (lv' := [(7, .int 0), (6, .int 0), (5, .int r_29), (4, .ref wa), (3, .ref l0), (0, .ref xo), (1, .int i1), (2, .int a_)]) hx hb dX11_back_42 hl (by decide) (zLvf_h rfl) (fun ls hl => ?_)
      refine zEx6 h_24 ?_
      intro a1_30 a2_31 a3_32 a4_33 a5_34 a6_35 hbs9
      clear h_24
      subst hbs9
      have G : zS T A s.heap s [z1_, wwB, wt, [zO10 xo t im mk rd po co tr wa wb_ fi cd], [zO0 wa m2_15 wy2_16 l0 pc2_17 a1_30 a2_31 a3_32 a4_33 a5_34 a6_35], [zAr T 0 a1_30 7 g1_18], [zAr T 0 a2_31 7 g2_19], [zAr T 0 a3_32 7 f3A], [zAr T 0 a4_33 (zMk mdA n4A (zPl cr0_ inn0_ k10_)) g4_20], [zAr T 0 a5_34 (zMk mdA n4A (zPl cr0_ inn0_ k10_)) g5_21], [zAr T 0 a6_35 (zMk mdA n4A (zPl cr0_ inn0_ k10_)) g6_22], z0_] _ _ := G.re rfl
      have hw_36 : bWays T wa l0 m2_15 wy2_16 pc2_17 g1_18 g2_19 f3A g4_20 g5_21 g6_22 (zMk mdA n4A (zPl cr0_ inn0_ k10_)) [zO0 wa m2_15 wy2_16 l0 pc2_17 a1_30 a2_31 a3_32 a4_33 a5_34 a6_35, zAr T 0 a1_30 7 g1_18, zAr T 0 a2_31 7 g2_19, zAr T 0 a3_32 7 f3A, zAr T 0 a4_33 (zMk mdA n4A (zPl cr0_ inn0_ k10_)) g4_20, zAr T 0 a5_34 (zMk mdA n4A (zPl cr0_ inn0_ k10_)) g5_21, zAr T 0 a6_35 (zMk mdA n4A (zPl cr0_ inn0_ k10_)) g6_22] := ⟨a1_30, a2_31, a3_32, a4_33, a5_34, a6_35, rfl⟩
      have G : zS T A s.heap s [z1_, wwB, wt, [zO10 xo t im mk rd po co tr wa wb_ fi cd], [zO0 wa m2_15 wy2_16 l0 pc2_17 a1_30 a2_31 a3_32 a4_33 a5_34 a6_35, zAr T 0 a1_30 7 g1_18, zAr T 0 a2_31 7 g2_19, zAr T 0 a3_32 7 f3A, zAr T 0 a4_33 (zMk mdA n4A (zPl cr0_ inn0_ k10_)) g4_20, zAr T 0 a5_34 (zMk mdA n4A (zPl cr0_ inn0_ k10_)) g5_21, zAr T 0 a6_35 (zMk mdA n4A (zPl cr0_ inn0_ k10_)) g6_22], z0_] _ _ := G.re rfl
      refine z_lp2 (T := T) 44 (fun (i : Nat) (u6 : Int32) => [z1_, wwB, wt, [zO10 xo t im mk rd po co tr wa wb_ fi cd], [zO0 wa m2_15 wy2_16 l0 pc2_17 a1_30 a2_31 a3_32 a4_33 a5_34 a6_35, zAr T 0 a1_30 7 g1_18, zAr T 0 a2_31 7 g2_19, zAr T 0 a3_32 7 f3A, zAr T 0 a4_33 (zMk mdA n4A (zPl cr0_ inn0_ k10_)) g4_20, zAr T 0 a5_34 (zMk mdA n4A (zPl cr0_ inn0_ k10_)) g5_21, zAr T 0 a6_35 (zMk mdA n4A (zPl cr0_ inn0_ k10_)) g6_22], z0_]) (fun (i : Nat) (u6 : Int32) => [(7, .int (nI i)), (6, .int u6), (5, .int r_29), (4, .ref wa), (3, .ref l0), (0, .ref xo), (1, .int i1), (2, .int a_)]) (fun (i : Nat) (u6 : Int32) => i ≤ aPr (aW cr0_ inn0_ k10_) 7) (fun (i : Nat) (u6 : Int32) => aPr (aW cr0_ inn0_ k10_) 7 - i) ?_ 0 0 (show 0 ≤ aPr (aW cr0_ inn0_ k10_) 7 from (Nat.zero_le _)) G (lv_sub hl [0, 1, 2, 3, 4, 5, 6, 7] rfl)
      intro i u6 hi ih_44 H locs ls G hl
      replace hi : i ≤ aPr (aW cr0_ inn0_ k10_) 7 := hi
      replace G : zS T A s.heap s [z1_, wwB, wt, [zO10 xo t im mk rd po co tr wa wb_ fi cd], [zO0 wa m2_15 wy2_16 l0 pc2_17 a1_30 a2_31 a3_32 a4_33 a5_34 a6_35, zAr T 0 a1_30 7 g1_18, zAr T 0 a2_31 7 g2_19, zAr T 0 a3_32 7 f3A, zAr T 0 a4_33 (zMk mdA n4A (zPl cr0_ inn0_ k10_)) g4_20, zAr T 0 a5_34 (zMk mdA n4A (zPl cr0_ inn0_ k10_)) g5_21, zAr T 0 a6_35 (zMk mdA n4A (zPl cr0_ inn0_ k10_)) g6_22], z0_] _ _ := G
      replace hl : lv_has ls 8 [(7, .int (nI i)), (6, .int u6), (5, .int r_29), (4, .ref wa), (3, .ref l0), (0, .ref xo), (1, .int i1), (2, .int a_)] := hl
      refine lv_iload hx hb dX11_back_44 (lv_at hl 0 rfl) ?_
      refine lv_aload hx hb dX11_back_46 (lv_at hl 3 rfl) ?_
      have G : zS T A s.heap s [z1_, wwB, wt, [zO10 xo t im mk rd po co tr wa wb_ fi cd], [zO0 wa m2_15 wy2_16 l0 pc2_17 a1_30 a2_31 a3_32 a4_33 a5_34 a6_35], [zAr T 0 a1_30 7 g1_18], [zAr T 0 a2_31 7 g2_19], [zAr T 0 a3_32 7 f3A], [zAr T 0 a4_33 (zMk mdA n4A (zPl cr0_ inn0_ k10_)) g4_20], [zAr T 0 a5_34 (zMk mdA n4A (zPl cr0_ inn0_ k10_)) g5_21], [zAr T 0 a6_35 (zMk mdA n4A (zPl cr0_ inn0_ k10_)) g6_22], z0_] _ _ := G.re rfl
      refine z_get C G clX0 4 rfl 1 (by decide) m_fl_RX11_257 rfl dX11_back_48 ?_
      refine lv_icmp_ge (tgt := 76) hx hb dX11_back_51 (by decide) (fun c_37 => ?_) (fun c_37 => ?_)
      · have c_37n : wy2_16.toInt ≤ (i : Int) := by have q := (fa_le _ _).mp c_37; rw [nI_toInt (n := i) (by omega)] at q; exact q
        refine lv_iload hx hb dX11_back_76 (lv_at hl 1 rfl) ?_
        have hw_38 : bWays T wa l0 m2_15 wy2_16 pc2_17 g1_18 g2_19 f3A g4_20 g5_21 g6_22 (zMk mdA n4A (zPl cr0_ inn0_ k10_)) [zO0 wa m2_15 wy2_16 l0 pc2_17 a1_30 a2_31 a3_32 a4_33 a5_34 a6_35, zAr T 0 a1_30 7 g1_18, zAr T 0 a2_31 7 g2_19, zAr T 0 a3_32 7 f3A, zAr T 0 a4_33 (zMk mdA n4A (zPl cr0_ inn0_ k10_)) g4_20, zAr T 0 a5_34 (zMk mdA n4A (zPl cr0_ inn0_ k10_)) g5_21, zAr T 0 a6_35 (zMk mdA n4A (zPl cr0_ inn0_ k10_)) g6_22] := ⟨a1_30, a2_31, a3_32, a4_33, a5_34, a6_35, rfl⟩
        have G : zS T A s.heap s [z1_, wwB, wt, [zO10 xo t im mk rd po co tr wa wb_ fi cd], [zO0 wa m2_15 wy2_16 l0 pc2_17 a1_30 a2_31 a3_32 a4_33 a5_34 a6_35, zAr T 0 a1_30 7 g1_18, zAr T 0 a2_31 7 g2_19, zAr T 0 a3_32 7 f3A, zAr T 0 a4_33 (zMk mdA n4A (zPl cr0_ inn0_ k10_)) g4_20, zAr T 0 a5_34 (zMk mdA n4A (zPl cr0_ inn0_ k10_)) g5_21, zAr T 0 a6_35 (zMk mdA n4A (zPl cr0_ inn0_ k10_)) g6_22], z0_] _ _ := G.re rfl
        have G := G.sub (bs' := [[zO10 xo t im mk rd po co tr wa wb_ fi cd], wt, z0_, z1_, [zO0 wa m2_15 wy2_16 l0 pc2_17 a1_30 a2_31 a3_32 a4_33 a5_34 a6_35, zAr T 0 a1_30 7 g1_18, zAr T 0 a2_31 7 g2_19, zAr T 0 a3_32 7 f3A, zAr T 0 a4_33 (zMk mdA n4A (zPl cr0_ inn0_ k10_)) g4_20, zAr T 0 a5_34 (zMk mdA n4A (zPl cr0_ inn0_ k10_)) g5_21, zAr T 0 a6_35 (zMk mdA n4A (zPl cr0_ inn0_ k10_)) g6_22], wwB]) [3, 2, 5, 0, 4, 1] rfl
        exact z_back hQz_ (z_iret C hr hlocks G (Nat.le_of_ble_eq_true rfl) (by omega) dX11_back_78 ⟨l0, m2_15, wy2_16, pc2_17, g1_18, g2_19, f3A, g4_20, g5_21, g6_22, (zMk mdA n4A (zPl cr0_ inn0_ k10_)), ([zO0 wa m2_15 wy2_16 l0 pc2_17 a1_30 a2_31 a3_32 a4_33 a5_34 a6_35, zAr T 0 a1_30 7 g1_18, zAr T 0 a2_31 7 g2_19, zAr T 0 a3_32 7 f3A, zAr T 0 a4_33 (zMk mdA n4A (zPl cr0_ inn0_ k10_)) g4_20, zAr T 0 a5_34 (zMk mdA n4A (zPl cr0_ inn0_ k10_)) g5_21, zAr T 0 a6_35 (zMk mdA n4A (zPl cr0_ inn0_ k10_)) g6_22]), laB, mdB, wyB, pc_B, f1B, f2B, f3B, f4B, f5B, f6B, n4B, wwB, rfl, hw_38, (Or.inr rfl), hwy9, hNAm.symm, (zMk_pw hpwA), (fun _ => h_26), (Or.inr h_27), hwwB, hmdB, hwmB, (by first | exact hNAo.symm | exact (zNA_n (by first | omega | grind)).symm), hpwB, (fun q => q), hTbB⟩)
      · have c_37n : ¬ wy2_16.toInt ≤ (i : Int) := fun q => c_37 ((fa_le _ _).mpr (by rw [nI_toInt (n := i) (by omega)]; exact q))
        refine lv_aload hx hb dX11_back_54 (lv_at hl 3 rfl) ?_
        refine lv_iload hx hb dX11_back_56 (lv_at hl 0 rfl) ?_
        refine lv_iload_n hx hb dX11_back_58 rfl (lv_at hl 7 rfl) ?_
        have hw_39 : bWays T wa l0 m2_15 wy2_16 pc2_17 g1_18 g2_19 f3A g4_20 g5_21 g6_22 (zMk mdA n4A (zPl cr0_ inn0_ k10_)) [zO0 wa m2_15 wy2_16 l0 pc2_17 a1_30 a2_31 a3_32 a4_33 a5_34 a6_35, zAr T 0 a1_30 7 g1_18, zAr T 0 a2_31 7 g2_19, zAr T 0 a3_32 7 f3A, zAr T 0 a4_33 (zMk mdA n4A (zPl cr0_ inn0_ k10_)) g4_20, zAr T 0 a5_34 (zMk mdA n4A (zPl cr0_ inn0_ k10_)) g5_21, zAr T 0 a6_35 (zMk mdA n4A (zPl cr0_ inn0_ k10_)) g6_22] := ⟨a1_30, a2_31, a3_32, a4_33, a5_34, a6_35, rfl⟩
        have G : zS T A s.heap s [z1_, wwB, wt, [zO10 xo t im mk rd po co tr wa wb_ fi cd], [zO0 wa m2_15 wy2_16 l0 pc2_17 a1_30 a2_31 a3_32 a4_33 a5_34 a6_35, zAr T 0 a1_30 7 g1_18, zAr T 0 a2_31 7 g2_19, zAr T 0 a3_32 7 f3A, zAr T 0 a4_33 (zMk mdA n4A (zPl cr0_ inn0_ k10_)) g4_20, zAr T 0 a5_34 (zMk mdA n4A (zPl cr0_ inn0_ k10_)) g5_21, zAr T 0 a6_35 (zMk mdA n4A (zPl cr0_ inn0_ k10_)) g6_22], z0_] _ _ := G.re rfl
        refine z_Vi (bc := [[zO0 wa m2_15 wy2_16 l0 pc2_17 a1_30 a2_31 a3_32 a4_33 a5_34 a6_35, zAr T 0 a1_30 7 g1_18, zAr T 0 a2_31 7 g2_19, zAr T 0 a3_32 7 f3A, zAr T 0 a4_33 (zMk mdA n4A (zPl cr0_ inn0_ k10_)) g4_20, zAr T 0 a5_34 (zMk mdA n4A (zPl cr0_ inn0_ k10_)) g5_21, zAr T 0 a6_35 (zMk mdA n4A (zPl cr0_ inn0_ k10_)) g6_22]]) (br := [z1_, wwB, wt, [zO10 xo t im mk rd po co tr wa wb_ fi cd], z0_]) (As := [.int (nI i), .int a_]) (rest := []) C G (c_wayAfter l T wa l0 m2_15 wy2_16 pc2_17 g1_18 g2_19 f3A g4_20 g5_21 g6_22 (zMk mdA n4A (zPl cr0_ inn0_ k10_)) ([zO0 wa m2_15 wy2_16 l0 pc2_17 a1_30 a2_31 a3_32 a4_33 a5_34 a6_35, zAr T 0 a1_30 7 g1_18, zAr T 0 a2_31 7 g2_19, zAr T 0 a3_32 7 f3A, zAr T 0 a4_33 (zMk mdA n4A (zPl cr0_ inn0_ k10_)) g4_20, zAr T 0 a5_34 (zMk mdA n4A (zPl cr0_ inn0_ k10_)) g5_21, zAr T 0 a6_35 (zMk mdA n4A (zPl cr0_ inn0_ k10_)) g6_22]) (nI i) a_ hw_39 (by first | with_reducible assumption | with_reducible rfl | omega | assumption | rfl)) (kV_RX11_275 C.2.2.2.2 (Nat.le_of_ble_eq_true rfl) (Nat.le_of_ble_eq_true rfl)) [4] [4] rfl rfl (ci := 0) (qc := (RX0, TX0, 10)) rfl rfl (List.mem_flatten.mpr ⟨_, List.mem_of_getElem? (i := 0) rfl, (bWays_mem hw_39).choose_spec⟩) rfl rfl hl.1 dX11_back_59 (Nat.le_of_ble_eq_true rfl) (by show _ + 0 ≤ 6 * (zNA (i1.toInt = 0 ∧ 0 < (fk 0).toInt ∧ 0 ≤ a_.toInt ∧ a_.toInt < cr0_.toInt ∧ a_.toInt < 7) mdA n4A (zPl cr0_ inn0_ k10_) - n4A) + 6 * (zNA (i1.toInt = 1 ∧ 1 < (fk 0).toInt ∧ 0 ≤ a_.toInt ∧ a_.toInt < cr1_.toInt ∧ a_.toInt < 7) mdB n4B (zPl cr1_ inn1_ k11_) - n4B); omega) (fun r_41 b1 H locs hw G => ?_)
        refine zAn2 hw ?_
        intro hbs9 h_40
        clear hw
        subst hbs9
        have G : zS T A s.heap s [z1_, wwB, wt, [zO10 xo t im mk rd po co tr wa wb_ fi cd], z0_, [zO0 wa m2_15 wy2_16 l0 pc2_17 a1_30 a2_31 a3_32 a4_33 a5_34 a6_35, zAr T 0 a1_30 7 g1_18, zAr T 0 a2_31 7 g2_19, zAr T 0 a3_32 7 f3A, zAr T 0 a4_33 (zMk mdA n4A (zPl cr0_ inn0_ k10_)) g4_20, zAr T 0 a5_34 (zMk mdA n4A (zPl cr0_ inn0_ k10_)) g5_21, zAr T 0 a6_35 (zMk mdA n4A (zPl cr0_ inn0_ k10_)) g6_22]] _ _ := G
        subst h_40
        refine lv_iload hx hb dX11_back_62 (lv_at hl 2 rfl) ?_
        refine lv_icmp_ne (tgt := 70) hx hb dX11_back_64 (by decide) (fun c_42 => ?_) (fun c_42 => ?_)
        · have c_42n : ¬ ((zEntry g5_21 (zMk mdA n4A (zPl cr0_ inn0_ k10_)) (nI i) a_ &&& 131071) >>> (3 &&& 31)).toInt = r_29.toInt := fun q => c_42 ((fa_eq _ _).mpr q)
          refine lv_iinc (v := nI (i + 1)) (lv' := [(7, .int (nI (i + 1))), (6, .int u6), (5, .int r_29), (4, .ref wa), (3, .ref l0), (0, .ref xo), (1, .int i1), (2, .int a_)]) hx hb dX11_back_70 hl (k := 0) rfl (z_inc i 1) (by decide) (zLvf_h rfl) (fun ls hl => ?_)
          refine lv_goto (tgt := 44) hx hb dX11_back_73 (by decide) ?_
          have G := G.sub (bs' := [z1_, wwB, wt, [zO10 xo t im mk rd po co tr wa wb_ fi cd], [zO0 wa m2_15 wy2_16 l0 pc2_17 a1_30 a2_31 a3_32 a4_33 a5_34 a6_35, zAr T 0 a1_30 7 g1_18, zAr T 0 a2_31 7 g2_19, zAr T 0 a3_32 7 f3A, zAr T 0 a4_33 (zMk mdA n4A (zPl cr0_ inn0_ k10_)) g4_20, zAr T 0 a5_34 (zMk mdA n4A (zPl cr0_ inn0_ k10_)) g5_21, zAr T 0 a6_35 (zMk mdA n4A (zPl cr0_ inn0_ k10_)) g6_22], z0_]) [0, 1, 2, 3, 5, 4] rfl
          exact ih_44 (i + 1) u6 (show (i + 1) ≤ aPr (aW cr0_ inn0_ k10_) 7 from (by omega)) (show aPr (aW cr0_ inn0_ k10_) 7 - (i + 1) < aPr (aW cr0_ inn0_ k10_) 7 - i from by omega) _ _ ls G (lv_sub hl [0, 1, 2, 3, 4, 5, 6, 7] rfl)
        · have c_42n : ((zEntry g5_21 (zMk mdA n4A (zPl cr0_ inn0_ k10_)) (nI i) a_ &&& 131071) >>> (3 &&& 31)).toInt = r_29.toInt := (fa_eq _ _).mp c_42
          refine lv_iinc (v := u6 + 1) (lv' := [(6, .int (u6 + 1)), (7, .int (nI i)), (5, .int r_29), (4, .ref wa), (3, .ref l0), (0, .ref xo), (1, .int i1), (2, .int a_)]) hx hb dX11_back_67 hl (k := 1) rfl rfl (by decide) (zLvf_h rfl) (fun ls hl => ?_)
          refine lv_iinc (v := nI (i + 1)) (lv' := [(7, .int (nI (i + 1))), (6, .int (u6 + 1)), (5, .int r_29), (4, .ref wa), (3, .ref l0), (0, .ref xo), (1, .int i1), (2, .int a_)]) hx hb dX11_back_70 hl (k := 1) rfl (z_inc i 1) (by decide) (zLvf_h rfl) (fun ls hl => ?_)
          refine lv_goto (tgt := 44) hx hb dX11_back_73 (by decide) ?_
          have G := G.sub (bs' := [z1_, wwB, wt, [zO10 xo t im mk rd po co tr wa wb_ fi cd], [zO0 wa m2_15 wy2_16 l0 pc2_17 a1_30 a2_31 a3_32 a4_33 a5_34 a6_35, zAr T 0 a1_30 7 g1_18, zAr T 0 a2_31 7 g2_19, zAr T 0 a3_32 7 f3A, zAr T 0 a4_33 (zMk mdA n4A (zPl cr0_ inn0_ k10_)) g4_20, zAr T 0 a5_34 (zMk mdA n4A (zPl cr0_ inn0_ k10_)) g5_21, zAr T 0 a6_35 (zMk mdA n4A (zPl cr0_ inn0_ k10_)) g6_22], z0_]) [0, 1, 2, 3, 5, 4] rfl
          exact ih_44 (i + 1) (u6 + 1) (show (i + 1) ≤ aPr (aW cr0_ inn0_ k10_) 7 from (by omega)) (show aPr (aW cr0_ inn0_ k10_) 7 - (i + 1) < aPr (aW cr0_ inn0_ k10_) 7 - i from by omega) _ _ ls G (lv_sub hl [0, 1, 2, 3, 4, 5, 6, 7] rfl)
    · have h_13 : (a_.toInt < 0 ∨ cr0_.toInt ≤ a_.toInt ∨ 7 ≤ a_.toInt) := h_13
      refine lv_if_ne (tgt := 23) hx hb dX11_back_18 (by decide) (fun q => absurd (by decide) q) (fun _ => ?_)
      refine lv_iconst (v := (-1)) hx hb dX11_back_21 (by decide) ?_
      have G := G.sub (bs' := [[zO10 xo t im mk rd po co tr wa wb_ fi cd], wt, z0_, z1_, wwA, wwB]) [0, 4, 5, 1, 2, 3] rfl
      exact z_back hQz_ (z_iret C hr hlocks G (Nat.le_of_ble_eq_true rfl) (by omega) dX11_back_22 ⟨laA, mdA, wyA, pc_A, f1A, f2A, f3A, f4A, f5A, f6A, n4A, wwA, laB, mdB, wyB, pc_B, f1B, f2B, f3B, f4B, f5B, f6B, n4B, wwB, rfl, hwwA, hmdA, hwmA, (by first | exact hNAo.symm | exact (zNA_n (by first | omega | grind)).symm), hpwA, (fun q => q), hTbA, hwwB, hmdB, hwmB, (by first | exact hNAo.symm | exact (zNA_n (by first | omega | grind)).symm), hpwB, (fun q => q), hTbB⟩)
  · have h_6 : i1.toInt = 1 := h_6
    have h_7 : 1 < (fk 0).toInt := h_7
    refine lv_astore_n (lv' := [(3, .ref l1), (0, .ref xo), (1, .int i1), (2, .int a_)]) hx hb dX11_back_8 rfl hl (by decide) (zLvf_h rfl) (fun ls hl => ?_)
    refine lv_aload_n hx hb dX11_back_9 rfl (lv_at hl 0 rfl) ?_
    refine lv_ifnull hx hb dX11_back_10 ?_
    refine lv_aload_n hx hb dX11_back_13 rfl (lv_at hl 0 rfl) ?_
    refine lv_iload_n hx hb dX11_back_14 rfl (lv_at hl 3 rfl) ?_
    refine z_Vi (bc := [z1_]) (br := [[zO10 xo t im mk rd po co tr wa wb_ fi cd], z0_, wwA, wwB, wt]) (As := [.int a_]) (rest := []) C G (c_has l T l1 cr1_ inn1_ k11_ k21_ k31_ k41_ z1_ a_ hz1_) (kV_RX11_160 C.2.2.2.2 (Nat.le_of_ble_eq_true rfl) (Nat.le_of_ble_eq_true rfl)) [2] [2] rfl rfl (ci := 4) (qc := (RX4, TX4, 6)) rfl rfl (List.mem_flatten.mpr ⟨_, List.mem_of_getElem? (i := 0) rfl, (bLand_mem hz1_).choose_spec⟩) rfl rfl hl.1 dX11_back_15 (Nat.le_of_ble_eq_true rfl) (by show _ + 0 ≤ 6 * (zNA (i1.toInt = 0 ∧ 0 < (fk 0).toInt ∧ 0 ≤ a_.toInt ∧ a_.toInt < cr0_.toInt ∧ a_.toInt < 7) mdA n4A (zPl cr0_ inn0_ k10_) - n4A) + 6 * (zNA (i1.toInt = 1 ∧ 1 < (fk 0).toInt ∧ 0 ≤ a_.toInt ∧ a_.toInt < cr1_.toInt ∧ a_.toInt < 7) mdB n4B (zPl cr1_ inn1_ k11_) - n4B); omega) (fun r_44 b1 H locs hw G => ?_)
    refine zAn2 hw ?_
    intro hbs9 hc_43
    clear hw
    subst hbs9
    have G : zS T A s.heap s [[zO10 xo t im mk rd po co tr wa wb_ fi cd], z0_, wwA, wwB, wt, z1_] _ _ := G
    rcases hc_43 with ⟨rfl, h_45, h_46, h_47⟩ | ⟨rfl, h_48⟩
    · have h_45 : 0 ≤ a_.toInt := h_45
      have h_46 : a_.toInt < cr1_.toInt := h_46
      have h_47 : a_.toInt < 7 := h_47
      refine lv_if_ne (tgt := 23) hx hb dX11_back_18 (by decide) (fun _ => ?_) (fun q => absurd q (by decide))
      refine lv_aload_n hx hb dX11_back_23 rfl (lv_at hl 1 rfl) ?_
      refine lv_iload_n hx hb dX11_back_24 rfl (lv_at hl 2 rfl) ?_
      refine lv_aload_n hx hb dX11_back_25 rfl (lv_at hl 0 rfl) ?_
      have hNAm : zNA (i1.toInt = 1 ∧ 1 < (fk 0).toInt ∧ 0 ≤ a_.toInt ∧ a_.toInt < cr1_.toInt ∧ a_.toInt < 7) mdB n4B (zPl cr1_ inn1_ k11_) = zMk mdB n4B (zPl cr1_ inn1_ k11_) := zNA_y (by first | omega | (repeat' (first | omega | assumption | constructor)))
      have hNAo : zNA (i1.toInt = 0 ∧ 0 < (fk 0).toInt ∧ 0 ≤ a_.toInt ∧ a_.toInt < cr0_.toInt ∧ a_.toInt < 7) mdA n4A (zPl cr0_ inn0_ k10_) = n4A := zNA_n (by omega)
      have hn9 : zMk mdB n4B (zPl cr1_ inn1_ k11_) ≤ 131072 := zPw_le (zMk_pw hpwB)
      refine z_Vq (bc := [[zO10 xo t im mk rd po co tr wa wb_ fi cd], wwB, z1_]) (br := [z0_, wwA, wt]) (As := [.int i1, .ref l1]) (rest := []) C G (c_f_waysInB l T xo t im mk rd po co tr wa wb_ fi cd i1 laB mdB wyB pc_B f1B f2B f3B f4B f5B f6B n4B wwB l1 cr1_ inn1_ k11_ k21_ k31_ k41_ z1_ hwwB hz1_ hI1_ hpwB hmdB (kaOk hI1_ hLq1).1 hTbB (by omega)) (kV_RX11_235 C.2.2.2.2 (Nat.le_of_ble_eq_true rfl) (Nat.le_of_ble_eq_true rfl)) [0, 3, 5] [0, 2, 1] rfl rfl (ci := 10) (qc := (RX11, TX11, 11)) rfl rfl (List.mem_flatten.mpr ⟨_, List.mem_of_getElem? (i := 0) rfl, List.mem_cons_self⟩) rfl rfl hl.1 dX11_back_26 (Nat.le_of_ble_eq_true rfl) (by show _ + (6 * (zMk mdB n4B (zPl cr1_ inn1_ k11_) - n4B)) ≤ 6 * (zNA (i1.toInt = 0 ∧ 0 < (fk 0).toInt ∧ 0 ≤ a_.toInt ∧ a_.toInt < cr0_.toInt ∧ a_.toInt < 7) mdA n4A (zPl cr0_ inn0_ k10_) - n4A) + 6 * (zNA (i1.toInt = 1 ∧ 1 < (fk 0).toInt ∧ 0 ≤ a_.toInt ∧ a_.toInt < cr1_.toInt ∧ a_.toInt < 7) mdB n4B (zPl cr1_ inn1_ k11_) - n4B); omega) (fun r_63 b1 H locs hw G => ?_)
      refine zEx9 hw ?_
      intro w2_49 m2_50 wy2_51 pc2_52 g1_53 g2_54 g4_55 g5_56 g6_57
      refine zCu6 ?_
      intro hbs9 h_58 h_59 h_60 h_61 h_62
      clear hw
      subst hbs9
      have G : zS T A s.heap s [z0_, wwA, wt, [zO10 xo t im mk rd po co tr wa wb_ fi cd], w2_49, z1_] _ _ := G
      subst h_58
      have hwy9 : 0 ≤ wy2_51.toInt ∧ wy2_51.toInt ≤ 16384 := by have q9 := zWy_in (inn := inn1_) hI1_; rw [h_60]; exact ⟨by omega, q9.2⟩
      have hp79 : aPr (aW cr1_ inn1_ k11_) 7 ≤ 16384 := aPr_7 hI1_
      have hwN9 : wy2_51 = nI (aPr (aW cr1_ inn1_ k11_) 7) := h_60.trans (zWy_z hI1_)
      have hwT9 : wy2_51.toInt = ((aPr (aW cr1_ inn1_ k11_) 7 : Nat) : Int) := by rw [hwN9, nI_toInt (by omega)]
      have hOk9 := (kaOk (inn := inn1_) hI1_ hLq1).1
      have hc79 := hI1_.1
      refine lv_astore (lv' := [(4, .ref wb_), (3, .ref l1), (0, .ref xo), (1, .int i1), (2, .int a_)]) hx hb dX11_back_29 hl (by decide) (zLvf_h rfl) (fun ls hl => ?_)
      refine lv_aload hx hb dX11_back_31 (lv_at hl 0 rfl) ?_
      refine z_Vi (bc := [w2_49, z1_]) (br := [z0_, wwA, wt, [zO10 xo t im mk rd po co tr wa wb_ fi cd]]) (As := []) (rest := []) C G (c_wayTold l T wb_ l1 m2_50 wy2_51 pc2_52 g1_53 g2_54 f3B g4_55 g5_56 g6_57 (zMk mdB n4B (zPl cr1_ inn1_ k11_)) w2_49 cr1_ inn1_ k11_ k21_ k31_ k41_ z1_ h_59 hz1_ (by first | with_reducible assumption | with_reducible rfl | omega | assumption | rfl)) (kV_RX11_242 C.2.2.2.2 (Nat.le_of_ble_eq_true rfl) (Nat.le_of_ble_eq_true rfl)) [4, 5] [4, 0] rfl rfl (ci := 0) (qc := (RX0, TX0, 10)) rfl rfl (List.mem_flatten.mpr ⟨_, List.mem_of_getElem? (i := 0) rfl, (bWays_mem h_59).choose_spec⟩) rfl rfl hl.1 dX11_back_33 (Nat.le_of_ble_eq_true rfl) (by show _ + 0 ≤ 6 * (zNA (i1.toInt = 0 ∧ 0 < (fk 0).toInt ∧ 0 ≤ a_.toInt ∧ a_.toInt < cr0_.toInt ∧ a_.toInt < 7) mdA n4A (zPl cr0_ inn0_ k10_) - n4A) + 6 * (zNA (i1.toInt = 1 ∧ 1 < (fk 0).toInt ∧ 0 ≤ a_.toInt ∧ a_.toInt < cr1_.toInt ∧ a_.toInt < 7) mdB n4B (zPl cr1_ inn1_ k11_) - n4B); omega) (fun r_64 b1 H locs hw G => ?_)
      obtain rfl := hw
      have G : zS T A s.heap s [z0_, wwA, wt, [zO10 xo t im mk rd po co tr wa wb_ fi cd], w2_49, z1_] _ _ := G
      refine lv_istore (lv' := [(5, .int r_64), (4, .ref wb_), (3, .ref l1), (0, .ref xo), (1, .int i1), (2, .int a_)]) hx hb dX11_back_36 hl (by decide) (zLvf_h rfl) (fun ls hl => ?_)
      refine lv_iconst (v := 0) hx hb dX11_back_38 (by decide) ?_
      refine lv_istore (lv' := [(6, .int 0), (5, .int r_64), (4, .ref wb_), (3, .ref l1), (0, .ref xo), (1, .int i1), (2, .int a_)]) hx hb dX11_back_39 hl (by decide) (zLvf_h rfl) (fun ls hl => ?_)
      refine lv_iconst (v := 0) hx hb dX11_back_41 (by decide) ?_
      refine lv_istore (lv' := [(7, .int 0), (6, .int 0), (5, .int r_64), (4, .ref wb_), (3, .ref l1), (0, .ref xo), (1, .int i1), (2, .int a_)]) hx hb dX11_back_42 hl (by decide) (zLvf_h rfl) (fun ls hl => ?_)
      refine zEx6 h_59 ?_
      intro a1_65 a2_66 a3_67 a4_68 a5_69 a6_70 hbs9
      clear h_59
      subst hbs9
      have G : zS T A s.heap s [z0_, wwA, wt, [zO10 xo t im mk rd po co tr wa wb_ fi cd], [zO0 wb_ m2_50 wy2_51 l1 pc2_52 a1_65 a2_66 a3_67 a4_68 a5_69 a6_70], [zAr T 0 a1_65 7 g1_53], [zAr T 0 a2_66 7 g2_54], [zAr T 0 a3_67 7 f3B], [zAr T 0 a4_68 (zMk mdB n4B (zPl cr1_ inn1_ k11_)) g4_55], [zAr T 0 a5_69 (zMk mdB n4B (zPl cr1_ inn1_ k11_)) g5_56], [zAr T 0 a6_70 (zMk mdB n4B (zPl cr1_ inn1_ k11_)) g6_57], z1_] _ _ := G.re rfl
      have hw_71 : bWays T wb_ l1 m2_50 wy2_51 pc2_52 g1_53 g2_54 f3B g4_55 g5_56 g6_57 (zMk mdB n4B (zPl cr1_ inn1_ k11_)) [zO0 wb_ m2_50 wy2_51 l1 pc2_52 a1_65 a2_66 a3_67 a4_68 a5_69 a6_70, zAr T 0 a1_65 7 g1_53, zAr T 0 a2_66 7 g2_54, zAr T 0 a3_67 7 f3B, zAr T 0 a4_68 (zMk mdB n4B (zPl cr1_ inn1_ k11_)) g4_55, zAr T 0 a5_69 (zMk mdB n4B (zPl cr1_ inn1_ k11_)) g5_56, zAr T 0 a6_70 (zMk mdB n4B (zPl cr1_ inn1_ k11_)) g6_57] := ⟨a1_65, a2_66, a3_67, a4_68, a5_69, a6_70, rfl⟩
      have G : zS T A s.heap s [z0_, wwA, wt, [zO10 xo t im mk rd po co tr wa wb_ fi cd], [zO0 wb_ m2_50 wy2_51 l1 pc2_52 a1_65 a2_66 a3_67 a4_68 a5_69 a6_70, zAr T 0 a1_65 7 g1_53, zAr T 0 a2_66 7 g2_54, zAr T 0 a3_67 7 f3B, zAr T 0 a4_68 (zMk mdB n4B (zPl cr1_ inn1_ k11_)) g4_55, zAr T 0 a5_69 (zMk mdB n4B (zPl cr1_ inn1_ k11_)) g5_56, zAr T 0 a6_70 (zMk mdB n4B (zPl cr1_ inn1_ k11_)) g6_57], z1_] _ _ := G.re rfl
      refine z_lp2 (T := T) 44 (fun (i : Nat) (u6 : Int32) => [z0_, wwA, wt, [zO10 xo t im mk rd po co tr wa wb_ fi cd], [zO0 wb_ m2_50 wy2_51 l1 pc2_52 a1_65 a2_66 a3_67 a4_68 a5_69 a6_70, zAr T 0 a1_65 7 g1_53, zAr T 0 a2_66 7 g2_54, zAr T 0 a3_67 7 f3B, zAr T 0 a4_68 (zMk mdB n4B (zPl cr1_ inn1_ k11_)) g4_55, zAr T 0 a5_69 (zMk mdB n4B (zPl cr1_ inn1_ k11_)) g5_56, zAr T 0 a6_70 (zMk mdB n4B (zPl cr1_ inn1_ k11_)) g6_57], z1_]) (fun (i : Nat) (u6 : Int32) => [(7, .int (nI i)), (6, .int u6), (5, .int r_64), (4, .ref wb_), (3, .ref l1), (0, .ref xo), (1, .int i1), (2, .int a_)]) (fun (i : Nat) (u6 : Int32) => i ≤ aPr (aW cr1_ inn1_ k11_) 7) (fun (i : Nat) (u6 : Int32) => aPr (aW cr1_ inn1_ k11_) 7 - i) ?_ 0 0 (show 0 ≤ aPr (aW cr1_ inn1_ k11_) 7 from (Nat.zero_le _)) G (lv_sub hl [0, 1, 2, 3, 4, 5, 6, 7] rfl)
      intro i u6 hi ih_44 H locs ls G hl
      replace hi : i ≤ aPr (aW cr1_ inn1_ k11_) 7 := hi
      replace G : zS T A s.heap s [z0_, wwA, wt, [zO10 xo t im mk rd po co tr wa wb_ fi cd], [zO0 wb_ m2_50 wy2_51 l1 pc2_52 a1_65 a2_66 a3_67 a4_68 a5_69 a6_70, zAr T 0 a1_65 7 g1_53, zAr T 0 a2_66 7 g2_54, zAr T 0 a3_67 7 f3B, zAr T 0 a4_68 (zMk mdB n4B (zPl cr1_ inn1_ k11_)) g4_55, zAr T 0 a5_69 (zMk mdB n4B (zPl cr1_ inn1_ k11_)) g5_56, zAr T 0 a6_70 (zMk mdB n4B (zPl cr1_ inn1_ k11_)) g6_57], z1_] _ _ := G
      replace hl : lv_has ls 8 [(7, .int (nI i)), (6, .int u6), (5, .int r_64), (4, .ref wb_), (3, .ref l1), (0, .ref xo), (1, .int i1), (2, .int a_)] := hl
      refine lv_iload hx hb dX11_back_44 (lv_at hl 0 rfl) ?_
      refine lv_aload hx hb dX11_back_46 (lv_at hl 3 rfl) ?_
      have G : zS T A s.heap s [z0_, wwA, wt, [zO10 xo t im mk rd po co tr wa wb_ fi cd], [zO0 wb_ m2_50 wy2_51 l1 pc2_52 a1_65 a2_66 a3_67 a4_68 a5_69 a6_70], [zAr T 0 a1_65 7 g1_53], [zAr T 0 a2_66 7 g2_54], [zAr T 0 a3_67 7 f3B], [zAr T 0 a4_68 (zMk mdB n4B (zPl cr1_ inn1_ k11_)) g4_55], [zAr T 0 a5_69 (zMk mdB n4B (zPl cr1_ inn1_ k11_)) g5_56], [zAr T 0 a6_70 (zMk mdB n4B (zPl cr1_ inn1_ k11_)) g6_57], z1_] _ _ := G.re rfl
      refine z_get C G clX0 4 rfl 1 (by decide) m_fl_RX11_257 rfl dX11_back_48 ?_
      refine lv_icmp_ge (tgt := 76) hx hb dX11_back_51 (by decide) (fun c_72 => ?_) (fun c_72 => ?_)
      · have c_72n : wy2_51.toInt ≤ (i : Int) := by have q := (fa_le _ _).mp c_72; rw [nI_toInt (n := i) (by omega)] at q; exact q
        refine lv_iload hx hb dX11_back_76 (lv_at hl 1 rfl) ?_
        have hw_73 : bWays T wb_ l1 m2_50 wy2_51 pc2_52 g1_53 g2_54 f3B g4_55 g5_56 g6_57 (zMk mdB n4B (zPl cr1_ inn1_ k11_)) [zO0 wb_ m2_50 wy2_51 l1 pc2_52 a1_65 a2_66 a3_67 a4_68 a5_69 a6_70, zAr T 0 a1_65 7 g1_53, zAr T 0 a2_66 7 g2_54, zAr T 0 a3_67 7 f3B, zAr T 0 a4_68 (zMk mdB n4B (zPl cr1_ inn1_ k11_)) g4_55, zAr T 0 a5_69 (zMk mdB n4B (zPl cr1_ inn1_ k11_)) g5_56, zAr T 0 a6_70 (zMk mdB n4B (zPl cr1_ inn1_ k11_)) g6_57] := ⟨a1_65, a2_66, a3_67, a4_68, a5_69, a6_70, rfl⟩
        have G : zS T A s.heap s [z0_, wwA, wt, [zO10 xo t im mk rd po co tr wa wb_ fi cd], [zO0 wb_ m2_50 wy2_51 l1 pc2_52 a1_65 a2_66 a3_67 a4_68 a5_69 a6_70, zAr T 0 a1_65 7 g1_53, zAr T 0 a2_66 7 g2_54, zAr T 0 a3_67 7 f3B, zAr T 0 a4_68 (zMk mdB n4B (zPl cr1_ inn1_ k11_)) g4_55, zAr T 0 a5_69 (zMk mdB n4B (zPl cr1_ inn1_ k11_)) g5_56, zAr T 0 a6_70 (zMk mdB n4B (zPl cr1_ inn1_ k11_)) g6_57], z1_] _ _ := G.re rfl
        have G := G.sub (bs' := [[zO10 xo t im mk rd po co tr wa wb_ fi cd], wt, z0_, z1_, wwA, [zO0 wb_ m2_50 wy2_51 l1 pc2_52 a1_65 a2_66 a3_67 a4_68 a5_69 a6_70, zAr T 0 a1_65 7 g1_53, zAr T 0 a2_66 7 g2_54, zAr T 0 a3_67 7 f3B, zAr T 0 a4_68 (zMk mdB n4B (zPl cr1_ inn1_ k11_)) g4_55, zAr T 0 a5_69 (zMk mdB n4B (zPl cr1_ inn1_ k11_)) g5_56, zAr T 0 a6_70 (zMk mdB n4B (zPl cr1_ inn1_ k11_)) g6_57]]) [3, 2, 0, 5, 1, 4] rfl
        exact z_back hQz_ (z_iret C hr hlocks G (Nat.le_of_ble_eq_true rfl) (by omega) dX11_back_78 ⟨laA, mdA, wyA, pc_A, f1A, f2A, f3A, f4A, f5A, f6A, n4A, wwA, l1, m2_50, wy2_51, pc2_52, g1_53, g2_54, f3B, g4_55, g5_56, g6_57, (zMk mdB n4B (zPl cr1_ inn1_ k11_)), ([zO0 wb_ m2_50 wy2_51 l1 pc2_52 a1_65 a2_66 a3_67 a4_68 a5_69 a6_70, zAr T 0 a1_65 7 g1_53, zAr T 0 a2_66 7 g2_54, zAr T 0 a3_67 7 f3B, zAr T 0 a4_68 (zMk mdB n4B (zPl cr1_ inn1_ k11_)) g4_55, zAr T 0 a5_69 (zMk mdB n4B (zPl cr1_ inn1_ k11_)) g5_56, zAr T 0 a6_70 (zMk mdB n4B (zPl cr1_ inn1_ k11_)) g6_57]), rfl, hwwA, hmdA, hwmA, (by first | exact hNAo.symm | exact (zNA_n (by first | omega | grind)).symm), hpwA, (fun q => q), hTbA, hw_73, (Or.inr rfl), hwy9, hNAm.symm, (zMk_pw hpwB), (fun _ => h_61), (Or.inr h_62)⟩)
      · have c_72n : ¬ wy2_51.toInt ≤ (i : Int) := fun q => c_72 ((fa_le _ _).mpr (by rw [nI_toInt (n := i) (by omega)]; exact q))
        refine lv_aload hx hb dX11_back_54 (lv_at hl 3 rfl) ?_
        refine lv_iload hx hb dX11_back_56 (lv_at hl 0 rfl) ?_
        refine lv_iload_n hx hb dX11_back_58 rfl (lv_at hl 7 rfl) ?_
        have hw_74 : bWays T wb_ l1 m2_50 wy2_51 pc2_52 g1_53 g2_54 f3B g4_55 g5_56 g6_57 (zMk mdB n4B (zPl cr1_ inn1_ k11_)) [zO0 wb_ m2_50 wy2_51 l1 pc2_52 a1_65 a2_66 a3_67 a4_68 a5_69 a6_70, zAr T 0 a1_65 7 g1_53, zAr T 0 a2_66 7 g2_54, zAr T 0 a3_67 7 f3B, zAr T 0 a4_68 (zMk mdB n4B (zPl cr1_ inn1_ k11_)) g4_55, zAr T 0 a5_69 (zMk mdB n4B (zPl cr1_ inn1_ k11_)) g5_56, zAr T 0 a6_70 (zMk mdB n4B (zPl cr1_ inn1_ k11_)) g6_57] := ⟨a1_65, a2_66, a3_67, a4_68, a5_69, a6_70, rfl⟩
        have G : zS T A s.heap s [z0_, wwA, wt, [zO10 xo t im mk rd po co tr wa wb_ fi cd], [zO0 wb_ m2_50 wy2_51 l1 pc2_52 a1_65 a2_66 a3_67 a4_68 a5_69 a6_70, zAr T 0 a1_65 7 g1_53, zAr T 0 a2_66 7 g2_54, zAr T 0 a3_67 7 f3B, zAr T 0 a4_68 (zMk mdB n4B (zPl cr1_ inn1_ k11_)) g4_55, zAr T 0 a5_69 (zMk mdB n4B (zPl cr1_ inn1_ k11_)) g5_56, zAr T 0 a6_70 (zMk mdB n4B (zPl cr1_ inn1_ k11_)) g6_57], z1_] _ _ := G.re rfl
        refine z_Vi (bc := [[zO0 wb_ m2_50 wy2_51 l1 pc2_52 a1_65 a2_66 a3_67 a4_68 a5_69 a6_70, zAr T 0 a1_65 7 g1_53, zAr T 0 a2_66 7 g2_54, zAr T 0 a3_67 7 f3B, zAr T 0 a4_68 (zMk mdB n4B (zPl cr1_ inn1_ k11_)) g4_55, zAr T 0 a5_69 (zMk mdB n4B (zPl cr1_ inn1_ k11_)) g5_56, zAr T 0 a6_70 (zMk mdB n4B (zPl cr1_ inn1_ k11_)) g6_57]]) (br := [z0_, wwA, wt, [zO10 xo t im mk rd po co tr wa wb_ fi cd], z1_]) (As := [.int (nI i), .int a_]) (rest := []) C G (c_wayAfter l T wb_ l1 m2_50 wy2_51 pc2_52 g1_53 g2_54 f3B g4_55 g5_56 g6_57 (zMk mdB n4B (zPl cr1_ inn1_ k11_)) ([zO0 wb_ m2_50 wy2_51 l1 pc2_52 a1_65 a2_66 a3_67 a4_68 a5_69 a6_70, zAr T 0 a1_65 7 g1_53, zAr T 0 a2_66 7 g2_54, zAr T 0 a3_67 7 f3B, zAr T 0 a4_68 (zMk mdB n4B (zPl cr1_ inn1_ k11_)) g4_55, zAr T 0 a5_69 (zMk mdB n4B (zPl cr1_ inn1_ k11_)) g5_56, zAr T 0 a6_70 (zMk mdB n4B (zPl cr1_ inn1_ k11_)) g6_57]) (nI i) a_ hw_74 (by first | with_reducible assumption | with_reducible rfl | omega | assumption | rfl)) (kV_RX11_275 C.2.2.2.2 (Nat.le_of_ble_eq_true rfl) (Nat.le_of_ble_eq_true rfl)) [4] [4] rfl rfl (ci := 0) (qc := (RX0, TX0, 10)) rfl rfl (List.mem_flatten.mpr ⟨_, List.mem_of_getElem? (i := 0) rfl, (bWays_mem hw_74).choose_spec⟩) rfl rfl hl.1 dX11_back_59 (Nat.le_of_ble_eq_true rfl) (by show _ + 0 ≤ 6 * (zNA (i1.toInt = 0 ∧ 0 < (fk 0).toInt ∧ 0 ≤ a_.toInt ∧ a_.toInt < cr0_.toInt ∧ a_.toInt < 7) mdA n4A (zPl cr0_ inn0_ k10_) - n4A) + 6 * (zNA (i1.toInt = 1 ∧ 1 < (fk 0).toInt ∧ 0 ≤ a_.toInt ∧ a_.toInt < cr1_.toInt ∧ a_.toInt < 7) mdB n4B (zPl cr1_ inn1_ k11_) - n4B); omega) (fun r_76 b1 H locs hw G => ?_)
        refine zAn2 hw ?_
        intro hbs9 h_75
        clear hw
        subst hbs9
        have G : zS T A s.heap s [z0_, wwA, wt, [zO10 xo t im mk rd po co tr wa wb_ fi cd], z1_, [zO0 wb_ m2_50 wy2_51 l1 pc2_52 a1_65 a2_66 a3_67 a4_68 a5_69 a6_70, zAr T 0 a1_65 7 g1_53, zAr T 0 a2_66 7 g2_54, zAr T 0 a3_67 7 f3B, zAr T 0 a4_68 (zMk mdB n4B (zPl cr1_ inn1_ k11_)) g4_55, zAr T 0 a5_69 (zMk mdB n4B (zPl cr1_ inn1_ k11_)) g5_56, zAr T 0 a6_70 (zMk mdB n4B (zPl cr1_ inn1_ k11_)) g6_57]] _ _ := G
        subst h_75
        refine lv_iload hx hb dX11_back_62 (lv_at hl 2 rfl) ?_
        refine lv_icmp_ne (tgt := 70) hx hb dX11_back_64 (by decide) (fun c_77 => ?_) (fun c_77 => ?_)
        · have c_77n : ¬ ((zEntry g5_56 (zMk mdB n4B (zPl cr1_ inn1_ k11_)) (nI i) a_ &&& 131071) >>> (3 &&& 31)).toInt = r_64.toInt := fun q => c_77 ((fa_eq _ _).mpr q)
          refine lv_iinc (v := nI (i + 1)) (lv' := [(7, .int (nI (i + 1))), (6, .int u6), (5, .int r_64), (4, .ref wb_), (3, .ref l1), (0, .ref xo), (1, .int i1), (2, .int a_)]) hx hb dX11_back_70 hl (k := 0) rfl (z_inc i 1) (by decide) (zLvf_h rfl) (fun ls hl => ?_)
          refine lv_goto (tgt := 44) hx hb dX11_back_73 (by decide) ?_
          have G := G.sub (bs' := [z0_, wwA, wt, [zO10 xo t im mk rd po co tr wa wb_ fi cd], [zO0 wb_ m2_50 wy2_51 l1 pc2_52 a1_65 a2_66 a3_67 a4_68 a5_69 a6_70, zAr T 0 a1_65 7 g1_53, zAr T 0 a2_66 7 g2_54, zAr T 0 a3_67 7 f3B, zAr T 0 a4_68 (zMk mdB n4B (zPl cr1_ inn1_ k11_)) g4_55, zAr T 0 a5_69 (zMk mdB n4B (zPl cr1_ inn1_ k11_)) g5_56, zAr T 0 a6_70 (zMk mdB n4B (zPl cr1_ inn1_ k11_)) g6_57], z1_]) [0, 1, 2, 3, 5, 4] rfl
          exact ih_44 (i + 1) u6 (show (i + 1) ≤ aPr (aW cr1_ inn1_ k11_) 7 from (by omega)) (show aPr (aW cr1_ inn1_ k11_) 7 - (i + 1) < aPr (aW cr1_ inn1_ k11_) 7 - i from by omega) _ _ ls G (lv_sub hl [0, 1, 2, 3, 4, 5, 6, 7] rfl)
        · have c_77n : ((zEntry g5_56 (zMk mdB n4B (zPl cr1_ inn1_ k11_)) (nI i) a_ &&& 131071) >>> (3 &&& 31)).toInt = r_64.toInt := (fa_eq _ _).mp c_77
          refine lv_iinc (v := u6 + 1) (lv' := [(6, .int (u6 + 1)), (7, .int (nI i)), (5, .int r_64), (4, .ref wb_), (3, .ref l1), (0, .ref xo), (1, .int i1), (2, .int a_)]) hx hb dX11_back_67 hl (k := 1) rfl rfl (by decide) (zLvf_h rfl) (fun ls hl => ?_)
          refine lv_iinc (v := nI (i + 1)) (lv' := [(7, .int (nI (i + 1))), (6, .int (u6 + 1)), (5, .int r_64), (4, .ref wb_), (3, .ref l1), (0, .ref xo), (1, .int i1), (2, .int a_)]) hx hb dX11_back_70 hl (k := 1) rfl (z_inc i 1) (by decide) (zLvf_h rfl) (fun ls hl => ?_)
          refine lv_goto (tgt := 44) hx hb dX11_back_73 (by decide) ?_
          have G := G.sub (bs' := [z0_, wwA, wt, [zO10 xo t im mk rd po co tr wa wb_ fi cd], [zO0 wb_ m2_50 wy2_51 l1 pc2_52 a1_65 a2_66 a3_67 a4_68 a5_69 a6_70, zAr T 0 a1_65 7 g1_53, zAr T 0 a2_66 7 g2_54, zAr T 0 a3_67 7 f3B, zAr T 0 a4_68 (zMk mdB n4B (zPl cr1_ inn1_ k11_)) g4_55, zAr T 0 a5_69 (zMk mdB n4B (zPl cr1_ inn1_ k11_)) g5_56, zAr T 0 a6_70 (zMk mdB n4B (zPl cr1_ inn1_ k11_)) g6_57], z1_]) [0, 1, 2, 3, 5, 4] rfl
          exact ih_44 (i + 1) (u6 + 1) (show (i + 1) ≤ aPr (aW cr1_ inn1_ k11_) 7 from (by omega)) (show aPr (aW cr1_ inn1_ k11_) 7 - (i + 1) < aPr (aW cr1_ inn1_ k11_) 7 - i from by omega) _ _ ls G (lv_sub hl [0, 1, 2, 3, 4, 5, 6, 7] rfl)
    · have h_48 : (a_.toInt < 0 ∨ cr1_.toInt ≤ a_.toInt ∨ 7 ≤ a_.toInt) := h_48
      refine lv_if_ne (tgt := 23) hx hb dX11_back_18 (by decide) (fun q => absurd (by decide) q) (fun _ => ?_)
      refine lv_iconst (v := (-1)) hx hb dX11_back_21 (by decide) ?_
      have G := G.sub (bs' := [[zO10 xo t im mk rd po co tr wa wb_ fi cd], wt, z0_, z1_, wwA, wwB]) [0, 4, 1, 5, 2, 3] rfl
      exact z_back hQz_ (z_iret C hr hlocks G (Nat.le_of_ble_eq_true rfl) (by omega) dX11_back_22 ⟨laA, mdA, wyA, pc_A, f1A, f2A, f3A, f4A, f5A, f6A, n4A, wwA, laB, mdB, wyB, pc_B, f1B, f2B, f3B, f4B, f5B, f6B, n4B, wwB, rfl, hwwA, hmdA, hwmA, (by first | exact hNAo.symm | exact (zNA_n (by first | omega | grind)).symm), hpwA, (fun q => q), hTbA, hwwB, hmdB, hwmB, (by first | exact hNAo.symm | exact (zNA_n (by first | omega | grind)).symm), hpwB, (fun q => q), hTbB⟩)


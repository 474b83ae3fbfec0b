set_option maxHeartbeats 4000000 in
set_option maxRecDepth 100000 in
/-- c_t_game -/
theorem c_t_game (l : Launch) (T : zTy) (xo : Nat) (t : Nat) (im : Nat) (mk : Nat) (rd : Nat) (po : Nat) (co : Nat) (tr : Nat) (wa : Nat) (wb_ : Nat) (fi : Nat) (cd : Nat) (l0 : Nat) (l1 : Nat) (d0 : Nat) (d1 : Nat) (g0 : Nat) (g1 : Nat) (ln : Int32) (fl : Int32) (pl : Int32) (ft : Nat → Int32) (fk : Nat → Int32) (wt : va_W) (cr0_ : Int32) (inn0_ : Int32) (k10_ : Nat → Int32) (k20_ : Nat → Int32) (k30_ : Nat → Int32) (k40_ : Nat → Int32) (z0_ : va_W) (cr1_ : Int32) (inn1_ : Int32) (k11_ : Nat → Int32) (k21_ : Nat → Int32) (k31_ : Nat → Int32) (k41_ : Nat → Int32) (z1_ : va_W) (laA : Nat) (mdA : Int32) (wyA : Int32) (pc_A : Int32) (f1A : Nat → Int32) (f2A : Nat → Int32) (f3A : Nat → Int32) (f4A : Nat → Int32) (f5A : Nat → Int32) (f6A : Nat → Int32) (n4A : Nat) (wwA : va_W) (laB : Nat) (mdB : Int32) (wyB : Int32) (pc_B : Int32) (f1B : Nat → Int32) (f2B : Nat → Int32) (f3B : Nat → Int32) (f4B : Nat → Int32) (f5B : Nat → Int32) (f6B : Nat → Int32) (n4B : Nat) (wwB : va_W) (i1 : Int32) (a_ : Int32) (n : Int32) (w_ : Int32) (ht : bTold T t l0 l1 d0 d1 g0 g1 ln fl pl ft fk wt) (hK : zKT fk) (hz0_ : bLand T l0 cr0_ inn0_ k10_ k20_ k30_ k40_ z0_) (hI0_ : zLI cr0_ k10_ k30_) (hz1_ : bLand T l1 cr1_ inn1_ k11_ k21_ k31_ k41_ z1_) (hI1_ : zLI cr1_ k11_ k31_) (hwwA : bWays T wa laA mdA wyA pc_A f1A f2A f3A f4A f5A f6A n4A wwA) (hpwA : zPw n4A) (hmdA : mdA = 0 ∨ laA = l0) (hwmA : 0 ≤ wyA.toInt ∧ wyA.toInt ≤ 16384) (hTbA : mdA = 0 ∨ zTab cr0_ inn0_ k10_ k20_ wyA pc_A f1A f2A f5A n4A) (hLq0 : zLq cr0_ k10_ k20_) (hwwB : bWays T wb_ laB mdB wyB pc_B f1B f2B f3B f4B f5B f6B n4B wwB) (hpwB : zPw n4B) (hmdB : mdB = 0 ∨ laB = l1) (hwmB : 0 ≤ wyB.toInt ∧ wyB.toInt ≤ 16384) (hTbB : mdB = 0 ∨ zTab cr1_ inn1_ k11_ k21_ wyB pc_B f1B f2B f5B n4B) (hLq1 : zLq cr1_ k11_ k21_) : zMi l T yX11_game cX11_game 9 (some .int) 10 3 (6 * (zNA (i1.toInt = 0 ∧ 0 < (fk 0).toInt ∧ 0 ≤ a_.toInt ∧ a_.toInt < cr0_.toInt ∧ a_.toInt < 7 ∧ 0 ≤ n.toInt ∧ n.toInt ≤ 3) mdA n4A (zPl cr0_ inn0_ k10_) - n4A) + 6 * (zNA (i1.toInt = 1 ∧ 1 < (fk 0).toInt ∧ 0 ≤ a_.toInt ∧ a_.toInt < cr1_.toInt ∧ a_.toInt < 7 ∧ 0 ≤ n.toInt ∧ n.toInt ≤ 3) mdB n4B (zPl cr1_ inn1_ k11_) - n4B)) [.ref xo, .int i1, .int a_, .int n, .int w_] [[zO10 xo t im mk rd po co tr wa wb_ fi cd], wt, z0_, z1_, wwA, wwB] (fun (r : Int32) bs => ∃ (laA_2 : Nat) (mdA_2 : Int32) (wyA_2 : Int32) (pc_A_2 : Int32) (f1A_2 : Nat → Int32) (f2A_2 : Nat → Int32) (f3A_2 : Nat → Int32) (f4A_2 : Nat → Int32) (f5A_2 : Nat → Int32) (f6A_2 : Nat → Int32) (n4A_2 : Nat) (wwA_2 : va_W) (laB_2 : Nat) (mdB_2 : Int32) (wyB_2 : Int32) (pc_B_2 : Int32) (f1B_2 : Nat → Int32) (f2B_2 : Nat → Int32) (f3B_2 : Nat → Int32) (f4B_2 : Nat → Int32) (f5B_2 : Nat → Int32) (f6B_2 : Nat → Int32) (n4B_2 : Nat) (wwB_2 : va_W), bs = [[zO10 xo t im mk rd po co tr wa wb_ fi cd], wt, z0_, z1_, wwA_2, wwB_2] ∧ bWays T wa laA_2 mdA_2 wyA_2 pc_A_2 f1A_2 f2A_2 f3A_2 f4A_2 f5A_2 f6A_2 n4A_2 wwA_2 ∧ (mdA_2 = 0 ∨ laA_2 = l0) ∧ (0 ≤ wyA_2.toInt ∧ wyA_2.toInt ≤ 16384) ∧ n4A_2 = zNA (i1.toInt = 0 ∧ 0 < (fk 0).toInt ∧ 0 ≤ a_.toInt ∧ a_.toInt < cr0_.toInt ∧ a_.toInt < 7 ∧ 0 ≤ n.toInt ∧ n.toInt ≤ 3) mdA n4A (zPl cr0_ inn0_ k10_) ∧ zPw n4A_2 ∧ (¬ mdA = 0 → ¬ mdA_2 = 0) ∧ (mdA_2 = 0 ∨ zTab cr0_ inn0_ k10_ k20_ wyA_2 pc_A_2 f1A_2 f2A_2 f5A_2 n4A_2) ∧ bWays T wb_ laB_2 mdB_2 wyB_2 pc_B_2 f1B_2 f2B_2 f3B_2 f4B_2 f5B_2 f6B_2 n4B_2 wwB_2 ∧ (mdB_2 = 0 ∨ laB_2 = l1) ∧ (0 ≤ wyB_2.toInt ∧ wyB_2.toInt ≤ 16384) ∧ n4B_2 = zNA (i1.toInt = 1 ∧ 1 < (fk 0).toInt ∧ 0 ≤ a_.toInt ∧ a_.toInt < cr1_.toInt ∧ a_.toInt < 7 ∧ 0 ≤ n.toInt ∧ n.toInt ≤ 3) mdB n4B (zPl cr1_ inn1_ k11_) ∧ zPw n4B_2 ∧ (¬ mdB = 0 → ¬ mdB_2 = 0) ∧ (mdB_2 = 0 ∨ zTab cr1_ inn1_ k11_ k21_ wyB_2 pc_B_2 f1B_2 f2B_2 f5B_2 n4B_2)) := by
  refine zMi_of (own := RX11) (by decide) rfl (Nat.le_of_ble_eq_true rfl) ?_
  intro p e s m args below meth c A ls C hr hlocks hnm hAe G hl
  refine zHide (fun Qz_ hQz_ => ?_)
  have hx := C.1
  have hb := C.2.1
  replace hmdA : zHd (mdA = 0 ∨ laA = l0) := hmdA
  replace hTbA : zHd (mdA = 0 ∨ zTab cr0_ inn0_ k10_ k20_ wyA pc_A f1A f2A f5A n4A) := hTbA
  replace hmdB : zHd (mdB = 0 ∨ laB = l1) := hmdB
  replace hTbB : zHd (mdB = 0 ∨ zTab cr1_ inn1_ k11_ k21_ wyB pc_B f1B f2B f5B n4B) := hTbB
  have hl : lv_has ls 9 [(0, .ref xo), (1, .int i1), (2, .int a_), (3, .int n), (4, .int w_)] := hl
  refine lv_aload_n hx hb dX11_game_0 rfl (lv_at hl 0 rfl) ?_
  refine z_get C G clX11 0 rfl 0 (by decide) m_fl_RX11_10 rfl dX11_game_1 ?_
  refine lv_iload_n hx hb dX11_game_4 rfl (lv_at hl 1 rfl) ?_
  refine z_Vq (bc := [wt]) (br := [[zO10 xo t im mk rd po co tr wa wb_ fi cd], z0_, z1_, wwA, wwB]) (As := [.int i1]) (rest := []) C G (c_landAt l T t l0 l1 d0 d1 g0 g1 ln fl pl ft fk wt i1 ht) (kV_RX11_121 C.2.2.2.2 (Nat.le_of_ble_eq_true rfl) (Nat.le_of_ble_eq_true rfl)) [1] [1] rfl rfl (ci := 8) (qc := (RX9, TX9, 8)) rfl rfl (List.mem_flatten.mpr ⟨_, List.mem_of_getElem? (i := 0) rfl, (bTold_mem ht).choose_spec⟩) rfl rfl hl.1 dX11_game_5 (Nat.le_of_ble_eq_true rfl) (by show _ + 0 ≤ 6 * (zNA (i1.toInt = 0 ∧ 0 < (fk 0).toInt ∧ 0 ≤ a_.toInt ∧ a_.toInt < cr0_.toInt ∧ a_.toInt < 7 ∧ 0 ≤ n.toInt ∧ n.toInt ≤ 3) mdA n4A (zPl cr0_ inn0_ k10_) - n4A) + 6 * (zNA (i1.toInt = 1 ∧ 1 < (fk 0).toInt ∧ 0 ≤ a_.toInt ∧ a_.toInt < cr1_.toInt ∧ a_.toInt < 7 ∧ 0 ≤ n.toInt ∧ n.toInt ≤ 3) mdB n4B (zPl cr1_ inn1_ k11_) - n4B); omega) (fun r_2 b1 H locs hw G => ?_)
  refine zAn2 hw ?_
  intro hbs9 hc_1
  clear hw
  subst hbs9
  have G : zS T A s.heap s [[zO10 xo t im mk rd po co tr wa wb_ fi cd], z0_, z1_, wwA, wwB, wt] _ _ := G
  rcases hc_1 with ⟨rfl, h_3⟩ | ⟨rfl, h_4, h_5⟩ | ⟨rfl, h_6, h_7⟩
  · have h_3 : (i1.toInt < 0 ∨ (fk 0).toInt ≤ i1.toInt ∨ 2 ≤ i1.toInt) := h_3
    refine lv_astoreN (lv' := [(5, .null), (0, .ref xo), (1, .int i1), (2, .int a_), (3, .int n), (4, .int w_)]) hx hb dX11_game_8 hl (by decide) (zLvf_h rfl) (fun ls hl => ?_)
    refine lv_aloadN hx hb dX11_game_10 (lv_at hl 0 rfl) ?_
    refine lv_ifnullN (tgt := 33) hx hb dX11_game_12 (by decide) ?_
    refine lv_bipush (v := (-9)) hx hb dX11_game_33 (by decide) ?_
    have G := G.sub (bs' := [[zO10 xo t im mk rd po co tr wa wb_ fi cd], wt, z0_, z1_, wwA, wwB]) [0, 5, 1, 2, 3, 4] rfl
    exact z_back hQz_ (z_iret C hr hlocks G (Nat.le_of_ble_eq_true rfl) (by omega) dX11_game_35 ⟨laA, mdA, wyA, pc_A, f1A, f2A, f3A, f4A, f5A, f6A, n4A, wwA, laB, mdB, wyB, pc_B, f1B, f2B, f3B, f4B, f5B, f6B, n4B, wwB, rfl, hwwA, hmdA, hwmA, (by first | exact hNAo.symm | exact (zNA_n (by first | omega | grind)).symm), hpwA, (fun q => q), hTbA, hwwB, hmdB, hwmB, (by first | exact hNAo.symm | exact (zNA_n (by first | omega | grind)).symm), hpwB, (fun q => q), hTbB⟩)
  · have h_4 : i1.toInt = 0 := h_4
    have h_5 : 0 < (fk 0).toInt := h_5
    refine lv_astore (lv' := [(5, .ref l0), (0, .ref xo), (1, .int i1), (2, .int a_), (3, .int n), (4, .int w_)]) hx hb dX11_game_8 hl (by decide) (zLvf_h rfl) (fun ls hl => ?_)
    refine lv_aload hx hb dX11_game_10 (lv_at hl 0 rfl) ?_
    refine lv_ifnull hx hb dX11_game_12 ?_
    refine lv_aload hx hb dX11_game_15 (lv_at hl 0 rfl) ?_
    refine lv_iload_n hx hb dX11_game_17 rfl (lv_at hl 3 rfl) ?_
    refine z_Vi (bc := [z0_]) (br := [[zO10 xo t im mk rd po co tr wa wb_ fi cd], z1_, wwA, wwB, wt]) (As := [.int a_]) (rest := []) C G (c_has l T l0 cr0_ inn0_ k10_ k20_ k30_ k40_ z0_ a_ hz0_) (kV_RX11_160 C.2.2.2.2 (Nat.le_of_ble_eq_true rfl) (Nat.le_of_ble_eq_true rfl)) [1] [1] rfl rfl (ci := 4) (qc := (RX4, TX4, 6)) rfl rfl (List.mem_flatten.mpr ⟨_, List.mem_of_getElem? (i := 0) rfl, (bLand_mem hz0_).choose_spec⟩) rfl rfl hl.1 dX11_game_18 (Nat.le_of_ble_eq_true rfl) (by show _ + 0 ≤ 6 * (zNA (i1.toInt = 0 ∧ 0 < (fk 0).toInt ∧ 0 ≤ a_.toInt ∧ a_.toInt < cr0_.toInt ∧ a_.toInt < 7 ∧ 0 ≤ n.toInt ∧ n.toInt ≤ 3) mdA n4A (zPl cr0_ inn0_ k10_) - n4A) + 6 * (zNA (i1.toInt = 1 ∧ 1 < (fk 0).toInt ∧ 0 ≤ a_.toInt ∧ a_.toInt < cr1_.toInt ∧ a_.toInt < 7 ∧ 0 ≤ n.toInt ∧ n.toInt ≤ 3) mdB n4B (zPl cr1_ inn1_ k11_) - n4B); omega) (fun r_9 b1 H locs hw G => ?_)
    refine zAn2 hw ?_
    intro hbs9 hc_8
    clear hw
    subst hbs9
    have G : zS T A s.heap s [[zO10 xo t im mk rd po co tr wa wb_ fi cd], z1_, wwA, wwB, wt, z0_] _ _ := G
    rcases hc_8 with ⟨rfl, h_10, h_11, h_12⟩ | ⟨rfl, h_13⟩
    · have h_10 : 0 ≤ a_.toInt := h_10
      have h_11 : a_.toInt < cr0_.toInt := h_11
      have h_12 : a_.toInt < 7 := h_12
      refine lv_if_eq (tgt := 33) hx hb dX11_game_21 (by decide) (fun q => absurd q (by decide)) (fun _ => ?_)
      refine lv_iload_n hx hb dX11_game_24 rfl (lv_at hl 4 rfl) ?_
      refine lv_if_lt (tgt := 33) hx hb dX11_game_25 (by decide) (fun c_14 => ?_) (fun c_14 => ?_)
      · have c_14n : n.toInt < (0 : Int) := (fa_lt _ _).mp c_14
        refine lv_bipush (v := (-9)) hx hb dX11_game_33 (by decide) ?_
        have G := G.sub (bs' := [[zO10 xo t im mk rd po co tr wa wb_ fi cd], wt, z0_, z1_, wwA, wwB]) [0, 4, 5, 1, 2, 3] rfl
        exact z_back hQz_ (z_iret C hr hlocks G (Nat.le_of_ble_eq_true rfl) (by omega) dX11_game_35 ⟨laA, mdA, wyA, pc_A, f1A, f2A, f3A, f4A, f5A, f6A, n4A, wwA, laB, mdB, wyB, pc_B, f1B, f2B, f3B, f4B, f5B, f6B, n4B, wwB, rfl, hwwA, hmdA, hwmA, (by first | exact hNAo.symm | exact (zNA_n (by first | omega | grind)).symm), hpwA, (fun q => q), hTbA, hwwB, hmdB, hwmB, (by first | exact hNAo.symm | exact (zNA_n (by first | omega | grind)).symm), hpwB, (fun q => q), hTbB⟩)
      · have c_14n : ¬ n.toInt < (0 : Int) := fun q => c_14 ((fa_lt _ _).mpr q)
        refine lv_iload_n hx hb dX11_game_28 rfl (lv_at hl 4 rfl) ?_
        refine lv_iconst (v := 3) hx hb dX11_game_29 (by decide) ?_
        refine lv_icmp_le (tgt := 36) hx hb dX11_game_30 (by decide) (fun c_15 => ?_) (fun c_15 => ?_)
        · have c_15n : n.toInt ≤ (3 : Int) := (fa_le _ _).mp c_15
          refine lv_aload_n hx hb dX11_game_36 rfl (lv_at hl 1 rfl) ?_
          refine lv_iload_n hx hb dX11_game_37 rfl (lv_at hl 2 rfl) ?_
          refine lv_aload hx hb dX11_game_38 (lv_at hl 0 rfl) ?_
          have hNAm : zNA (i1.toInt = 0 ∧ 0 < (fk 0).toInt ∧ 0 ≤ a_.toInt ∧ a_.toInt < cr0_.toInt ∧ a_.toInt < 7 ∧ 0 ≤ n.toInt ∧ n.toInt ≤ 3) mdA n4A (zPl cr0_ inn0_ k10_) = zMk mdA n4A (zPl cr0_ inn0_ k10_) := zNA_y (by first | omega | (repeat' (first | omega | assumption | constructor)))
          have hNAo : zNA (i1.toInt = 1 ∧ 1 < (fk 0).toInt ∧ 0 ≤ a_.toInt ∧ a_.toInt < cr1_.toInt ∧ a_.toInt < 7 ∧ 0 ≤ n.toInt ∧ n.toInt ≤ 3) mdB n4B (zPl cr1_ inn1_ k11_) = n4B := zNA_n (by omega)
          have hn9 : zMk mdA n4A (zPl cr0_ inn0_ k10_) ≤ 131072 := zPw_le (zMk_pw hpwA)
          refine z_Vq (bc := [[zO10 xo t im mk rd po co tr wa wb_ fi cd], wwA, z0_]) (br := [z1_, wwB, wt]) (As := [.int i1, .ref l0]) (rest := []) C G (c_f_waysInA l T xo t im mk rd po co tr wa wb_ fi cd i1 laA mdA wyA pc_A f1A f2A f3A f4A f5A f6A n4A wwA l0 cr0_ inn0_ k10_ k20_ k30_ k40_ z0_ hwwA hz0_ hI0_ hpwA hmdA (kaOk hI0_ hLq0).1 hTbA (by omega)) (kV_RX11_235 C.2.2.2.2 (Nat.le_of_ble_eq_true rfl) (Nat.le_of_ble_eq_true rfl)) [0, 2, 5] [0, 1, 2] rfl rfl (ci := 10) (qc := (RX11, TX11, 11)) rfl rfl (List.mem_flatten.mpr ⟨_, List.mem_of_getElem? (i := 0) rfl, List.mem_cons_self⟩) rfl rfl hl.1 dX11_game_40 (Nat.le_of_ble_eq_true rfl) (by show _ + (6 * (zMk mdA n4A (zPl cr0_ inn0_ k10_) - n4A)) ≤ 6 * (zNA (i1.toInt = 0 ∧ 0 < (fk 0).toInt ∧ 0 ≤ a_.toInt ∧ a_.toInt < cr0_.toInt ∧ a_.toInt < 7 ∧ 0 ≤ n.toInt ∧ n.toInt ≤ 3) mdA n4A (zPl cr0_ inn0_ k10_) - n4A) + 6 * (zNA (i1.toInt = 1 ∧ 1 < (fk 0).toInt ∧ 0 ≤ a_.toInt ∧ a_.toInt < cr1_.toInt ∧ a_.toInt < 7 ∧ 0 ≤ n.toInt ∧ n.toInt ≤ 3) mdB n4B (zPl cr1_ inn1_ k11_) - n4B); omega) (fun r_30 b1 H locs hw G => ?_)
          refine zEx9 hw ?_
          intro w2_16 m2_17 wy2_18 pc2_19 g1_20 g2_21 g4_22 g5_23 g6_24
          refine zCu6 ?_
          intro hbs9 h_25 h_26 h_27 h_28 h_29
          clear hw
          subst hbs9
          have G : zS T A s.heap s [z1_, wwB, wt, [zO10 xo t im mk rd po co tr wa wb_ fi cd], w2_16, z0_] _ _ := G
          subst h_25
          have hwy9 : 0 ≤ wy2_18.toInt ∧ wy2_18.toInt ≤ 16384 := by have q9 := zWy_in (inn := inn0_) hI0_; rw [h_27]; exact ⟨by omega, q9.2⟩
          have hp79 : aPr (aW cr0_ inn0_ k10_) 7 ≤ 16384 := aPr_7 hI0_
          have hwN9 : wy2_18 = nI (aPr (aW cr0_ inn0_ k10_) 7) := h_27.trans (zWy_z hI0_)
          have hwT9 : wy2_18.toInt = ((aPr (aW cr0_ inn0_ k10_) 7 : Nat) : Int) := by rw [hwN9, nI_toInt (by omega)]
          have hOk9 := (kaOk (inn := inn0_) hI0_ hLq0).1
          have hc79 := hI0_.1
          refine lv_astore (lv' := [(6, .ref wa), (5, .ref l0), (0, .ref xo), (1, .int i1), (2, .int a_), (3, .int n), (4, .int w_)]) hx hb dX11_game_43 hl (by decide) (zLvf_h rfl) (fun ls hl => ?_)
          refine lv_aload hx hb dX11_game_45 (lv_at hl 0 rfl) ?_
          refine z_Vi (bc := [w2_16, z0_]) (br := [z1_, wwB, wt, [zO10 xo t im mk rd po co tr wa wb_ fi cd]]) (As := []) (rest := []) C G (c_wayTold l T wa l0 m2_17 wy2_18 pc2_19 g1_20 g2_21 f3A g4_22 g5_23 g6_24 (zMk mdA n4A (zPl cr0_ inn0_ k10_)) w2_16 cr0_ inn0_ k10_ k20_ k30_ k40_ z0_ h_26 hz0_ (by first | with_reducible assumption | with_reducible rfl | omega | assumption | rfl)) (kV_RX11_242 C.2.2.2.2 (Nat.le_of_ble_eq_true rfl) (Nat.le_of_ble_eq_true rfl)) [4, 5] [4, 0] rfl rfl (ci := 0) (qc := (RX0, TX0, 10)) rfl rfl (List.mem_flatten.mpr ⟨_, List.mem_of_getElem? (i := 0) rfl, (bWays_mem h_26).choose_spec⟩) rfl rfl hl.1 dX11_game_47 (Nat.le_of_ble_eq_true rfl) (by show _ + 0 ≤ 6 * (zNA (i1.toInt = 0 ∧ 0 < (fk 0).toInt ∧ 0 ≤ a_.toInt ∧ a_.toInt < cr0_.toInt ∧ a_.toInt < 7 ∧ 0 ≤ n.toInt ∧ n.toInt ≤ 3) mdA n4A (zPl cr0_ inn0_ k10_) - n4A) + 6 * (zNA (i1.toInt = 1 ∧ 1 < (fk 0).toInt ∧ 0 ≤ a_.toInt ∧ a_.toInt < cr1_.toInt ∧ a_.toInt < 7 ∧ 0 ≤ n.toInt ∧ n.toInt ≤ 3) mdB n4B (zPl cr1_ inn1_ k11_) - n4B); omega) (fun r_31 b1 H locs hw G => ?_)
          obtain rfl := hw
          have G : zS T A s.heap s [z1_, wwB, wt, [zO10 xo t im mk rd po co tr wa wb_ fi cd], w2_16, z0_] _ _ := G
          refine lv_istore (lv' := [(7, .int r_31), (6, .ref wa), (5, .ref l0), (0, .ref xo), (1, .int i1), (2, .int a_), (3, .int n), (4, .int w_)]) hx hb dX11_game_50 hl (by decide) (zLvf_h rfl) (fun ls hl => ?_)
          refine lv_aload hx hb dX11_game_52 (lv_at hl 1 rfl) ?_
          refine lv_iload hx hb dX11_game_54 (lv_at hl 0 rfl) ?_
          refine lv_iload_n hx hb dX11_game_56 rfl (lv_at hl 5 rfl) ?_
          refine lv_iload_n hx hb dX11_game_57 rfl (lv_at hl 6 rfl) ?_
          refine lv_iconst (v := 1) hx hb dX11_game_58 (by decide) ?_
          refine z_Si (bc := [w2_16, z0_]) (br := [z1_, wwB, wt, [zO10 xo t im mk rd po co tr wa wb_ fi cd]]) (As := [.ref wa, .int r_31, .int a_, .int n, .int 1]) (rest := []) C G (c_worthN l T wa l0 m2_17 wy2_18 pc2_19 g1_20 g2_21 f3A g4_22 g5_23 g6_24 (zMk mdA n4A (zPl cr0_ inn0_ k10_)) w2_16 cr0_ inn0_ k10_ k20_ k30_ k40_ z0_ r_31 a_ n 1 h_26 hz0_ (by first | with_reducible assumption | with_reducible rfl | omega | assumption | rfl) hn9 (by omega)) (kS_RX11_278 C.2.2.2.2 (Nat.le_of_ble_eq_true rfl) (Nat.le_of_ble_eq_true rfl)) [4, 5] [4, 0] rfl rfl rfl rfl hl.1 dX11_game_59 (Nat.le_of_ble_eq_true rfl) (by show _ + 0 ≤ 6 * (zNA (i1.toInt = 0 ∧ 0 < (fk 0).toInt ∧ 0 ≤ a_.toInt ∧ a_.toInt < cr0_.toInt ∧ a_.toInt < 7 ∧ 0 ≤ n.toInt ∧ n.toInt ≤ 3) mdA n4A (zPl cr0_ inn0_ k10_) - n4A) + 6 * (zNA (i1.toInt = 1 ∧ 1 < (fk 0).toInt ∧ 0 ≤ a_.toInt ∧ a_.toInt < cr1_.toInt ∧ a_.toInt < 7 ∧ 0 ≤ n.toInt ∧ n.toInt ≤ 3) mdB n4B (zPl cr1_ inn1_ k11_) - n4B); omega) (fun r_32 b1 H locs hw G => ?_)
          obtain rfl := hw
          have G : zS T A s.heap s [z1_, wwB, wt, [zO10 xo t im mk rd po co tr wa wb_ fi cd], w2_16, z0_] _ _ := G
          refine lv_istore (lv' := [(8, .int r_32), (7, .int r_31), (6, .ref wa), (5, .ref l0), (0, .ref xo), (1, .int i1), (2, .int a_), (3, .int n), (4, .int w_)]) hx hb dX11_game_62 hl (by decide) (zLvf_h rfl) (fun ls hl => ?_)
          refine lv_iload hx hb dX11_game_64 (lv_at hl 8 rfl) ?_
          refine lv_if_ne (tgt := 72) hx hb dX11_game_66 (by decide) (fun c_33 => ?_) (fun c_33 => ?_)
          · have c_33n : ¬ w_.toInt = (0 : Int) := fun q => c_33 ((fa_eq _ _).mpr q)
            refine lv_iload_n hx hb dX11_game_72 rfl (lv_at hl 7 rfl) ?_
            refine lv_if_ne (tgt := 80) hx hb dX11_game_73 (by decide) (fun c_34 => ?_) (fun c_34 => ?_)
            · have c_34n : ¬ n.toInt = (0 : Int) := fun q => c_34 ((fa_eq _ _).mpr q)
              refine lv_aload hx hb dX11_game_80 (lv_at hl 2 rfl) ?_
              refine lv_iload hx hb dX11_game_82 (lv_at hl 1 rfl) ?_
              refine lv_iload_n hx hb dX11_game_84 rfl (lv_at hl 6 rfl) ?_
              refine lv_iload_n hx hb dX11_game_85 rfl (lv_at hl 7 rfl) ?_
              refine lv_iload hx hb dX11_game_86 (lv_at hl 0 rfl) ?_
              refine z_Si (bc := [w2_16, z0_]) (br := [z1_, wwB, wt, [zO10 xo t im mk rd po co tr wa wb_ fi cd]]) (As := [.ref wa, .int r_31, .int a_, .int n, .int r_32]) (rest := []) C G (c_bestTurnN l T wa l0 m2_17 wy2_18 pc2_19 g1_20 g2_21 f3A g4_22 g5_23 g6_24 (zMk mdA n4A (zPl cr0_ inn0_ k10_)) w2_16 cr0_ inn0_ k10_ k20_ k30_ k40_ z0_ r_31 a_ n r_32 h_26 hz0_ (by first | with_reducible assumption | with_reducible rfl | omega | assumption | rfl) hn9 (by omega)) (kS_RX11_282 C.2.2.2.2 (Nat.le_of_ble_eq_true rfl) (Nat.le_of_ble_eq_true rfl)) [4, 5] [4, 0] rfl rfl rfl rfl hl.1 dX11_game_88 (Nat.le_of_ble_eq_true rfl) (by show _ + 0 ≤ 6 * (zNA (i1.toInt = 0 ∧ 0 < (fk 0).toInt ∧ 0 ≤ a_.toInt ∧ a_.toInt < cr0_.toInt ∧ a_.toInt < 7 ∧ 0 ≤ n.toInt ∧ n.toInt ≤ 3) mdA n4A (zPl cr0_ inn0_ k10_) - n4A) + 6 * (zNA (i1.toInt = 1 ∧ 1 < (fk 0).toInt ∧ 0 ≤ a_.toInt ∧ a_.toInt < cr1_.toInt ∧ a_.toInt < 7 ∧ 0 ≤ n.toInt ∧ n.toInt ≤ 3) mdB n4B (zPl cr1_ inn1_ k11_) - n4B); omega) (fun r_35 b1 H locs hw G => ?_)
              obtain rfl := hw
              have G : zS T A s.heap s [z1_, wwB, wt, [zO10 xo t im mk rd po co tr wa wb_ fi cd], w2_16, z0_] _ _ := G
              have G := G.sub (bs' := [[zO10 xo t im mk rd po co tr wa wb_ fi cd], wt, z0_, z1_, w2_16, wwB]) [3, 2, 5, 0, 4, 1] rfl
              exact z_back hQz_ (z_iret C hr hlocks G (Nat.le_of_ble_eq_true rfl) (by omega) dX11_game_91 ⟨l0, m2_17, wy2_18, pc2_19, g1_20, g2_21, f3A, g4_22, g5_23, g6_24, (zMk mdA n4A (zPl cr0_ inn0_ k10_)), w2_16, laB, mdB, wyB, pc_B, f1B, f2B, f3B, f4B, f5B, f6B, n4B, wwB, rfl, h_26, (Or.inr rfl), hwy9, hNAm.symm, (zMk_pw hpwA), (fun _ => h_28), (Or.inr h_29), hwwB, hmdB, hwmB, (by first | exact hNAo.symm | exact (zNA_n (by first | omega | grind)).symm), hpwB, (fun q => q), hTbB⟩)
            · have c_34n : n.toInt = (0 : Int) := (fa_eq _ _).mp c_34
              refine lv_iconst (v := (-1)) hx hb dX11_game_76 (by decide) ?_
              refine lv_goto (tgt := 91) hx hb dX11_game_77 (by decide) ?_
              have G := G.sub (bs' := [[zO10 xo t im mk rd po co tr wa wb_ fi cd], wt, z0_, z1_, w2_16, wwB]) [3, 2, 5, 0, 4, 1] rfl
              exact z_back hQz_ (z_iret C hr hlocks G (Nat.le_of_ble_eq_true rfl) (by omega) dX11_game_91 ⟨l0, m2_17, wy2_18, pc2_19, g1_20, g2_21, f3A, g4_22, g5_23, g6_24, (zMk mdA n4A (zPl cr0_ inn0_ k10_)), w2_16, laB, mdB, wyB, pc_B, f1B, f2B, f3B, f4B, f5B, f6B, n4B, wwB, rfl, h_26, (Or.inr rfl), hwy9, hNAm.symm, (zMk_pw hpwA), (fun _ => h_28), (Or.inr h_29), hwwB, hmdB, hwmB, (by first | exact hNAo.symm | exact (zNA_n (by first | omega | grind)).symm), hpwB, (fun q => q), hTbB⟩)
          · have c_33n : w_.toInt = (0 : Int) := (fa_eq _ _).mp c_33
            refine lv_iload hx hb dX11_game_69 (lv_at hl 0 rfl) ?_
            have G := G.sub (bs' := [[zO10 xo t im mk rd po co tr wa wb_ fi cd], wt, z0_, z1_, w2_16, wwB]) [3, 2, 5, 0, 4, 1] rfl
            exact z_back hQz_ (z_iret C hr hlocks G (Nat.le_of_ble_eq_true rfl) (by omega) dX11_game_71 ⟨l0, m2_17, wy2_18, pc2_19, g1_20, g2_21, f3A, g4_22, g5_23, g6_24, (zMk mdA n4A (zPl cr0_ inn0_ k10_)), w2_16, laB, mdB, wyB, pc_B, f1B, f2B, f3B, f4B, f5B, f6B, n4B, wwB, rfl, h_26, (Or.inr rfl), hwy9, hNAm.symm, (zMk_pw hpwA), (fun _ => h_28), (Or.inr h_29), hwwB, hmdB, hwmB, (by first | exact hNAo.symm | exact (zNA_n (by first | omega | grind)).symm), hpwB, (fun q => q), hTbB⟩)
        · have c_15n : ¬ n.toInt ≤ (3 : Int) := fun q => c_15 ((fa_le _ _).mpr q)
          refine lv_bipush (v := (-9)) hx hb dX11_game_33 (by decide) ?_
          have G := G.sub (bs' := [[zO10 xo t im mk rd po co tr wa wb_ fi cd], wt, z0_, z1_, wwA, wwB]) [0, 4, 5, 1, 2, 3] rfl
          exact z_back hQz_ (z_iret C hr hlocks G (Nat.le_of_ble_eq_true rfl) (by omega) dX11_game_35 ⟨laA, mdA, wyA, pc_A, f1A, f2A, f3A, f4A, f5A, f6A, n4A, wwA, laB, mdB, wyB, pc_B, f1B, f2B, f3B, f4B, f5B, f6B, n4B, wwB, rfl, hwwA, hmdA, hwmA, (by first | exact hNAo.symm | exact (zNA_n (by first | omega | grind)).symm), hpwA, (fun q => q), hTbA, hwwB, hmdB, hwmB, (by first | exact hNAo.symm | exact (zNA_n (by first | omega | grind)).symm), hpwB, (fun q => q), hTbB⟩)
    · have h_13 : (a_.toInt < 0 ∨ cr0_.toInt ≤ a_.toInt ∨ 7 ≤ a_.toInt) := h_13
      refine lv_if_eq (tgt := 33) hx hb dX11_game_21 (by decide) (fun _ => ?_) (fun q => absurd (by decide) q)
      refine lv_bipush (v := (-9)) hx hb dX11_game_33 (by decide) ?_
      have G := G.sub (bs' := [[zO10 xo t im mk rd po co tr wa wb_ fi cd], wt, z0_, z1_, wwA, wwB]) [0, 4, 5, 1, 2, 3] rfl
      exact z_back hQz_ (z_iret C hr hlocks G (Nat.le_of_ble_eq_true rfl) (by omega) dX11_game_35 ⟨laA, mdA, wyA, pc_A, f1A, f2A, f3A, f4A, f5A, f6A, n4A, wwA, laB, mdB, wyB, pc_B, f1B, f2B, f3B, f4B, f5B, f6B, n4B, wwB, rfl, hwwA, hmdA, hwmA, (by first | exact hNAo.symm | exact (zNA_n (by first | omega | grind)).symm), hpwA, (fun q => q), hTbA, hwwB, hmdB, hwmB, (by first | exact hNAo.symm | exact (zNA_n (by first | omega | grind)).symm), hpwB, (fun q => q), hTbB⟩)
  · have h_6 : i1.toInt = 1 := h_6
    have h_7 : 1 < (fk 0).toInt := h_7
    refine lv_astore (lv' := [(5, .ref l1), (0, .ref xo), (1, .int i1), (2, .int a_), (3, .int n), (4, .int w_)]) hx hb dX11_game_8 hl (by decide) (zLvf_h rfl) (fun ls hl => ?_)
    refine lv_aload hx hb dX11_game_10 (lv_at hl 0 rfl) ?_
    refine lv_ifnull hx hb dX11_game_12 ?_
    refine lv_aload hx hb dX11_game_15 (lv_at hl 0 rfl) ?_
    refine lv_iload_n hx hb dX11_game_17 rfl (lv_at hl 3 rfl) ?_
    refine z_Vi (bc := [z1_]) (br := [[zO10 xo t im mk rd po co tr wa wb_ fi cd], z0_, wwA, wwB, wt]) (As := [.int a_]) (rest := []) C G (c_has l T l1 cr1_ inn1_ k11_ k21_ k31_ k41_ z1_ a_ hz1_) (kV_RX11_160 C.2.2.2.2 (Nat.le_of_ble_eq_true rfl) (Nat.le_of_ble_eq_true rfl)) [2] [2] rfl rfl (ci := 4) (qc := (RX4, TX4, 6)) rfl rfl (List.mem_flatten.mpr ⟨_, List.mem_of_getElem? (i := 0) rfl, (bLand_mem hz1_).choose_spec⟩) rfl rfl hl.1 dX11_game_18 (Nat.le_of_ble_eq_true rfl) (by show _ + 0 ≤ 6 * (zNA (i1.toInt = 0 ∧ 0 < (fk 0).toInt ∧ 0 ≤ a_.toInt ∧ a_.toInt < cr0_.toInt ∧ a_.toInt < 7 ∧ 0 ≤ n.toInt ∧ n.toInt ≤ 3) mdA n4A (zPl cr0_ inn0_ k10_) - n4A) + 6 * (zNA (i1.toInt = 1 ∧ 1 < (fk 0).toInt ∧ 0 ≤ a_.toInt ∧ a_.toInt < cr1_.toInt ∧ a_.toInt < 7 ∧ 0 ≤ n.toInt ∧ n.toInt ≤ 3) mdB n4B (zPl cr1_ inn1_ k11_) - n4B); omega) (fun r_37 b1 H locs hw G => ?_)
    refine zAn2 hw ?_
    intro hbs9 hc_36
    clear hw
    subst hbs9
    have G : zS T A s.heap s [[zO10 xo t im mk rd po co tr wa wb_ fi cd], z0_, wwA, wwB, wt, z1_] _ _ := G
    rcases hc_36 with ⟨rfl, h_38, h_39, h_40⟩ | ⟨rfl, h_41⟩
    · have h_38 : 0 ≤ a_.toInt := h_38
      have h_39 : a_.toInt < cr1_.toInt := h_39
      have h_40 : a_.toInt < 7 := h_40
      refine lv_if_eq (tgt := 33) hx hb dX11_game_21 (by decide) (fun q => absurd q (by decide)) (fun _ => ?_)
      refine lv_iload_n hx hb dX11_game_24 rfl (lv_at hl 4 rfl) ?_
      refine lv_if_lt (tgt := 33) hx hb dX11_game_25 (by decide) (fun c_42 => ?_) (fun c_42 => ?_)
      · have c_42n : n.toInt < (0 : Int) := (fa_lt _ _).mp c_42
        refine lv_bipush (v := (-9)) hx hb dX11_game_33 (by decide) ?_
        have G := G.sub (bs' := [[zO10 xo t im mk rd po co tr wa wb_ fi cd], wt, z0_, z1_, wwA, wwB]) [0, 4, 1, 5, 2, 3] rfl
        exact z_back hQz_ (z_iret C hr hlocks G (Nat.le_of_ble_eq_true rfl) (by omega) dX11_game_35 ⟨laA, mdA, wyA, pc_A, f1A, f2A, f3A, f4A, f5A, f6A, n4A, wwA, laB, mdB, wyB, pc_B, f1B, f2B, f3B, f4B, f5B, f6B, n4B, wwB, rfl, hwwA, hmdA, hwmA, (by first | exact hNAo.symm | exact (zNA_n (by first | omega | grind)).symm), hpwA, (fun q => q), hTbA, hwwB, hmdB, hwmB, (by first | exact hNAo.symm | exact (zNA_n (by first | omega | grind)).symm), hpwB, (fun q => q), hTbB⟩)
      · have c_42n : ¬ n.toInt < (0 : Int) := fun q => c_42 ((fa_lt _ _).mpr q)
        refine lv_iload_n hx hb dX11_game_28 rfl (lv_at hl 4 rfl) ?_
        refine lv_iconst (v := 3) hx hb dX11_game_29 (by decide) ?_
        refine lv_icmp_le (tgt := 36) hx hb dX11_game_30 (by decide) (fun c_43 => ?_) (fun c_43 => ?_)
        · have c_43n : n.toInt ≤ (3 : Int) := (fa_le _ _).mp c_43
          refine lv_aload_n hx hb dX11_game_36 rfl (lv_at hl 1 rfl) ?_
          refine lv_iload_n hx hb dX11_game_37 rfl (lv_at hl 2 rfl) ?_
          refine lv_aload hx hb dX11_game_38 (lv_at hl 0 rfl) ?_
          have hNAm : zNA (i1.toInt = 1 ∧ 1 < (fk 0).toInt ∧ 0 ≤ a_.toInt ∧ a_.toInt < cr1_.toInt ∧ a_.toInt < 7 ∧ 0 ≤ n.toInt ∧ n.toInt ≤ 3) mdB n4B (zPl cr1_ inn1_ k11_) = zMk mdB n4B (zPl cr1_ inn1_ k11_) := zNA_y (by first | omega | (repeat' (first | omega | assumption | constructor)))
          have hNAo : zNA (i1.toInt = 0 ∧ 0 < (fk 0).toInt ∧ 0 ≤ a_.toInt ∧ a_.toInt < cr0_.toInt ∧ a_.toInt < 7 ∧ 0 ≤ n.toInt ∧ n.toInt ≤ 3) mdA n4A (zPl cr0_ inn0_ k10_) = n4A := zNA_n (by omega)
          have hn9 : zMk mdB n4B (zPl cr1_ inn1_ k11_) ≤ 131072 := zPw_le (zMk_pw hpwB)
          refine z_Vq (bc := [[zO10 xo t im mk rd po co tr wa wb_ fi cd], wwB, z1_]) (br := [z0_, wwA, wt]) (As := [.int i1, .ref l1]) (rest := []) C G (c_f_waysInB l T xo t im mk rd po co tr wa wb_ fi cd i1 laB mdB wyB pc_B f1B f2B f3B f4B f5B f6B n4B wwB l1 cr1_ inn1_ k11_ k21_ k31_ k41_ z1_ hwwB hz1_ hI1_ hpwB hmdB (kaOk hI1_ hLq1).1 hTbB (by omega)) (kV_RX11_235 C.2.2.2.2 (Nat.le_of_ble_eq_true rfl) (Nat.le_of_ble_eq_true rfl)) [0, 3, 5] [0, 2, 1] rfl rfl (ci := 10) (qc := (RX11, TX11, 11)) rfl rfl (List.mem_flatten.mpr ⟨_, List.mem_of_getElem? (i := 0) rfl, List.mem_cons_self⟩) rfl rfl hl.1 dX11_game_40 (Nat.le_of_ble_eq_true rfl) (by show _ + (6 * (zMk mdB n4B (zPl cr1_ inn1_ k11_) - n4B)) ≤ 6 * (zNA (i1.toInt = 0 ∧ 0 < (fk 0).toInt ∧ 0 ≤ a_.toInt ∧ a_.toInt < cr0_.toInt ∧ a_.toInt < 7 ∧ 0 ≤ n.toInt ∧ n.toInt ≤ 3) mdA n4A (zPl cr0_ inn0_ k10_) - n4A) + 6 * (zNA (i1.toInt = 1 ∧ 1 < (fk 0).toInt ∧ 0 ≤ a_.toInt ∧ a_.toInt < cr1_.toInt ∧ a_.toInt < 7 ∧ 0 ≤ n.toInt ∧ n.toInt ≤ 3) mdB n4B (zPl cr1_ inn1_ k11_) - n4B); omega) (fun r_58 b1 H locs hw G => ?_)
          refine zEx9 hw ?_
          intro w2_44 m2_45 wy2_46 pc2_47 g1_48 g2_49 g4_50 g5_51 g6_52
          refine zCu6 ?_
          intro hbs9 h_53 h_54 h_55 h_56 h_57
          clear hw
          subst hbs9
          have G : zS T A s.heap s [z0_, wwA, wt, [zO10 xo t im mk rd po co tr wa wb_ fi cd], w2_44, z1_] _ _ := G
          subst h_53
          have hwy9 : 0 ≤ wy2_46.toInt ∧ wy2_46.toInt ≤ 16384 := by have q9 := zWy_in (inn := inn1_) hI1_; rw [h_55]; exact ⟨by omega, q9.2⟩
          have hp79 : aPr (aW cr1_ inn1_ k11_) 7 ≤ 16384 := aPr_7 hI1_
          have hwN9 : wy2_46 = nI (aPr (aW cr1_ inn1_ k11_) 7) := h_55.trans (zWy_z hI1_)
          have hwT9 : wy2_46.toInt = ((aPr (aW cr1_ inn1_ k11_) 7 : Nat) : Int) := by rw [hwN9, nI_toInt (by omega)]
          have hOk9 := (kaOk (inn := inn1_) hI1_ hLq1).1
          have hc79 := hI1_.1
          refine lv_astore (lv' := [(6, .ref wb_), (5, .ref l1), (0, .ref xo), (1, .int i1), (2, .int a_), (3, .int n), (4, .int w_)]) hx hb dX11_game_43 hl (by decide) (zLvf_h rfl) (fun ls hl => ?_)
          refine lv_aload hx hb dX11_game_45 (lv_at hl 0 rfl) ?_
          refine z_Vi (bc := [w2_44, z1_]) (br := [z0_, wwA, wt, [zO10 xo t im mk rd po co tr wa wb_ fi cd]]) (As := []) (rest := []) C G (c_wayTold l T wb_ l1 m2_45 wy2_46 pc2_47 g1_48 g2_49 f3B g4_50 g5_51 g6_52 (zMk mdB n4B (zPl cr1_ inn1_ k11_)) w2_44 cr1_ inn1_ k11_ k21_ k31_ k41_ z1_ h_54 hz1_ (by first | with_reducible assumption | with_reducible rfl | omega | assumption | rfl)) (kV_RX11_242 C.2.2.2.2 (Nat.le_of_ble_eq_true rfl) (Nat.le_of_ble_eq_true rfl)) [4, 5] [4, 0] rfl rfl (ci := 0) (qc := (RX0, TX0, 10)) rfl rfl (List.mem_flatten.mpr ⟨_, List.mem_of_getElem? (i := 0) rfl, (bWays_mem h_54).choose_spec⟩) rfl rfl hl.1 dX11_game_47 (Nat.le_of_ble_eq_true rfl) (by show _ + 0 ≤ 6 * (zNA (i1.toInt = 0 ∧ 0 < (fk 0).toInt ∧ 0 ≤ a_.toInt ∧ a_.toInt < cr0_.toInt ∧ a_.toInt < 7 ∧ 0 ≤ n.toInt ∧ n.toInt ≤ 3) mdA n4A (zPl cr0_ inn0_ k10_) - n4A) + 6 * (zNA (i1.toInt = 1 ∧ 1 < (fk 0).toInt ∧ 0 ≤ a_.toInt ∧ a_.toInt < cr1_.toInt ∧ a_.toInt < 7 ∧ 0 ≤ n.toInt ∧ n.toInt ≤ 3) mdB n4B (zPl cr1_ inn1_ k11_) - n4B); omega) (fun r_59 b1 H locs hw G => ?_)
          obtain rfl := hw
          have G : zS T A s.heap s [z0_, wwA, wt, [zO10 xo t im mk rd po co tr wa wb_ fi cd], w2_44, z1_] _ _ := G
          refine lv_istore (lv' := [(7, .int r_59), (6, .ref wb_), (5, .ref l1), (0, .ref xo), (1, .int i1), (2, .int a_), (3, .int n), (4, .int w_)]) hx hb dX11_game_50 hl (by decide) (zLvf_h rfl) (fun ls hl => ?_)
          refine lv_aload hx hb dX11_game_52 (lv_at hl 1 rfl) ?_
          refine lv_iload hx hb dX11_game_54 (lv_at hl 0 rfl) ?_
          refine lv_iload_n hx hb dX11_game_56 rfl (lv_at hl 5 rfl) ?_
          refine lv_iload_n hx hb dX11_game_57 rfl (lv_at hl 6 rfl) ?_
          refine lv_iconst (v := 1) hx hb dX11_game_58 (by decide) ?_
          refine z_Si (bc := [w2_44, z1_]) (br := [z0_, wwA, wt, [zO10 xo t im mk rd po co tr wa wb_ fi cd]]) (As := [.ref wb_, .int r_59, .int a_, .int n, .int 1]) (rest := []) C G (c_worthN l T wb_ l1 m2_45 wy2_46 pc2_47 g1_48 g2_49 f3B g4_50 g5_51 g6_52 (zMk mdB n4B (zPl cr1_ inn1_ k11_)) w2_44 cr1_ inn1_ k11_ k21_ k31_ k41_ z1_ r_59 a_ n 1 h_54 hz1_ (by first | with_reducible assumption | with_reducible rfl | omega | assumption | rfl) hn9 (by omega)) (kS_RX11_278 C.2.2.2.2 (Nat.le_of_ble_eq_true rfl) (Nat.le_of_ble_eq_true rfl)) [4, 5] [4, 0] rfl rfl rfl rfl hl.1 dX11_game_59 (Nat.le_of_ble_eq_true rfl) (by show _ + 0 ≤ 6 * (zNA (i1.toInt = 0 ∧ 0 < (fk 0).toInt ∧ 0 ≤ a_.toInt ∧ a_.toInt < cr0_.toInt ∧ a_.toInt < 7 ∧ 0 ≤ n.toInt ∧ n.toInt ≤ 3) mdA n4A (zPl cr0_ inn0_ k10_) - n4A) + 6 * (zNA (i1.toInt = 1 ∧ 1 < (fk 0).toInt ∧ 0 ≤ a_.toInt ∧ a_.toInt < cr1_.toInt ∧ a_.toInt < 7 ∧ 0 ≤ n.toInt ∧ n.toInt ≤ 3) mdB n4B (zPl cr1_ inn1_ k11_) - n4B); omega) (fun r_60 b1 H locs hw G => ?_)
          obtain rfl := hw
          have G : zS T A s.heap s [z0_, wwA, wt, [zO10 xo t im mk rd po co tr wa wb_ fi cd], w2_44, z1_] _ _ := G
          refine lv_istore (lv' := [(8, .int r_60), (7, .int r_59), (6, .ref wb_), (5, .ref l1), (0, .ref xo), (1, .int i1), (2, .int a_), (3, .int n), (4, .int w_)]) hx hb dX11_game_62 hl (by decide) (zLvf_h rfl) (fun ls hl => ?_)
          refine lv_iload hx hb dX11_game_64 (lv_at hl 8 rfl) ?_
          refine lv_if_ne (tgt := 72) hx hb dX11_game_66 (by decide) (fun c_61 => ?_) (fun c_61 => ?_)
          · have c_61n : ¬ w_.toInt = (0 : Int) := fun q => c_61 ((fa_eq _ _).mpr q)
            refine lv_iload_n hx hb dX11_game_72 rfl (lv_at hl 7 rfl) ?_
            refine lv_if_ne (tgt := 80) hx hb dX11_game_73 (by decide) (fun c_62 => ?_) (fun c_62 => ?_)
            · have c_62n : ¬ n.toInt = (0 : Int) := fun q => c_62 ((fa_eq _ _).mpr q)
              refine lv_aload hx hb dX11_game_80 (lv_at hl 2 rfl) ?_
              refine lv_iload hx hb dX11_game_82 (lv_at hl 1 rfl) ?_
              refine lv_iload_n hx hb dX11_game_84 rfl (lv_at hl 6 rfl) ?_
              refine lv_iload_n hx hb dX11_game_85 rfl (lv_at hl 7 rfl) ?_
              refine lv_iload hx hb dX11_game_86 (lv_at hl 0 rfl) ?_
              refine z_Si (bc := [w2_44, z1_]) (br := [z0_, wwA, wt, [zO10 xo t im mk rd po co tr wa wb_ fi cd]]) (As := [.ref wb_, .int r_59, .int a_, .int n, .int r_60]) (rest := []) C G (c_bestTurnN l T wb_ l1 m2_45 wy2_46 pc2_47 g1_48 g2_49 f3B g4_50 g5_51 g6_52 (zMk mdB n4B (zPl cr1_ inn1_ k11_)) w2_44 cr1_ inn1_ k11_ k21_ k31_ k41_ z1_ r_59 a_ n r_60 h_54 hz1_ (by first | with_reducible assumption | with_reducible rfl | omega | assumption | rfl) hn9 (by omega)) (kS_RX11_282 C.2.2.2.2 (Nat.le_of_ble_eq_true rfl) (Nat.le_of_ble_eq_true rfl)) [4, 5] [4, 0] rfl rfl rfl rfl hl.1 dX11_game_88 (Nat.le_of_ble_eq_true rfl) (by show _ + 0 ≤ 6 * (zNA (i1.toInt = 0 ∧ 0 < (fk 0).toInt ∧ 0 ≤ a_.toInt ∧ a_.toInt < cr0_.toInt ∧ a_.toInt < 7 ∧ 0 ≤ n.toInt ∧ n.toInt ≤ 3) mdA n4A (zPl cr0_ inn0_ k10_) - n4A) + 6 * (zNA (i1.toInt = 1 ∧ 1 < (fk 0).toInt ∧ 0 ≤ a_.toInt ∧ a_.toInt < cr1_.toInt ∧ a_.toInt < 7 ∧ 0 ≤ n.toInt ∧ n.toInt ≤ 3) mdB n4B (zPl cr1_ inn1_ k11_) - n4B); omega) (fun r_63 b1 H locs hw G => ?_)
              obtain rfl := hw
              have G : zS T A s.heap s [z0_, wwA, wt, [zO10 xo t im mk rd po co tr wa wb_ fi cd], w2_44, z1_] _ _ := G
              have G := G.sub (bs' := [[zO10 xo t im mk rd po co tr wa wb_ fi cd], wt, z0_, z1_, wwA, w2_44]) [3, 2, 0, 5, 1, 4] rfl
              exact z_back hQz_ (z_iret C hr hlocks G (Nat.le_of_ble_eq_true rfl) (by omega) dX11_game_91 ⟨laA, mdA, wyA, pc_A, f1A, f2A, f3A, f4A, f5A, f6A, n4A, wwA, l1, m2_45, wy2_46, pc2_47, g1_48, g2_49, f3B, g4_50, g5_51, g6_52, (zMk mdB n4B (zPl cr1_ inn1_ k11_)), w2_44, rfl, hwwA, hmdA, hwmA, (by first | exact hNAo.symm | exact (zNA_n (by first | omega | grind)).symm), hpwA, (fun q => q), hTbA, h_54, (Or.inr rfl), hwy9, hNAm.symm, (zMk_pw hpwB), (fun _ => h_56), (Or.inr h_57)⟩)
            · have c_62n : n.toInt = (0 : Int) := (fa_eq _ _).mp c_62
              refine lv_iconst (v := (-1)) hx hb dX11_game_76 (by decide) ?_
              refine lv_goto (tgt := 91) hx hb dX11_game_77 (by decide) ?_
              have G := G.sub (bs' := [[zO10 xo t im mk rd po co tr wa wb_ fi cd], wt, z0_, z1_, wwA, w2_44]) [3, 2, 0, 5, 1, 4] rfl
              exact z_back hQz_ (z_iret C hr hlocks G (Nat.le_of_ble_eq_true rfl) (by omega) dX11_game_91 ⟨laA, mdA, wyA, pc_A, f1A, f2A, f3A, f4A, f5A, f6A, n4A, wwA, l1, m2_45, wy2_46, pc2_47, g1_48, g2_49, f3B, g4_50, g5_51, g6_52, (zMk mdB n4B (zPl cr1_ inn1_ k11_)), w2_44, rfl, hwwA, hmdA, hwmA, (by first | exact hNAo.symm | exact (zNA_n (by first | omega | grind)).symm), hpwA, (fun q => q), hTbA, h_54, (Or.inr rfl), hwy9, hNAm.symm, (zMk_pw hpwB), (fun _ => h_56), (Or.inr h_57)⟩)
          · have c_61n : w_.toInt = (0 : Int) := (fa_eq _ _).mp c_61
            refine lv_iload hx hb dX11_game_69 (lv_at hl 0 rfl) ?_
            have G := G.sub (bs' := [[zO10 xo t im mk rd po co tr wa wb_ fi cd], wt, z0_, z1_, wwA, w2_44]) [3, 2, 0, 5, 1, 4] rfl
            exact z_back hQz_ (z_iret C hr hlocks G (Nat.le_of_ble_eq_true rfl) (by omega) dX11_game_71 ⟨laA, mdA, wyA, pc_A, f1A, f2A, f3A, f4A, f5A, f6A, n4A, wwA, l1, m2_45, wy2_46, pc2_47, g1_48, g2_49, f3B, g4_50, g5_51, g6_52, (zMk mdB n4B (zPl cr1_ inn1_ k11_)), w2_44, rfl, hwwA, hmdA, hwmA, (by first | exact hNAo.symm | exact (zNA_n (by first | omega | grind)).symm), hpwA, (fun q => q), hTbA, h_54, (Or.inr rfl), hwy9, hNAm.symm, (zMk_pw hpwB), (fun _ => h_56), (Or.inr h_57)⟩)
        · have c_43n : ¬ n.toInt ≤ (3 : Int) := fun q => c_43 ((fa_le _ _).mpr q)
          refine lv_bipush (v := (-9)) hx hb dX11_game_33 (by decide) ?_
          have G := G.sub (bs' := [[zO10 xo t im mk rd po co tr wa wb_ fi cd], wt, z0_, z1_, wwA, wwB]) [0, 4, 1, 5, 2, 3] rfl
          exact z_back hQz_ (z_iret C hr hlocks G (Nat.le_of_ble_eq_true rfl) (by omega) dX11_game_35 ⟨laA, mdA, wyA, pc_A, f1A, f2A, f3A, f4A, f5A, f6A, n4A, wwA, laB, mdB, wyB, pc_B, f1B, f2B, f3B, f4B, f5B, f6B, n4B, wwB, rfl, hwwA, hmdA, hwmA, (by first | exact hNAo.symm | exact (zNA_n (by first | omega | grind)).symm), hpwA, (fun q => q), hTbA, hwwB, hmdB, hwmB, (by first | exact hNAo.symm | exact (zNA_n (by first | omega | grind)).symm), hpwB, (fun q => q), hTbB⟩)
    · have h_41 : (a_.toInt < 0 ∨ cr1_.toInt ≤ a_.toInt ∨ 7 ≤ a_.toInt) := h_41
      refine lv_if_eq (tgt := 33) hx hb dX11_game_21 (by decide) (fun _ => ?_) (fun q => absurd (by decide) q)
      refine lv_bipush (v := (-9)) hx hb dX11_game_33 (by decide) ?_
      have G := G.sub (bs' := [[zO10 xo t im mk rd po co tr wa wb_ fi cd], wt, z0_, z1_, wwA, wwB]) [0, 4, 1, 5, 2, 3] rfl
      exact z_back hQz_ (z_iret C hr hlocks G (Nat.le_of_ble_eq_true rfl) (by omega) dX11_game_35 ⟨laA, mdA, wyA, pc_A, f1A, f2A, f3A, f4A, f5A, f6A, n4A, wwA, laB, mdB, wyB, pc_B, f1B, f2B, f3B, f4B, f5B, f6B, n4B, wwB, rfl, hwwA, hmdA, hwmA, (by first | exact hNAo.symm | exact (zNA_n (by first | omega | grind)).symm), hpwA, (fun q => q), hTbA, hwwB, hmdB, hwmB, (by first | exact hNAo.symm | exact (zNA_n (by first | omega | grind)).symm), hpwB, (fun q => q), hTbB⟩)
set_option maxHeartbeats 4000000 in
set_option maxRecDepth 100000 in
/-- treesOf -/
theorem c_t_treesOf (l : Launch) (T : zTy) (h : Nat) (la : Nat) (md : Int32) (wy : Int32) (pc_ : Int32) (f1 : Nat → Int32) (f2 : Nat → Int32) (f3 : Nat → Int32) (f4 : Nat → Int32) (f5 : Nat → Int32) (f6 : Nat → Int32) (n4 : Nat) (ww : va_W) (o : Nat) (cr : Int32) (inn : Int32) (k1 : Nat → Int32) (k2 : Nat → Int32) (k3 : Nat → Int32) (k4 : Nat → Int32) (z : va_W) (hww : bWays T h la md wy pc_ f1 f2 f3 f4 f5 f6 n4 ww) (hz : bLand T o cr inn k1 k2 k3 k4 z) (hI : zLI cr k1 k3) : zMi l T yX0_treesOf cX0_treesOf 4 (some .int) 5 0 0 [.ref h, .ref o] [ww, z] (fun (r : Int32) bs => ∃ (w2 : va_W) (g1 : Nat → Int32) (g2 : Nat → Int32) (g3 : Nat → Int32), bs = [w2, z] ∧ bWays T h o md (zWy cr inn k1) (zPl cr inn k1) g1 g2 g3 f4 f5 f6 n4 w2 ∧ aF cr inn k1 g1 g2) := by
  refine zMi_of (own := RX0) (by decide) rfl (Nat.le_of_ble_eq_true rfl) ?_
  intro p e s m args below meth c A ls C hr hlocks hnm hAe G hl
  refine zHide (fun Qz_ hQz_ => ?_)
  have hx := C.1
  have hb := C.2.1
  have hl : lv_has ls 4 [(0, .ref h), (1, .ref o)] := hl
  refine lv_aload_n hx hb dX0_treesOf_0 rfl (lv_at hl 0 rfl) ?_
  refine lv_aload_n hx hb dX0_treesOf_1 rfl (lv_at hl 1 rfl) ?_
  refine z_Vv (bc := [ww, z]) (br := []) (As := [.ref o]) (rest := []) C G (c_f_countWays l T h la md wy pc_ f1 f2 f3 f4 f5 f6 n4 ww o cr inn k1 k2 k3 k4 z hww hz) (kV_RX0_41 C.2.2.2.2 (Nat.le_of_ble_eq_true rfl) (Nat.le_of_ble_eq_true rfl)) [0, 1] [0, 0] rfl rfl (ci := 0) (qc := (RX0, TX0, 10)) rfl rfl (List.mem_flatten.mpr ⟨_, List.mem_of_getElem? (i := 0) rfl, (bWays_mem hww).choose_spec⟩) rfl rfl hl.1 dX0_treesOf_2 (Nat.le_of_ble_eq_true rfl) (Nat.le_of_ble_eq_true rfl) (fun b1 H locs hw G => ?_)
  refine zEx3 hw ?_
  intro w2_1 g1_2 g2_3
  refine zCu3 ?_
  intro hbs9 h_4 h_5
  clear hw
  subst hbs9
  have G : zS T A s.heap s [w2_1, z] _ _ := G
  have hwl := Int32.toInt_lt (zWy cr inn k1)
  refine lv_iconst (v := 0) hx hb dX0_treesOf_5 (by decide) ?_
  refine lv_istore_n (lv' := [(2, .int 0), (0, .ref h), (1, .ref o)]) hx hb dX0_treesOf_6 rfl hl (by decide) (zLvf_h rfl) (fun ls hl => ?_)
  refine lv_iconst (v := 0) hx hb dX0_treesOf_7 (by decide) ?_
  refine lv_istore_n (lv' := [(3, .int 0), (2, .int 0), (0, .ref h), (1, .ref o)]) hx hb dX0_treesOf_8 rfl hl (by decide) (zLvf_h rfl) (fun ls hl => ?_)
  refine zEx6 h_4 ?_
  intro a1_7 a2_8 a3_9 a4_10 a5_11 a6_12 hbs9
  clear h_4
  subst hbs9
  have G : zS T A s.heap s [[zO0 h md (zWy cr inn k1) o (zPl cr inn k1) a1_7 a2_8 a3_9 a4_10 a5_11 a6_12], [zAr T 0 a1_7 7 g1_2], [zAr T 0 a2_8 7 g2_3], [zAr T 0 a3_9 7 f3], [zAr T 0 a4_10 n4 f4], [zAr T 0 a5_11 n4 f5], [zAr T 0 a6_12 n4 f6], z] _ _ := G.re rfl
  have hw_13 : bWays T h o md (zWy cr inn k1) (zPl cr inn k1) g1_2 g2_3 f3 f4 f5 f6 n4 [zO0 h md (zWy cr inn k1) o (zPl cr inn k1) a1_7 a2_8 a3_9 a4_10 a5_11 a6_12, zAr T 0 a1_7 7 g1_2, zAr T 0 a2_8 7 g2_3, zAr T 0 a3_9 7 f3, zAr T 0 a4_10 n4 f4, zAr T 0 a5_11 n4 f5, zAr T 0 a6_12 n4 f6] := ⟨a1_7, a2_8, a3_9, a4_10, a5_11, a6_12, rfl⟩
  have G : zS T A s.heap s [[zO0 h md (zWy cr inn k1) o (zPl cr inn k1) a1_7 a2_8 a3_9 a4_10 a5_11 a6_12, zAr T 0 a1_7 7 g1_2, zAr T 0 a2_8 7 g2_3, zAr T 0 a3_9 7 f3, zAr T 0 a4_10 n4 f4, zAr T 0 a5_11 n4 f5, zAr T 0 a6_12 n4 f6], z] _ _ := G.re rfl
  refine z_lp3 (T := T) 9 (fun (i : Nat) (wt : va_W) (x3 : Nat → Int32) => [wt, z]) (fun (i : Nat) (wt : va_W) (x3 : Nat → Int32) => [(3, .int (nI i)), (2, .int 0), (0, .ref h), (1, .ref o)]) (fun (i : Nat) (wt : va_W) (x3 : Nat → Int32) => bWays T h o md (zWy cr inn k1) (zPl cr inn k1) g1_2 g2_3 x3 f4 f5 f6 n4 wt ∧ i ≤ 7) (fun (i : Nat) (wt : va_W) (x3 : Nat → Int32) => 7 - i) ?_ 0 ([zO0 h md (zWy cr inn k1) o (zPl cr inn k1) a1_7 a2_8 a3_9 a4_10 a5_11 a6_12, zAr T 0 a1_7 7 g1_2, zAr T 0 a2_8 7 g2_3, zAr T 0 a3_9 7 f3, zAr T 0 a4_10 n4 f4, zAr T 0 a5_11 n4 f5, zAr T 0 a6_12 n4 f6]) f3 (show bWays T h o md (zWy cr inn k1) (zPl cr inn k1) g1_2 g2_3 f3 f4 f5 f6 n4 ([zO0 h md (zWy cr inn k1) o (zPl cr inn k1) a1_7 a2_8 a3_9 a4_10 a5_11 a6_12, zAr T 0 a1_7 7 g1_2, zAr T 0 a2_8 7 g2_3, zAr T 0 a3_9 7 f3, zAr T 0 a4_10 n4 f4, zAr T 0 a5_11 n4 f5, zAr T 0 a6_12 n4 f6]) ∧ 0 ≤ 7 from ⟨hw_13, by omega⟩) G (lv_sub hl [0, 1, 2, 3] rfl)
  intro i wt x3 hI9 ih_9 H locs ls G hl
  replace hI9 : bWays T h o md (zWy cr inn k1) (zPl cr inn k1) g1_2 g2_3 x3 f4 f5 f6 n4 wt ∧ i ≤ 7 := hI9
  refine zAn2 hI9 ?_
  intro hwt hi
  clear hI9
  replace G : zS T A s.heap s [wt, z] _ _ := G
  replace hl : lv_has ls 4 [(3, .int (nI i)), (2, .int 0), (0, .ref h), (1, .ref o)] := hl
  refine lv_iload_n hx hb dX0_treesOf_9 rfl (lv_at hl 0 rfl) ?_
  refine lv_bipush (v := 7) hx hb dX0_treesOf_10 (by decide) ?_
  refine lv_icmp_ge (tgt := 28) hx hb dX0_treesOf_12 (by decide) (fun c_14 => ?_) (fun c_14 => ?_)
  · have c_14n : 7 ≤ i := (nI_leI (a := 7) (b := i) (by omega) (by omega)).mp c_14
    refine lv_iconst (v := 0) hx hb dX0_treesOf_28 (by decide) ?_
    refine lv_istore_n (lv' := [(3, .int 0), (2, .int 0), (0, .ref h), (1, .ref o)]) hx hb dX0_treesOf_29 rfl hl (by decide) (zLvf_h rfl) (fun ls hl => ?_)
    refine zEx6 hwt ?_
    intro a1_15 a2_16 a3_17 a4_18 a5_19 a6_20 hbs9
    clear hwt
    subst hbs9
    have G : zS T A s.heap s [[zO0 h md (zWy cr inn k1) o (zPl cr inn k1) a1_15 a2_16 a3_17 a4_18 a5_19 a6_20], [zAr T 0 a1_15 7 g1_2], [zAr T 0 a2_16 7 g2_3], [zAr T 0 a3_17 7 x3], [zAr T 0 a4_18 n4 f4], [zAr T 0 a5_19 n4 f5], [zAr T 0 a6_20 n4 f6], z] _ _ := G.re rfl
    have hw_21 : bWays T h o md (zWy cr inn k1) (zPl cr inn k1) g1_2 g2_3 x3 f4 f5 f6 n4 [zO0 h md (zWy cr inn k1) o (zPl cr inn k1) a1_15 a2_16 a3_17 a4_18 a5_19 a6_20, zAr T 0 a1_15 7 g1_2, zAr T 0 a2_16 7 g2_3, zAr T 0 a3_17 7 x3, zAr T 0 a4_18 n4 f4, zAr T 0 a5_19 n4 f5, zAr T 0 a6_20 n4 f6] := ⟨a1_15, a2_16, a3_17, a4_18, a5_19, a6_20, rfl⟩
    have G : zS T A s.heap s [[zO0 h md (zWy cr inn k1) o (zPl cr inn k1) a1_15 a2_16 a3_17 a4_18 a5_19 a6_20, zAr T 0 a1_15 7 g1_2, zAr T 0 a2_16 7 g2_3, zAr T 0 a3_17 7 x3, zAr T 0 a4_18 n4 f4, zAr T 0 a5_19 n4 f5, zAr T 0 a6_20 n4 f6], z] _ _ := G.re rfl
    refine z_lp4 (T := T) 30 (fun (j : Nat) (u : Int32) (wu : va_W) (y3 : Nat → Int32) => [wu, z]) (fun (j : Nat) (u : Int32) (wu : va_W) (y3 : Nat → Int32) => [(3, .int (nI j)), (2, .int u), (0, .ref h), (1, .ref o)]) (fun (j : Nat) (u : Int32) (wu : va_W) (y3 : Nat → Int32) => bWays T h o md (zWy cr inn k1) (zPl cr inn k1) g1_2 g2_3 y3 f4 f5 f6 n4 wu ∧ j ≤ (zWy cr inn k1).toInt.toNat) (fun (j : Nat) (u : Int32) (wu : va_W) (y3 : Nat → Int32) => (zWy cr inn k1).toInt.toNat - j) ?_ 0 0 ([zO0 h md (zWy cr inn k1) o (zPl cr inn k1) a1_15 a2_16 a3_17 a4_18 a5_19 a6_20, zAr T 0 a1_15 7 g1_2, zAr T 0 a2_16 7 g2_3, zAr T 0 a3_17 7 x3, zAr T 0 a4_18 n4 f4, zAr T 0 a5_19 n4 f5, zAr T 0 a6_20 n4 f6]) x3 (show bWays T h o md (zWy cr inn k1) (zPl cr inn k1) g1_2 g2_3 x3 f4 f5 f6 n4 ([zO0 h md (zWy cr inn k1) o (zPl cr inn k1) a1_15 a2_16 a3_17 a4_18 a5_19 a6_20, zAr T 0 a1_15 7 g1_2, zAr T 0 a2_16 7 g2_3, zAr T 0 a3_17 7 x3, zAr T 0 a4_18 n4 f4, zAr T 0 a5_19 n4 f5, zAr T 0 a6_20 n4 f6]) ∧ 0 ≤ (zWy cr inn k1).toInt.toNat from ⟨hw_21, by omega⟩) G (lv_sub hl [0, 1, 2, 3] rfl)
    intro j u wu y3 hI9 ih_30 H locs ls G hl
    replace hI9 : bWays T h o md (zWy cr inn k1) (zPl cr inn k1) g1_2 g2_3 y3 f4 f5 f6 n4 wu ∧ j ≤ (zWy cr inn k1).toInt.toNat := hI9
    refine zAn2 hI9 ?_
    intro hwu hj
    clear hI9
    replace G : zS T A s.heap s [wu, z] _ _ := G
    replace hl : lv_has ls 4 [(3, .int (nI j)), (2, .int u), (0, .ref h), (1, .ref o)] := hl
    refine lv_iload_n hx hb dX0_treesOf_30 rfl (lv_at hl 0 rfl) ?_
    refine lv_aload_n hx hb dX0_treesOf_31 rfl (lv_at hl 2 rfl) ?_
    refine zEx6 hwu ?_
    intro a1_22 a2_23 a3_24 a4_25 a5_26 a6_27 hbs9
    clear hwu
    subst hbs9
    have G : zS T A s.heap s [[zO0 h md (zWy cr inn k1) o (zPl cr inn k1) a1_22 a2_23 a3_24 a4_25 a5_26 a6_27], [zAr T 0 a1_22 7 g1_2], [zAr T 0 a2_23 7 g2_3], [zAr T 0 a3_24 7 y3], [zAr T 0 a4_25 n4 f4], [zAr T 0 a5_26 n4 f5], [zAr T 0 a6_27 n4 f6], z] _ _ := G.re rfl
    refine z_get C G clX0 0 rfl 1 (by decide) m_fl_RX0_57 rfl dX0_treesOf_32 ?_
    refine lv_icmp_ge (tgt := 58) hx hb dX0_treesOf_35 (by decide) (fun c_28 => ?_) (fun c_28 => ?_)
    · have c_28n : (zWy cr inn k1).toInt ≤ (j : Int) := by have q := (fa_le _ _).mp c_28; rw [nI_toInt (n := j) (by omega)] at q; exact q
      refine lv_iload_n hx hb dX0_treesOf_58 rfl (lv_at hl 1 rfl) ?_
      have hw_29 : bWays T h o md (zWy cr inn k1) (zPl cr inn k1) g1_2 g2_3 y3 f4 f5 f6 n4 [zO0 h md (zWy cr inn k1) o (zPl cr inn k1) a1_22 a2_23 a3_24 a4_25 a5_26 a6_27, zAr T 0 a1_22 7 g1_2, zAr T 0 a2_23 7 g2_3, zAr T 0 a3_24 7 y3, zAr T 0 a4_25 n4 f4, zAr T 0 a5_26 n4 f5, zAr T 0 a6_27 n4 f6] := ⟨a1_22, a2_23, a3_24, a4_25, a5_26, a6_27, rfl⟩
      have G : zS T A s.heap s [[zO0 h md (zWy cr inn k1) o (zPl cr inn k1) a1_22 a2_23 a3_24 a4_25 a5_26 a6_27, zAr T 0 a1_22 7 g1_2, zAr T 0 a2_23 7 g2_3, zAr T 0 a3_24 7 y3, zAr T 0 a4_25 n4 f4, zAr T 0 a5_26 n4 f5, zAr T 0 a6_27 n4 f6], z] _ _ := G.re rfl
      exact z_back hQz_ (z_iret C hr hlocks G (Nat.le_of_ble_eq_true rfl) (Nat.le_of_ble_eq_true rfl) dX0_treesOf_59 ⟨([zO0 h md (zWy cr inn k1) o (zPl cr inn k1) a1_22 a2_23 a3_24 a4_25 a5_26 a6_27, zAr T 0 a1_22 7 g1_2, zAr T 0 a2_23 7 g2_3, zAr T 0 a3_24 7 y3, zAr T 0 a4_25 n4 f4, zAr T 0 a5_26 n4 f5, zAr T 0 a6_27 n4 f6]), g1_2, g2_3, y3, rfl, hw_29, h_5⟩)
    · have c_28n : ¬ (zWy cr inn k1).toInt ≤ (j : Int) := fun q => c_28 ((fa_le _ _).mpr (by rw [nI_toInt (n := j) (by omega)]; exact q))
      refine lv_aload_n hx hb dX0_treesOf_38 rfl (lv_at hl 2 rfl) ?_
      have hw_30 : bWays T h o md (zWy cr inn k1) (zPl cr inn k1) g1_2 g2_3 y3 f4 f5 f6 n4 [zO0 h md (zWy cr inn k1) o (zPl cr inn k1) a1_22 a2_23 a3_24 a4_25 a5_26 a6_27, zAr T 0 a1_22 7 g1_2, zAr T 0 a2_23 7 g2_3, zAr T 0 a3_24 7 y3, zAr T 0 a4_25 n4 f4, zAr T 0 a5_26 n4 f5, zAr T 0 a6_27 n4 f6] := ⟨a1_22, a2_23, a3_24, a4_25, a5_26, a6_27, rfl⟩
      have G : zS T A s.heap s [[zO0 h md (zWy cr inn k1) o (zPl cr inn k1) a1_22 a2_23 a3_24 a4_25 a5_26 a6_27, zAr T 0 a1_22 7 g1_2, zAr T 0 a2_23 7 g2_3, zAr T 0 a3_24 7 y3, zAr T 0 a4_25 n4 f4, zAr T 0 a5_26 n4 f5, zAr T 0 a6_27 n4 f6], z] _ _ := G.re rfl
      refine z_Vi (bc := [[zO0 h md (zWy cr inn k1) o (zPl cr inn k1) a1_22 a2_23 a3_24 a4_25 a5_26 a6_27, zAr T 0 a1_22 7 g1_2, zAr T 0 a2_23 7 g2_3, zAr T 0 a3_24 7 y3, zAr T 0 a4_25 n4 f4, zAr T 0 a5_26 n4 f5, zAr T 0 a6_27 n4 f6], z]) (br := []) (As := []) (rest := []) C G (c_allComeByRow l T h o md (zWy cr inn k1) (zPl cr inn k1) g1_2 g2_3 y3 f4 f5 f6 n4 ([zO0 h md (zWy cr inn k1) o (zPl cr inn k1) a1_22 a2_23 a3_24 a4_25 a5_26 a6_27, zAr T 0 a1_22 7 g1_2, zAr T 0 a2_23 7 g2_3, zAr T 0 a3_24 7 y3, zAr T 0 a4_25 n4 f4, zAr T 0 a5_26 n4 f5, zAr T 0 a6_27 n4 f6]) cr inn k1 k2 k3 k4 z hw_30 hz (by first | with_reducible assumption | with_reducible rfl | omega | assumption | rfl)) (kV_RX0_122 C.2.2.2.2 (Nat.le_of_ble_eq_true rfl) (Nat.le_of_ble_eq_true rfl)) [0, 1] [0, 0] rfl rfl (ci := 0) (qc := (RX0, TX0, 10)) rfl rfl (List.mem_flatten.mpr ⟨_, List.mem_of_getElem? (i := 0) rfl, (bWays_mem hw_30).choose_spec⟩) rfl rfl hl.1 dX0_treesOf_39 (Nat.le_of_ble_eq_true rfl) (Nat.le_of_ble_eq_true rfl) (fun r_32 b1 H locs hw G => ?_)
      refine zAn2 hw ?_
      intro hbs9 h_31
      clear hw
      subst hbs9
      have G : zS T A s.heap s [[zO0 h md (zWy cr inn k1) o (zPl cr inn k1) a1_22 a2_23 a3_24 a4_25 a5_26 a6_27, zAr T 0 a1_22 7 g1_2, zAr T 0 a2_23 7 g2_3, zAr T 0 a3_24 7 y3, zAr T 0 a4_25 n4 f4, zAr T 0 a5_26 n4 f5, zAr T 0 a6_27 n4 f6], z] _ _ := G
      replace h_31 : zHd ((r_32 = 0 ∨ r_32 = 1)) := h_31
      refine lv_if_eq (tgt := 48) hx hb dX0_treesOf_42 (by decide) (fun c_33 => ?_) (fun c_33 => ?_)
      · have c_33n : r_32.toInt = (0 : Int) := (fa_eq _ _).mp c_33
        refine lv_aload_n hx hb dX0_treesOf_48 rfl (lv_at hl 2 rfl) ?_
        refine z_Vv (bc := [[zO0 h md (zWy cr inn k1) o (zPl cr inn k1) a1_22 a2_23 a3_24 a4_25 a5_26 a6_27, zAr T 0 a1_22 7 g1_2, zAr T 0 a2_23 7 g2_3, zAr T 0 a3_24 7 y3, zAr T 0 a4_25 n4 f4, zAr T 0 a5_26 n4 f5, zAr T 0 a6_27 n4 f6]]) (br := [z]) (As := []) (rest := []) C G (c_nextRow l T h o md (zWy cr inn k1) (zPl cr inn k1) g1_2 g2_3 y3 f4 f5 f6 n4 ([zO0 h md (zWy cr inn k1) o (zPl cr inn k1) a1_22 a2_23 a3_24 a4_25 a5_26 a6_27, zAr T 0 a1_22 7 g1_2, zAr T 0 a2_23 7 g2_3, zAr T 0 a3_24 7 y3, zAr T 0 a4_25 n4 f4, zAr T 0 a5_26 n4 f5, zAr T 0 a6_27 n4 f6]) hw_30) (kV_RX0_126 C.2.2.2.2 (Nat.le_of_ble_eq_true rfl) (Nat.le_of_ble_eq_true rfl)) [0] [0] rfl rfl (ci := 0) (qc := (RX0, TX0, 10)) rfl rfl (List.mem_flatten.mpr ⟨_, List.mem_of_getElem? (i := 0) rfl, (bWays_mem hw_30).choose_spec⟩) rfl rfl hl.1 dX0_treesOf_49 (Nat.le_of_ble_eq_true rfl) (Nat.le_of_ble_eq_true rfl) (fun b1 H locs hw G => ?_)
        refine zEx2 hw ?_
        intro w2_34 g3_35
        refine zCu2 ?_
        intro hbs9 h_36
        clear hw
        subst hbs9
        have G : zS T A s.heap s [z, w2_34] _ _ := G
        refine lv_iinc (v := nI (j + 1)) (lv' := [(3, .int (nI (j + 1))), (2, .int u), (0, .ref h), (1, .ref o)]) hx hb dX0_treesOf_52 hl (k := 0) rfl (z_inc j 1) (by decide) (zLvf_h rfl) (fun ls hl => ?_)
        refine lv_goto (tgt := 30) hx hb dX0_treesOf_55 (by decide) ?_
        have G := G.sub (bs' := [w2_34, z]) [1, 0] rfl
        exact ih_30 (j + 1) u w2_34 g3_35 (show bWays T h o md (zWy cr inn k1) (zPl cr inn k1) g1_2 g2_3 g3_35 f4 f5 f6 n4 w2_34 ∧ (j + 1) ≤ (zWy cr inn k1).toInt.toNat from ⟨h_36, by omega⟩) (show (zWy cr inn k1).toInt.toNat - (j + 1) < (zWy cr inn k1).toInt.toNat - j from by omega) _ _ ls G (lv_sub hl [0, 1, 2, 3] rfl)
      · have c_33n : ¬ r_32.toInt = (0 : Int) := fun q => c_33 ((fa_eq _ _).mpr q)
        refine lv_iinc (v := u + 1) (lv' := [(2, .int (u + 1)), (3, .int (nI j)), (0, .ref h), (1, .ref o)]) hx hb dX0_treesOf_45 hl (k := 1) rfl rfl (by decide) (zLvf_h rfl) (fun ls hl => ?_)
        refine lv_aload_n hx hb dX0_treesOf_48 rfl (lv_at hl 2 rfl) ?_
        refine z_Vv (bc := [[zO0 h md (zWy cr inn k1) o (zPl cr inn k1) a1_22 a2_23 a3_24 a4_25 a5_26 a6_27, zAr T 0 a1_22 7 g1_2, zAr T 0 a2_23 7 g2_3, zAr T 0 a3_24 7 y3, zAr T 0 a4_25 n4 f4, zAr T 0 a5_26 n4 f5, zAr T 0 a6_27 n4 f6]]) (br := [z]) (As := []) (rest := []) C G (c_nextRow l T h o md (zWy cr inn k1) (zPl cr inn k1) g1_2 g2_3 y3 f4 f5 f6 n4 ([zO0 h md (zWy cr inn k1) o (zPl cr inn k1) a1_22 a2_23 a3_24 a4_25 a5_26 a6_27, zAr T 0 a1_22 7 g1_2, zAr T 0 a2_23 7 g2_3, zAr T 0 a3_24 7 y3, zAr T 0 a4_25 n4 f4, zAr T 0 a5_26 n4 f5, zAr T 0 a6_27 n4 f6]) hw_30) (kV_RX0_126 C.2.2.2.2 (Nat.le_of_ble_eq_true rfl) (Nat.le_of_ble_eq_true rfl)) [0] [0] rfl rfl (ci := 0) (qc := (RX0, TX0, 10)) rfl rfl (List.mem_flatten.mpr ⟨_, List.mem_of_getElem? (i := 0) rfl, (bWays_mem hw_30).choose_spec⟩) rfl rfl hl.1 dX0_treesOf_49 (Nat.le_of_ble_eq_true rfl) (Nat.le_of_ble_eq_true rfl) (fun b1 H locs hw G => ?_)
        refine zEx2 hw ?_
        intro w2_38 g3_39
        refine zCu2 ?_
        intro hbs9 h_40
        clear hw
        subst hbs9
        have G : zS T A s.heap s [z, w2_38] _ _ := G
        refine lv_iinc (v := nI (j + 1)) (lv' := [(3, .int (nI (j + 1))), (2, .int (u + 1)), (0, .ref h), (1, .ref o)]) hx hb dX0_treesOf_52 hl (k := 1) rfl (z_inc j 1) (by decide) (zLvf_h rfl) (fun ls hl => ?_)
        refine lv_goto (tgt := 30) hx hb dX0_treesOf_55 (by decide) ?_
        have G := G.sub (bs' := [w2_38, z]) [1, 0] rfl
        exact ih_30 (j + 1) (u + 1) w2_38 g3_39 (show bWays T h o md (zWy cr inn k1) (zPl cr inn k1) g1_2 g2_3 g3_39 f4 f5 f6 n4 w2_38 ∧ (j + 1) ≤ (zWy cr inn k1).toInt.toNat from ⟨h_40, by omega⟩) (show (zWy cr inn k1).toInt.toNat - (j + 1) < (zWy cr inn k1).toInt.toNat - j from by omega) _ _ ls G (lv_sub hl [0, 1, 2, 3] rfl)
  · have c_14n : ¬ 7 ≤ i := fun q => c_14 ((nI_leI (a := 7) (b := i) (by omega) (by omega)).mpr q)
    refine lv_aload_n hx hb dX0_treesOf_15 rfl (lv_at hl 2 rfl) ?_
    refine zEx6 hwt ?_
    intro a1_42 a2_43 a3_44 a4_45 a5_46 a6_47 hbs9
    clear hwt
    subst hbs9
    have G : zS T A s.heap s [[zO0 h md (zWy cr inn k1) o (zPl cr inn k1) a1_42 a2_43 a3_44 a4_45 a5_46 a6_47], [zAr T 0 a1_42 7 g1_2], [zAr T 0 a2_43 7 g2_3], [zAr T 0 a3_44 7 x3], [zAr T 0 a4_45 n4 f4], [zAr T 0 a5_46 n4 f5], [zAr T 0 a6_47 n4 f6], z] _ _ := G.re rfl
    refine z_get C G clX0 0 rfl 6 (by decide) m_fl_RX0_25 rfl dX0_treesOf_16 ?_
    refine lv_iload_n hx hb dX0_treesOf_19 rfl (lv_at hl 0 rfl) ?_
    refine lv_iconst (v := 0) hx hb dX0_treesOf_20 (by decide) ?_
    refine z_ist C G 3 rfl (vp_in_nI (by omega) (by decide)) dX0_treesOf_21 (fun H locs G => ?_)
    rw [nI_clamp (by omega)] at G
    have G : zS T A s.heap s [[zO0 h md (zWy cr inn k1) o (zPl cr inn k1) a1_42 a2_43 a3_44 a4_45 a5_46 a6_47], [zAr T 0 a1_42 7 g1_2], [zAr T 0 a2_43 7 g2_3], [zAr T 0 a3_44 7 (upd x3 i 0)], [zAr T 0 a4_45 n4 f4], [zAr T 0 a5_46 n4 f5], [zAr T 0 a6_47 n4 f6], z] _ _ := G
    refine lv_iinc (v := nI (i + 1)) (lv' := [(3, .int (nI (i + 1))), (2, .int 0), (0, .ref h), (1, .ref o)]) hx hb dX0_treesOf_22 hl (k := 0) rfl (z_inc i 1) (by decide) (zLvf_h rfl) (fun ls hl => ?_)
    refine lv_goto (tgt := 9) hx hb dX0_treesOf_25 (by decide) ?_
    have hw_48 : bWays T h o md (zWy cr inn k1) (zPl cr inn k1) g1_2 g2_3 (upd x3 i 0) f4 f5 f6 n4 [zO0 h md (zWy cr inn k1) o (zPl cr inn k1) a1_42 a2_43 a3_44 a4_45 a5_46 a6_47, zAr T 0 a1_42 7 g1_2, zAr T 0 a2_43 7 g2_3, zAr T 0 a3_44 7 (upd x3 i 0), zAr T 0 a4_45 n4 f4, zAr T 0 a5_46 n4 f5, zAr T 0 a6_47 n4 f6] := ⟨a1_42, a2_43, a3_44, a4_45, a5_46, a6_47, rfl⟩
    have G : zS T A s.heap s [[zO0 h md (zWy cr inn k1) o (zPl cr inn k1) a1_42 a2_43 a3_44 a4_45 a5_46 a6_47, zAr T 0 a1_42 7 g1_2, zAr T 0 a2_43 7 g2_3, zAr T 0 a3_44 7 (upd x3 i 0), zAr T 0 a4_45 n4 f4, zAr T 0 a5_46 n4 f5, zAr T 0 a6_47 n4 f6], z] _ _ := G.re rfl
    exact ih_9 (i + 1) ([zO0 h md (zWy cr inn k1) o (zPl cr inn k1) a1_42 a2_43 a3_44 a4_45 a5_46 a6_47, zAr T 0 a1_42 7 g1_2, zAr T 0 a2_43 7 g2_3, zAr T 0 a3_44 7 (upd x3 i 0), zAr T 0 a4_45 n4 f4, zAr T 0 a5_46 n4 f5, zAr T 0 a6_47 n4 f6]) (upd x3 i 0) (show bWays T h o md (zWy cr inn k1) (zPl cr inn k1) g1_2 g2_3 (upd x3 i 0) f4 f5 f6 n4 ([zO0 h md (zWy cr inn k1) o (zPl cr inn k1) a1_42 a2_43 a3_44 a4_45 a5_46 a6_47, zAr T 0 a1_42 7 g1_2, zAr T 0 a2_43 7 g2_3, zAr T 0 a3_44 7 (upd x3 i 0), zAr T 0 a4_45 n4 f4, zAr T 0 a5_46 n4 f5, zAr T 0 a6_47 n4 f6]) ∧ (i + 1) ≤ 7 from ⟨hw_48, by omega⟩) (show 7 - (i + 1) < 7 - i from by omega) _ _ ls G (lv_sub hl [0, 1, 2, 3] rfl)
set_option maxHeartbeats 4000000 in
set_option maxRecDepth 100000 in
/-- c_t_trees -/
theorem c_t_trees (l : Launch) (T : zTy) (xo : Nat) (t : Nat) (im : Nat) (mk : Nat) (rd : Nat) (po : Nat) (co : Nat) (tr : Nat) (wa : Nat) (wb_ : Nat) (fi : Nat) (cd : Nat) (l0 : Nat) (l1 : Nat) (d0 : Nat) (d1 : Nat) (g0 : Nat) (g1 : Nat) (ln : Int32) (fl : Int32) (pl : Int32) (ft : Nat → Int32) (fk : Nat → Int32) (wt : va_W) (cr0_ : Int32) (inn0_ : Int32) (k10_ : Nat → Int32) (k20_ : Nat → Int32) (k30_ : Nat → Int32) (k40_ : Nat → Int32) (z0_ : va_W) (cr1_ : Int32) (inn1_ : Int32) (k11_ : Nat → Int32) (k21_ : Nat → Int32) (k31_ : Nat → Int32) (k41_ : Nat → Int32) (z1_ : va_W) (laA : Nat) (mdA : Int32) (wyA : Int32) (pc_A : Int32) (f1A : Nat → Int32) (f2A : Nat → Int32) (f3A : Nat → Int32) (f4A : Nat → Int32) (f5A : Nat → Int32) (f6A : Nat → Int32) (n4A : Nat) (wwA : va_W) (laB : Nat) (mdB : Int32) (wyB : Int32) (pc_B : Int32) (f1B : Nat → Int32) (f2B : Nat → Int32) (f3B : Nat → Int32) (f4B : Nat → Int32) (f5B : Nat → Int32) (f6B : Nat → Int32) (n4B : Nat) (wwB : va_W) (i1 : Int32) (ht : bTold T t l0 l1 d0 d1 g0 g1 ln fl pl ft fk wt) (hK : zKT fk) (hz0_ : bLand T l0 cr0_ inn0_ k10_ k20_ k30_ k40_ z0_) (hI0_ : zLI cr0_ k10_ k30_) (hz1_ : bLand T l1 cr1_ inn1_ k11_ k21_ k31_ k41_ z1_) (hI1_ : zLI cr1_ k11_ k31_) (hwwA : bWays T wa laA mdA wyA pc_A f1A f2A f3A f4A f5A f6A n4A wwA) (hpwA : zPw n4A) (hmdA : mdA = 0 ∨ laA = l0) (hwmA : 0 ≤ wyA.toInt ∧ wyA.toInt ≤ 16384) (hTbA : mdA = 0 ∨ zTab cr0_ inn0_ k10_ k20_ wyA pc_A f1A f2A f5A n4A) (hLq0 : zLq cr0_ k10_ k20_) (hwwB : bWays T wb_ laB mdB wyB pc_B f1B f2B f3B f4B f5B f6B n4B wwB) (hpwB : zPw n4B) (hmdB : mdB = 0 ∨ laB = l1) (hwmB : 0 ≤ wyB.toInt ∧ wyB.toInt ≤ 16384) (hTbB : mdB = 0 ∨ zTab cr1_ inn1_ k11_ k21_ wyB pc_B f1B f2B f5B n4B) (hLq1 : zLq cr1_ k11_ k21_) : zMi l T yX11_trees cX11_trees 4 (some .int) 6 0 0 [.ref xo, .int i1] [[zO10 xo t im mk rd po co tr wa wb_ fi cd], wt, z0_, z1_, wwA, wwB] (fun (r : Int32) bs => ∃ (laA_2 : Nat) (mdA_2 : Int32) (wyA_2 : Int32) (pc_A_2 : Int32) (f1A_2 : Nat → Int32) (f2A_2 : Nat → Int32) (f3A_2 : Nat → Int32) (f4A_2 : Nat → Int32) (f5A_2 : Nat → Int32) (f6A_2 : Nat → Int32) (n4A_2 : Nat) (wwA_2 : va_W) (laB_2 : Nat) (mdB_2 : Int32) (wyB_2 : Int32) (pc_B_2 : Int32) (f1B_2 : Nat → Int32) (f2B_2 : Nat → Int32) (f3B_2 : Nat → Int32) (f4B_2 : Nat → Int32) (f5B_2 : Nat → Int32) (f6B_2 : Nat → Int32) (n4B_2 : Nat) (wwB_2 : va_W), bs = [[zO10 xo t im mk rd po co tr wa wb_ fi cd], wt, z0_, z1_, wwA_2, wwB_2] ∧ bWays T wa laA_2 mdA_2 wyA_2 pc_A_2 f1A_2 f2A_2 f3A_2 f4A_2 f5A_2 f6A_2 n4A_2 wwA_2 ∧ (mdA_2 = 0 ∨ laA_2 = l0) ∧ (0 ≤ wyA_2.toInt ∧ wyA_2.toInt ≤ 16384) ∧ n4A_2 = n4A ∧ mdA_2 = mdA ∧ (mdA_2 = 0 ∨ zTab cr0_ inn0_ k10_ k20_ wyA_2 pc_A_2 f1A_2 f2A_2 f5A_2 n4A_2) ∧ bWays T wb_ laB_2 mdB_2 wyB_2 pc_B_2 f1B_2 f2B_2 f3B_2 f4B_2 f5B_2 f6B_2 n4B_2 wwB_2 ∧ (mdB_2 = 0 ∨ laB_2 = l1) ∧ (0 ≤ wyB_2.toInt ∧ wyB_2.toInt ≤ 16384) ∧ n4B_2 = n4B ∧ mdB_2 = mdB ∧ (mdB_2 = 0 ∨ zTab cr1_ inn1_ k11_ k21_ wyB_2 pc_B_2 f1B_2 f2B_2 f5B_2 n4B_2)) := by
  refine zMi_of (own := RX11) (by decide) rfl (Nat.le_of_ble_eq_true rfl) ?_
  intro p e s m args below meth c A ls C hr hlocks hnm hAe G hl
  refine zHide (fun Qz_ hQz_ => ?_)
  have hx := C.1
  have hb := C.2.1
  replace hmdA : zHd (mdA = 0 ∨ laA = l0) := hmdA
  replace hTbA : zHd (mdA = 0 ∨ zTab cr0_ inn0_ k10_ k20_ wyA pc_A f1A f2A f5A n4A) := hTbA
  replace hmdB : zHd (mdB = 0 ∨ laB = l1) := hmdB
  replace hTbB : zHd (mdB = 0 ∨ zTab cr1_ inn1_ k11_ k21_ wyB pc_B f1B f2B f5B n4B) := hTbB
  have hl : lv_has ls 4 [(0, .ref xo), (1, .int i1)] := hl
  refine lv_aload_n hx hb dX11_trees_0 rfl (lv_at hl 0 rfl) ?_
  refine z_get C G clX11 0 rfl 0 (by decide) m_fl_RX11_10 rfl dX11_trees_1 ?_
  refine lv_iload_n hx hb dX11_trees_4 rfl (lv_at hl 1 rfl) ?_
  refine z_Vq (bc := [wt]) (br := [[zO10 xo t im mk rd po co tr wa wb_ fi cd], z0_, z1_, wwA, wwB]) (As := [.int i1]) (rest := []) C G (c_landAt l T t l0 l1 d0 d1 g0 g1 ln fl pl ft fk wt i1 ht) (kV_RX11_121 C.2.2.2.2 (Nat.le_of_ble_eq_true rfl) (Nat.le_of_ble_eq_true rfl)) [1] [1] rfl rfl (ci := 8) (qc := (RX9, TX9, 8)) rfl rfl (List.mem_flatten.mpr ⟨_, List.mem_of_getElem? (i := 0) rfl, (bTold_mem ht).choose_spec⟩) rfl rfl hl.1 dX11_trees_5 (Nat.le_of_ble_eq_true rfl) (Nat.le_of_ble_eq_true rfl) (fun r_2 b1 H locs hw G => ?_)
  refine zAn2 hw ?_
  intro hbs9 hc_1
  clear hw
  subst hbs9
  have G : zS T A s.heap s [[zO10 xo t im mk rd po co tr wa wb_ fi cd], z0_, z1_, wwA, wwB, wt] _ _ := G
  rcases hc_1 with ⟨rfl, h_3⟩ | ⟨rfl, h_4, h_5⟩ | ⟨rfl, h_6, h_7⟩
  · have h_3 : (i1.toInt < 0 ∨ (fk 0).toInt ≤ i1.toInt ∨ 2 ≤ i1.toInt) := h_3
    refine lv_astore_nN (lv' := [(2, .null), (0, .ref xo), (1, .int i1)]) hx hb dX11_trees_8 rfl hl (by decide) (zLvf_h rfl) (fun ls hl => ?_)
    refine lv_aload_nN hx hb dX11_trees_9 rfl (lv_at hl 0 rfl) ?_
    refine lv_ifnonnullN hx hb dX11_trees_10 ?_
    refine lv_iconst (v := (-1)) hx hb dX11_trees_13 (by decide) ?_
    have G := G.sub (bs' := [[zO10 xo t im mk rd po co tr wa wb_ fi cd], wt, z0_, z1_, wwA, wwB]) [0, 5, 1, 2, 3, 4] rfl
    exact z_back hQz_ (z_iret C hr hlocks G (Nat.le_of_ble_eq_true rfl) (Nat.le_of_ble_eq_true rfl) dX11_trees_14 ⟨laA, mdA, wyA, pc_A, f1A, f2A, f3A, f4A, f5A, f6A, n4A, wwA, laB, mdB, wyB, pc_B, f1B, f2B, f3B, f4B, f5B, f6B, n4B, wwB, rfl, hwwA, hmdA, hwmA, rfl, rfl, hTbA, hwwB, hmdB, hwmB, rfl, rfl, hTbB⟩)
  · have h_4 : i1.toInt = 0 := h_4
    have h_5 : 0 < (fk 0).toInt := h_5
    refine lv_astore_n (lv' := [(2, .ref l0), (0, .ref xo), (1, .int i1)]) hx hb dX11_trees_8 rfl hl (by decide) (zLvf_h rfl) (fun ls hl => ?_)
    refine lv_aload_n hx hb dX11_trees_9 rfl (lv_at hl 0 rfl) ?_
    refine lv_ifnonnull (tgt := 15) hx hb dX11_trees_10 (by decide) ?_
    refine lv_iload_n hx hb dX11_trees_15 rfl (lv_at hl 2 rfl) ?_
    refine lv_if_ne (tgt := 26) hx hb dX11_trees_16 (by decide) (fun q => absurd ((fa_eq i1 (0 : Int32)).mpr (by show i1.toInt = (0 : Int); omega)) q) (fun _ => ?_)
    refine lv_aload_n hx hb dX11_trees_19 rfl (lv_at hl 1 rfl) ?_
    refine z_get C G clX11 0 rfl 7 (by decide) m_fl_RX11_55 rfl dX11_trees_20 ?_
    refine lv_goto (tgt := 30) hx hb dX11_trees_23 (by decide) ?_
    refine lv_astore_n (lv' := [(3, .ref wa), (2, .ref l0), (0, .ref xo), (1, .int i1)]) hx hb dX11_trees_30 rfl hl (by decide) (zLvf_h rfl) (fun ls hl => ?_)
    refine lv_aload_n hx hb dX11_trees_31 rfl (lv_at hl 0 rfl) ?_
    refine lv_aload_n hx hb dX11_trees_32 rfl (lv_at hl 1 rfl) ?_
    refine z_Vi (bc := [wwA, z0_]) (br := [[zO10 xo t im mk rd po co tr wa wb_ fi cd], z1_, wwB, wt]) (As := [.ref l0]) (rest := []) C G (c_t_treesOf l T wa laA mdA wyA pc_A f1A f2A f3A f4A f5A f6A n4A wwA l0 cr0_ inn0_ k10_ k20_ k30_ k40_ z0_ hwwA hz0_ (by first | with_reducible assumption | with_reducible rfl | omega | assumption | rfl)) (kV_RX11_268 C.2.2.2.2 (Nat.le_of_ble_eq_true rfl) (Nat.le_of_ble_eq_true rfl)) [3, 1] [1, 1] rfl rfl (ci := 0) (qc := (RX0, TX0, 10)) rfl rfl (List.mem_flatten.mpr ⟨_, List.mem_of_getElem? (i := 0) rfl, (bWays_mem hwwA).choose_spec⟩) rfl rfl hl.1 dX11_trees_33 (Nat.le_of_ble_eq_true rfl) (Nat.le_of_ble_eq_true rfl) (fun r_14 b1 H locs hw G => ?_)
    refine zEx4 hw ?_
    intro w2_8 g1_9 g2_10 g3_11
    refine zCu3 ?_
    intro hbs9 h_12 h_13
    clear hw
    subst hbs9
    have G : zS T A s.heap s [[zO10 xo t im mk rd po co tr wa wb_ fi cd], z1_, wwB, wt, w2_8, z0_] _ _ := G
    have G := G.sub (bs' := [[zO10 xo t im mk rd po co tr wa wb_ fi cd], wt, z0_, z1_, w2_8, wwB]) [0, 3, 5, 1, 4, 2] rfl
    exact z_back hQz_ (z_iret C hr hlocks G (Nat.le_of_ble_eq_true rfl) (Nat.le_of_ble_eq_true rfl) dX11_trees_36 ⟨l0, mdA, (zWy cr0_ inn0_ k10_), (zPl cr0_ inn0_ k10_), g1_9, g2_10, g3_11, f4A, f5A, f6A, n4A, w2_8, laB, mdB, wyB, pc_B, f1B, f2B, f3B, f4B, f5B, f6B, n4B, wwB, rfl, h_12, (Or.inr rfl), (by have q := zWy_in (inn := inn0_) hI0_; omega), rfl, rfl, (hTbA.imp id (fun q => ⟨rfl, rfl, h_13, q.2.2.2⟩)), hwwB, hmdB, hwmB, rfl, rfl, hTbB⟩)
  · have h_6 : i1.toInt = 1 := h_6
    have h_7 : 1 < (fk 0).toInt := h_7
    refine lv_astore_n (lv' := [(2, .ref l1), (0, .ref xo), (1, .int i1)]) hx hb dX11_trees_8 rfl hl (by decide) (zLvf_h rfl) (fun ls hl => ?_)
    refine lv_aload_n hx hb dX11_trees_9 rfl (lv_at hl 0 rfl) ?_
    refine lv_ifnonnull (tgt := 15) hx hb dX11_trees_10 (by decide) ?_
    refine lv_iload_n hx hb dX11_trees_15 rfl (lv_at hl 2 rfl) ?_
    refine lv_if_ne (tgt := 26) hx hb dX11_trees_16 (by decide) (fun _ => ?_) (fun q => absurd q (fun q2 => absurd (show i1.toInt = (0 : Int) from (fa_eq i1 (0 : Int32)).mp q2) (by omega)))
    refine lv_aload_n hx hb dX11_trees_26 rfl (lv_at hl 1 rfl) ?_
    refine z_get C G clX11 0 rfl 8 (by decide) m_fl_RX11_59 rfl dX11_trees_27 ?_
    refine lv_astore_n (lv' := [(3, .ref wb_), (2, .ref l1), (0, .ref xo), (1, .int i1)]) hx hb dX11_trees_30 rfl hl (by decide) (zLvf_h rfl) (fun ls hl => ?_)
    refine lv_aload_n hx hb dX11_trees_31 rfl (lv_at hl 0 rfl) ?_
    refine lv_aload_n hx hb dX11_trees_32 rfl (lv_at hl 1 rfl) ?_
    refine z_Vi (bc := [wwB, z1_]) (br := [[zO10 xo t im mk rd po co tr wa wb_ fi cd], z0_, wwA, wt]) (As := [.ref l1]) (rest := []) C G (c_t_treesOf l T wb_ laB mdB wyB pc_B f1B f2B f3B f4B f5B f6B n4B wwB l1 cr1_ inn1_ k11_ k21_ k31_ k41_ z1_ hwwB hz1_ (by first | with_reducible assumption | with_reducible rfl | omega | assumption | rfl)) (kV_RX11_268 C.2.2.2.2 (Nat.le_of_ble_eq_true rfl) (Nat.le_of_ble_eq_true rfl)) [4, 2] [2, 1] rfl rfl (ci := 0) (qc := (RX0, TX0, 10)) rfl rfl (List.mem_flatten.mpr ⟨_, List.mem_of_getElem? (i := 0) rfl, (bWays_mem hwwB).choose_spec⟩) rfl rfl hl.1 dX11_trees_33 (Nat.le_of_ble_eq_true rfl) (Nat.le_of_ble_eq_true rfl) (fun r_21 b1 H locs hw G => ?_)
    refine zEx4 hw ?_
    intro w2_15 g1_16 g2_17 g3_18
    refine zCu3 ?_
    intro hbs9 h_19 h_20
    clear hw
    subst hbs9
    have G : zS T A s.heap s [[zO10 xo t im mk rd po co tr wa wb_ fi cd], z0_, wwA, wt, w2_15, z1_] _ _ := G
    have G := G.sub (bs' := [[zO10 xo t im mk rd po co tr wa wb_ fi cd], wt, z0_, z1_, wwA, w2_15]) [0, 3, 1, 5, 2, 4] rfl
    exact z_back hQz_ (z_iret C hr hlocks G (Nat.le_of_ble_eq_true rfl) (Nat.le_of_ble_eq_true rfl) dX11_trees_36 ⟨laA, mdA, wyA, pc_A, f1A, f2A, f3A, f4A, f5A, f6A, n4A, wwA, l1, mdB, (zWy cr1_ inn1_ k11_), (zPl cr1_ inn1_ k11_), g1_16, g2_17, g3_18, f4B, f5B, f6B, n4B, w2_15, rfl, hwwA, hmdA, hwmA, rfl, rfl, hTbA, h_19, (Or.inr rfl), (by have q := zWy_in (inn := inn1_) hI1_; omega), rfl, rfl, (hTbB.imp id (fun q => ⟨rfl, rfl, h_20, q.2.2.2⟩))⟩)
set_option maxHeartbeats 4000000 in
set_option maxRecDepth 100000 in
/-- fit -/
theorem c_t_fit (l : Launch) (T : zTy) (xo : Nat) (t : Nat) (im : Nat) (mk : Nat) (rd : Nat) (po : Nat) (co : Nat) (tr : Nat) (wa : Nat) (wb_ : Nat) (fi : Nat) (cd : Nat) (l0 : Nat) (l1 : Nat) (d0 : Nat) (d1 : Nat) (g0 : Nat) (g1 : Nat) (ln : Int32) (fl : Int32) (pl : Int32) (ft : Nat → Int32) (fk : Nat → Int32) (wt : va_W) (cr0_ : Int32) (inn0_ : Int32) (k10_ : Nat → Int32) (k20_ : Nat → Int32) (k30_ : Nat → Int32) (k40_ : Nat → Int32) (z0_ : va_W) (cr1_ : Int32) (inn1_ : Int32) (k11_ : Nat → Int32) (k21_ : Nat → Int32) (k31_ : Nat → Int32) (k41_ : Nat → Int32) (z1_ : va_W) (gg0_ : Int32) (q10_ : Nat → Int32) (q20_ : Nat → Int32) (wg0_ : va_W) (gg1_ : Int32) (q11_ : Nat → Int32) (q21_ : Nat → Int32) (wg1_ : va_W) (laA : Nat) (mdA : Int32) (wyA : Int32) (pc_A : Int32) (f1A : Nat → Int32) (f2A : Nat → Int32) (f3A : Nat → Int32) (f4A : Nat → Int32) (f5A : Nat → Int32) (f6A : Nat → Int32) (n4A : Nat) (wwA : va_W) (laB : Nat) (mdB : Int32) (wyB : Int32) (pc_B : Int32) (f1B : Nat → Int32) (f2B : Nat → Int32) (f3B : Nat → Int32) (f4B : Nat → Int32) (f5B : Nat → Int32) (f6B : Nat → Int32) (n4B : Nat) (wwB : va_W) (e0f : Int32) (e1f : Int32) (e2f : Int32) (e3f : Int32) (e4f : Int32) (e5f : Int32) (r1f : Nat → Int32) (m1f : Nat) (r2f : Nat → Int32) (wff : va_W) (i1 : Int32) (i2 : Int32) (ht : bTold T t l0 l1 d0 d1 g0 g1 ln fl pl ft fk wt) (hK : zKT fk) (hz0_ : bLand T l0 cr0_ inn0_ k10_ k20_ k30_ k40_ z0_) (hI0_ : zLI cr0_ k10_ k30_) (hz1_ : bLand T l1 cr1_ inn1_ k11_ k21_ k31_ k41_ z1_) (hI1_ : zLI cr1_ k11_ k31_) (hg0_ : bLog T g0 gg0_ q10_ q20_ wg0_) (hg1_ : bLog T g1 gg1_ q11_ q21_ wg1_) (hwwA : bWays T wa laA mdA wyA pc_A f1A f2A f3A f4A f5A f6A n4A wwA) (hpwA : zPw n4A) (hmdA : mdA = 0 ∨ laA = l0) (hwmA : 0 ≤ wyA.toInt ∧ wyA.toInt ≤ 16384) (hTbA : mdA = 0 ∨ zTab cr0_ inn0_ k10_ k20_ wyA pc_A f1A f2A f5A n4A) (hLq0 : zLq cr0_ k10_ k20_) (hwwB : bWays T wb_ laB mdB wyB pc_B f1B f2B f3B f4B f5B f6B n4B wwB) (hpwB : zPw n4B) (hmdB : mdB = 0 ∨ laB = l1) (hwmB : 0 ≤ wyB.toInt ∧ wyB.toInt ≤ 16384) (hTbB : mdB = 0 ∨ zTab cr1_ inn1_ k11_ k21_ wyB pc_B f1B f2B f5B n4B) (hLq1 : zLq cr1_ k11_ k21_) (hwff : bFit T fi e0f e1f e2f e3f e4f e5f r1f m1f r2f wff) (hfw : zFw m1f) (hf3 : 0 ≤ e3f.toInt) (hFI : (¬ e0f = 0 → e1f.toInt = 0 ∧ ¬ mdA = 0 ∨ e1f.toInt = 1 ∧ ¬ mdB = 0)) : zMi l T yX11_fit cX11_fit 5 (some .boolean) 7 4 (6 * (zNA (i1.toInt = 0 ∧ 0 < (fk 0).toInt ∧ (0 ≤ i2.toInt ∧ i2.toInt < (fk 2).toInt ∧ i2.toInt < 2) ∧ (e0f.toInt = 0 ∨ ¬ e1f.toInt = i1.toInt ∨ ¬ e2f.toInt = i2.toInt)) mdA n4A (zPl cr0_ inn0_ k10_) - n4A) + 6 * (zNA (i1.toInt = 1 ∧ 1 < (fk 0).toInt ∧ (0 ≤ i2.toInt ∧ i2.toInt < (fk 2).toInt ∧ i2.toInt < 2) ∧ (e0f.toInt = 0 ∨ ¬ e1f.toInt = i1.toInt ∨ ¬ e2f.toInt = i2.toInt)) mdB n4B (zPl cr1_ inn1_ k11_) - n4B) + 2 * (zNF (i1.toInt = 1 ∧ 1 < (fk 0).toInt ∧ (0 ≤ i2.toInt ∧ i2.toInt < (fk 2).toInt ∧ i2.toInt < 2) ∧ (e0f.toInt = 0 ∨ ¬ e1f.toInt = i1.toInt ∨ ¬ e2f.toInt = i2.toInt)) (zNF (i1.toInt = 0 ∧ 0 < (fk 0).toInt ∧ (0 ≤ i2.toInt ∧ i2.toInt < (fk 2).toInt ∧ i2.toInt < 2) ∧ (e0f.toInt = 0 ∨ ¬ e1f.toInt = i1.toInt ∨ ¬ e2f.toInt = i2.toInt)) m1f (zMw mdA wyA cr0_ inn0_ k10_)) (zMw mdB wyB cr1_ inn1_ k11_) - m1f)) [.ref xo, .int i1, .int i2] [[zO10 xo t im mk rd po co tr wa wb_ fi cd], wt, z0_, z1_, wg0_, wg1_, wwA, wwB, wff] (fun (r : Int32) bs => ∃ (laA_2 : Nat) (mdA_2 : Int32) (wyA_2 : Int32) (pc_A_2 : Int32) (f1A_2 : Nat → Int32) (f2A_2 : Nat → Int32) (f3A_2 : Nat → Int32) (f4A_2 : Nat → Int32) (f5A_2 : Nat → Int32) (f6A_2 : Nat → Int32) (n4A_2 : Nat) (wwA_2 : va_W) (laB_2 : Nat) (mdB_2 : Int32) (wyB_2 : Int32) (pc_B_2 : Int32) (f1B_2 : Nat → Int32) (f2B_2 : Nat → Int32) (f3B_2 : Nat → Int32) (f4B_2 : Nat → Int32) (f5B_2 : Nat → Int32) (f6B_2 : Nat → Int32) (n4B_2 : Nat) (wwB_2 : va_W) (e0f_2 : Int32) (e1f_2 : Int32) (e2f_2 : Int32) (e3f_2 : Int32) (e4f_2 : Int32) (e5f_2 : Int32) (r1f_2 : Nat → Int32) (m1f_2 : Nat) (r2f_2 : Nat → Int32) (wff_2 : va_W), bs = [[zO10 xo t im mk rd po co tr wa wb_ fi cd], wt, z0_, z1_, wg0_, wg1_, wwA_2, wwB_2, wff_2] ∧ bWays T wa laA_2 mdA_2 wyA_2 pc_A_2 f1A_2 f2A_2 f3A_2 f4A_2 f5A_2 f6A_2 n4A_2 wwA_2 ∧ (mdA_2 = 0 ∨ laA_2 = l0) ∧ (0 ≤ wyA_2.toInt ∧ wyA_2.toInt ≤ 16384) ∧ n4A_2 = zNA (i1.toInt = 0 ∧ 0 < (fk 0).toInt ∧ (0 ≤ i2.toInt ∧ i2.toInt < (fk 2).toInt ∧ i2.toInt < 2) ∧ (e0f.toInt = 0 ∨ ¬ e1f.toInt = i1.toInt ∨ ¬ e2f.toInt = i2.toInt)) mdA n4A (zPl cr0_ inn0_ k10_) ∧ zPw n4A_2 ∧ (¬ mdA = 0 → ¬ mdA_2 = 0) ∧ (mdA_2 = 0 ∨ zTab cr0_ inn0_ k10_ k20_ wyA_2 pc_A_2 f1A_2 f2A_2 f5A_2 n4A_2) ∧ bWays T wb_ laB_2 mdB_2 wyB_2 pc_B_2 f1B_2 f2B_2 f3B_2 f4B_2 f5B_2 f6B_2 n4B_2 wwB_2 ∧ (mdB_2 = 0 ∨ laB_2 = l1) ∧ (0 ≤ wyB_2.toInt ∧ wyB_2.toInt ≤ 16384) ∧ n4B_2 = zNA (i1.toInt = 1 ∧ 1 < (fk 0).toInt ∧ (0 ≤ i2.toInt ∧ i2.toInt < (fk 2).toInt ∧ i2.toInt < 2) ∧ (e0f.toInt = 0 ∨ ¬ e1f.toInt = i1.toInt ∨ ¬ e2f.toInt = i2.toInt)) mdB n4B (zPl cr1_ inn1_ k11_) ∧ zPw n4B_2 ∧ (¬ mdB = 0 → ¬ mdB_2 = 0) ∧ (mdB_2 = 0 ∨ zTab cr1_ inn1_ k11_ k21_ wyB_2 pc_B_2 f1B_2 f2B_2 f5B_2 n4B_2) ∧ bFit T fi e0f_2 e1f_2 e2f_2 e3f_2 e4f_2 e5f_2 r1f_2 m1f_2 r2f_2 wff_2 ∧ m1f_2 = zNF (i1.toInt = 1 ∧ 1 < (fk 0).toInt ∧ (0 ≤ i2.toInt ∧ i2.toInt < (fk 2).toInt ∧ i2.toInt < 2) ∧ (e0f.toInt = 0 ∨ ¬ e1f.toInt = i1.toInt ∨ ¬ e2f.toInt = i2.toInt)) (zNF (i1.toInt = 0 ∧ 0 < (fk 0).toInt ∧ (0 ≤ i2.toInt ∧ i2.toInt < (fk 2).toInt ∧ i2.toInt < 2) ∧ (e0f.toInt = 0 ∨ ¬ e1f.toInt = i1.toInt ∨ ¬ e2f.toInt = i2.toInt)) m1f (zMw mdA wyA cr0_ inn0_ k10_)) (zMw mdB wyB cr1_ inn1_ k11_) ∧ zFw m1f_2 ∧ 0 ≤ e3f_2.toInt ∧ (r = 0 ∧ ¬ ((0 ≤ i1.toInt ∧ i1.toInt < (fk 0).toInt ∧ i1.toInt < 2) ∧ (0 ≤ i2.toInt ∧ i2.toInt < (fk 2).toInt ∧ i2.toInt < 2)) ∨ r = 1 ∧ ((0 ≤ i1.toInt ∧ i1.toInt < (fk 0).toInt ∧ i1.toInt < 2) ∧ (0 ≤ i2.toInt ∧ i2.toInt < (fk 2).toInt ∧ i2.toInt < 2)) ∧ ¬ e0f_2 = 0 ∧ e1f_2.toInt = i1.toInt) ∧ (¬ e0f_2 = 0 → e1f_2.toInt = 0 ∧ ¬ mdA_2 = 0 ∨ e1f_2.toInt = 1 ∧ ¬ mdB_2 = 0)) := by
  refine zMi_of (own := RX11) (by decide) rfl (Nat.le_of_ble_eq_true rfl) ?_
  intro p e s m args below meth c A ls C hr hlocks hnm hAe G hl
  refine zHide (fun Qz_ hQz_ => ?_)
  have hx := C.1
  have hb := C.2.1
  replace hmdA : zHd (mdA = 0 ∨ laA = l0) := hmdA
  replace hTbA : zHd (mdA = 0 ∨ zTab cr0_ inn0_ k10_ k20_ wyA pc_A f1A f2A f5A n4A) := hTbA
  replace hmdB : zHd (mdB = 0 ∨ laB = l1) := hmdB
  replace hTbB : zHd (mdB = 0 ∨ zTab cr1_ inn1_ k11_ k21_ wyB pc_B f1B f2B f5B n4B) := hTbB
  replace hFI : zHd ((¬ e0f = 0 → e1f.toInt = 0 ∧ ¬ mdA = 0 ∨ e1f.toInt = 1 ∧ ¬ mdB = 0)) := hFI
  have hl : lv_has ls 5 [(0, .ref xo), (1, .int i1), (2, .int i2)] := hl
  refine lv_aload_n hx hb dX11_fit_0 rfl (lv_at hl 0 rfl) ?_
  refine z_get C G clX11 0 rfl 0 (by decide) m_fl_RX11_10 rfl dX11_fit_1 ?_
  refine lv_iload_n hx hb dX11_fit_4 rfl (lv_at hl 1 rfl) ?_
  refine z_Vq (bc := [wt]) (br := [[zO10 xo t im mk rd po co tr wa wb_ fi cd], z0_, z1_, wg0_, wg1_, wwA, wwB, wff]) (As := [.int i1]) (rest := []) C G (c_landAt l T t l0 l1 d0 d1 g0 g1 ln fl pl ft fk wt i1 ht) (kV_RX11_121 C.2.2.2.2 (Nat.le_of_ble_eq_true rfl) (Nat.le_of_ble_eq_true rfl)) [1] [1] rfl rfl (ci := 8) (qc := (RX9, TX9, 8)) rfl rfl (List.mem_flatten.mpr ⟨_, List.mem_of_getElem? (i := 0) rfl, (bTold_mem ht).choose_spec⟩) rfl rfl hl.1 dX11_fit_5 (Nat.le_of_ble_eq_true rfl) (by show _ + 0 ≤ 6 * (zNA (i1.toInt = 0 ∧ 0 < (fk 0).toInt ∧ (0 ≤ i2.toInt ∧ i2.toInt < (fk 2).toInt ∧ i2.toInt < 2) ∧ (e0f.toInt = 0 ∨ ¬ e1f.toInt = i1.toInt ∨ ¬ e2f.toInt = i2.toInt)) mdA n4A (zPl cr0_ inn0_ k10_) - n4A) + 6 * (zNA (i1.toInt = 1 ∧ 1 < (fk 0).toInt ∧ (0 ≤ i2.toInt ∧ i2.toInt < (fk 2).toInt ∧ i2.toInt < 2) ∧ (e0f.toInt = 0 ∨ ¬ e1f.toInt = i1.toInt ∨ ¬ e2f.toInt = i2.toInt)) mdB n4B (zPl cr1_ inn1_ k11_) - n4B) + 2 * (zNF (i1.toInt = 1 ∧ 1 < (fk 0).toInt ∧ (0 ≤ i2.toInt ∧ i2.toInt < (fk 2).toInt ∧ i2.toInt < 2) ∧ (e0f.toInt = 0 ∨ ¬ e1f.toInt = i1.toInt ∨ ¬ e2f.toInt = i2.toInt)) (zNF (i1.toInt = 0 ∧ 0 < (fk 0).toInt ∧ (0 ≤ i2.toInt ∧ i2.toInt < (fk 2).toInt ∧ i2.toInt < 2) ∧ (e0f.toInt = 0 ∨ ¬ e1f.toInt = i1.toInt ∨ ¬ e2f.toInt = i2.toInt)) m1f (zMw mdA wyA cr0_ inn0_ k10_)) (zMw mdB wyB cr1_ inn1_ k11_) - m1f); omega) (fun r_2 b1 H locs hw G => ?_)
  refine zAn2 hw ?_
  intro hbs9 hc_1
  clear hw
  subst hbs9
  have G : zS T A s.heap s [[zO10 xo t im mk rd po co tr wa wb_ fi cd], z0_, z1_, wg0_, wg1_, wwA, wwB, wff, wt] _ _ := G
  rcases hc_1 with ⟨rfl, h_3⟩ | ⟨rfl, h_4, h_5⟩ | ⟨rfl, h_6, h_7⟩
  · have h_3 : (i1.toInt < 0 ∨ (fk 0).toInt ≤ i1.toInt ∨ 2 ≤ i1.toInt) := h_3
    refine lv_astore_nN (lv' := [(3, .null), (0, .ref xo), (1, .int i1), (2, .int i2)]) hx hb dX11_fit_8 rfl hl (by decide) (zLvf_h rfl) (fun ls hl => ?_)
    refine lv_aload_n hx hb dX11_fit_9 rfl (lv_at hl 1 rfl) ?_
    refine z_get C G clX11 0 rfl 0 (by decide) m_fl_RX11_10 rfl dX11_fit_10 ?_
    refine lv_iload_n hx hb dX11_fit_13 rfl (lv_at hl 3 rfl) ?_
    refine z_Vq (bc := [wt]) (br := [[zO10 xo t im mk rd po co tr wa wb_ fi cd], z0_, z1_, wg0_, wg1_, wwA, wwB, wff]) (As := [.int i2]) (rest := []) C G (c_logAt l T t l0 l1 d0 d1 g0 g1 ln fl pl ft fk wt i2 ht) (kV_RX11_138 C.2.2.2.2 (Nat.le_of_ble_eq_true rfl) (Nat.le_of_ble_eq_true rfl)) [8] [8] rfl rfl (ci := 8) (qc := (RX9, TX9, 8)) rfl rfl (List.mem_flatten.mpr ⟨_, List.mem_of_getElem? (i := 0) rfl, (bTold_mem ht).choose_spec⟩) rfl rfl hl.1 dX11_fit_14 (Nat.le_of_ble_eq_true rfl) (by show _ + 0 ≤ 6 * (zNA (i1.toInt = 0 ∧ 0 < (fk 0).toInt ∧ (0 ≤ i2.toInt ∧ i2.toInt < (fk 2).toInt ∧ i2.toInt < 2) ∧ (e0f.toInt = 0 ∨ ¬ e1f.toInt = i1.toInt ∨ ¬ e2f.toInt = i2.toInt)) mdA n4A (zPl cr0_ inn0_ k10_) - n4A) + 6 * (zNA (i1.toInt = 1 ∧ 1 < (fk 0).toInt ∧ (0 ≤ i2.toInt ∧ i2.toInt < (fk 2).toInt ∧ i2.toInt < 2) ∧ (e0f.toInt = 0 ∨ ¬ e1f.toInt = i1.toInt ∨ ¬ e2f.toInt = i2.toInt)) mdB n4B (zPl cr1_ inn1_ k11_) - n4B) + 2 * (zNF (i1.toInt = 1 ∧ 1 < (fk 0).toInt ∧ (0 ≤ i2.toInt ∧ i2.toInt < (fk 2).toInt ∧ i2.toInt < 2) ∧ (e0f.toInt = 0 ∨ ¬ e1f.toInt = i1.toInt ∨ ¬ e2f.toInt = i2.toInt)) (zNF (i1.toInt = 0 ∧ 0 < (fk 0).toInt ∧ (0 ≤ i2.toInt ∧ i2.toInt < (fk 2).toInt ∧ i2.toInt < 2) ∧ (e0f.toInt = 0 ∨ ¬ e1f.toInt = i1.toInt ∨ ¬ e2f.toInt = i2.toInt)) m1f (zMw mdA wyA cr0_ inn0_ k10_)) (zMw mdB wyB cr1_ inn1_ k11_) - m1f); omega) (fun r_9 b1 H locs hw G => ?_)
    refine zAn2 hw ?_
    intro hbs9 hc_8
    clear hw
    subst hbs9
    have G : zS T A s.heap s [[zO10 xo t im mk rd po co tr wa wb_ fi cd], z0_, z1_, wg0_, wg1_, wwA, wwB, wff, wt] _ _ := G
    rcases hc_8 with ⟨rfl, h_10⟩ | ⟨rfl, h_11, h_12⟩ | ⟨rfl, h_13, h_14⟩
    · have h_10 : (i2.toInt < 0 ∨ (fk 2).toInt ≤ i2.toInt ∨ 2 ≤ i2.toInt) := h_10
      refine lv_astoreN (lv' := [(4, .null), (3, .null), (0, .ref xo), (1, .int i1), (2, .int i2)]) hx hb dX11_fit_17 hl (by decide) (zLvf_h rfl) (fun ls hl => ?_)
      refine lv_aload_nN hx hb dX11_fit_19 rfl (lv_at hl 1 rfl) ?_
      refine lv_ifnullN (tgt := 28) hx hb dX11_fit_20 (by decide) ?_
      refine lv_iconst (v := 0) hx hb dX11_fit_28 (by decide) ?_
      have G := G.sub (bs' := [[zO10 xo t im mk rd po co tr wa wb_ fi cd], wt, z0_, z1_, wg0_, wg1_, wwA, wwB, wff]) [0, 8, 1, 2, 3, 4, 5, 6, 7] rfl
      exact z_back hQz_ (z_zret C hr hlocks G (Nat.le_of_ble_eq_true rfl) (by omega) dX11_fit_29 rfl ⟨laA, mdA, wyA, pc_A, f1A, f2A, f3A, f4A, f5A, f6A, n4A, wwA, laB, mdB, wyB, pc_B, f1B, f2B, f3B, f4B, f5B, f6B, n4B, wwB, e0f, e1f, e2f, e3f, e4f, e5f, r1f, m1f, r2f, wff, rfl, hwwA, hmdA, hwmA, (zNA_n (by omega)).symm, hpwA, (fun q => q), hTbA, hwwB, hmdB, hwmB, (zNA_n (by omega)).symm, hpwB, (fun q => q), hTbB, hwff, (((zNF_n (c := (i1.toInt = 1 ∧ 1 < (fk 0).toInt ∧ (0 ≤ i2.toInt ∧ i2.toInt < (fk 2).toInt ∧ i2.toInt < 2) ∧ (e0f.toInt = 0 ∨ ¬ e1f.toInt = i1.toInt ∨ ¬ e2f.toInt = i2.toInt))) (by omega)).trans (zNF_n (by omega))).symm), hfw, hf3, (Or.inl ⟨rfl, by omega⟩), hFI⟩)
    · have h_11 : i2.toInt = 0 := h_11
      have h_12 : 0 < (fk 2).toInt := h_12
      refine lv_astore (lv' := [(4, .ref g0), (3, .null), (0, .ref xo), (1, .int i1), (2, .int i2)]) hx hb dX11_fit_17 hl (by decide) (zLvf_h rfl) (fun ls hl => ?_)
      refine lv_aload_nN hx hb dX11_fit_19 rfl (lv_at hl 1 rfl) ?_
      refine lv_ifnullN (tgt := 28) hx hb dX11_fit_20 (by decide) ?_
      refine lv_iconst (v := 0) hx hb dX11_fit_28 (by decide) ?_
      have G := G.sub (bs' := [[zO10 xo t im mk rd po co tr wa wb_ fi cd], wt, z0_, z1_, wg0_, wg1_, wwA, wwB, wff]) [0, 8, 1, 2, 3, 4, 5, 6, 7] rfl
      exact z_back hQz_ (z_zret C hr hlocks G (Nat.le_of_ble_eq_true rfl) (by omega) dX11_fit_29 rfl ⟨laA, mdA, wyA, pc_A, f1A, f2A, f3A, f4A, f5A, f6A, n4A, wwA, laB, mdB, wyB, pc_B, f1B, f2B, f3B, f4B, f5B, f6B, n4B, wwB, e0f, e1f, e2f, e3f, e4f, e5f, r1f, m1f, r2f, wff, rfl, hwwA, hmdA, hwmA, (zNA_n (by omega)).symm, hpwA, (fun q => q), hTbA, hwwB, hmdB, hwmB, (zNA_n (by omega)).symm, hpwB, (fun q => q), hTbB, hwff, (((zNF_n (c := (i1.toInt = 1 ∧ 1 < (fk 0).toInt ∧ (0 ≤ i2.toInt ∧ i2.toInt < (fk 2).toInt ∧ i2.toInt < 2) ∧ (e0f.toInt = 0 ∨ ¬ e1f.toInt = i1.toInt ∨ ¬ e2f.toInt = i2.toInt))) (by omega)).trans (zNF_n (by omega))).symm), hfw, hf3, (Or.inl ⟨rfl, by omega⟩), hFI⟩)
    · have h_13 : i2.toInt = 1 := h_13
      have h_14 : 1 < (fk 2).toInt := h_14
      refine lv_astore (lv' := [(4, .ref g1), (3, .null), (0, .ref xo), (1, .int i1), (2, .int i2)]) hx hb dX11_fit_17 hl (by decide) (zLvf_h rfl) (fun ls hl => ?_)
      refine lv_aload_nN hx hb dX11_fit_19 rfl (lv_at hl 1 rfl) ?_
      refine lv_ifnullN (tgt := 28) hx hb dX11_fit_20 (by decide) ?_
      refine lv_iconst (v := 0) hx hb dX11_fit_28 (by decide) ?_
      have G := G.sub (bs' := [[zO10 xo t im mk rd po co tr wa wb_ fi cd], wt, z0_, z1_, wg0_, wg1_, wwA, wwB, wff]) [0, 8, 1, 2, 3, 4, 5, 6, 7] rfl
      exact z_back hQz_ (z_zret C hr hlocks G (Nat.le_of_ble_eq_true rfl) (by omega) dX11_fit_29 rfl ⟨laA, mdA, wyA, pc_A, f1A, f2A, f3A, f4A, f5A, f6A, n4A, wwA, laB, mdB, wyB, pc_B, f1B, f2B, f3B, f4B, f5B, f6B, n4B, wwB, e0f, e1f, e2f, e3f, e4f, e5f, r1f, m1f, r2f, wff, rfl, hwwA, hmdA, hwmA, (zNA_n (by omega)).symm, hpwA, (fun q => q), hTbA, hwwB, hmdB, hwmB, (zNA_n (by omega)).symm, hpwB, (fun q => q), hTbB, hwff, (((zNF_n (c := (i1.toInt = 1 ∧ 1 < (fk 0).toInt ∧ (0 ≤ i2.toInt ∧ i2.toInt < (fk 2).toInt ∧ i2.toInt < 2) ∧ (e0f.toInt = 0 ∨ ¬ e1f.toInt = i1.toInt ∨ ¬ e2f.toInt = i2.toInt))) (by omega)).trans (zNF_n (by omega))).symm), hfw, hf3, (Or.inl ⟨rfl, by omega⟩), hFI⟩)
  · have h_4 : i1.toInt = 0 := h_4
    have h_5 : 0 < (fk 0).toInt := h_5
    refine lv_astore_n (lv' := [(3, .ref l0), (0, .ref xo), (1, .int i1), (2, .int i2)]) hx hb dX11_fit_8 rfl hl (by decide) (zLvf_h rfl) (fun ls hl => ?_)
    refine lv_aload_n hx hb dX11_fit_9 rfl (lv_at hl 1 rfl) ?_
    refine z_get C G clX11 0 rfl 0 (by decide) m_fl_RX11_10 rfl dX11_fit_10 ?_
    refine lv_iload_n hx hb dX11_fit_13 rfl (lv_at hl 3 rfl) ?_
    refine z_Vq (bc := [wt]) (br := [[zO10 xo t im mk rd po co tr wa wb_ fi cd], z0_, z1_, wg0_, wg1_, wwA, wwB, wff]) (As := [.int i2]) (rest := []) C G (c_logAt l T t l0 l1 d0 d1 g0 g1 ln fl pl ft fk wt i2 ht) (kV_RX11_138 C.2.2.2.2 (Nat.le_of_ble_eq_true rfl) (Nat.le_of_ble_eq_true rfl)) [8] [8] rfl rfl (ci := 8) (qc := (RX9, TX9, 8)) rfl rfl (List.mem_flatten.mpr ⟨_, List.mem_of_getElem? (i := 0) rfl, (bTold_mem ht).choose_spec⟩) rfl rfl hl.1 dX11_fit_14 (Nat.le_of_ble_eq_true rfl) (by show _ + 0 ≤ 6 * (zNA (i1.toInt = 0 ∧ 0 < (fk 0).toInt ∧ (0 ≤ i2.toInt ∧ i2.toInt < (fk 2).toInt ∧ i2.toInt < 2) ∧ (e0f.toInt = 0 ∨ ¬ e1f.toInt = i1.toInt ∨ ¬ e2f.toInt = i2.toInt)) mdA n4A (zPl cr0_ inn0_ k10_) - n4A) + 6 * (zNA (i1.toInt = 1 ∧ 1 < (fk 0).toInt ∧ (0 ≤ i2.toInt ∧ i2.toInt < (fk 2).toInt ∧ i2.toInt < 2) ∧ (e0f.toInt = 0 ∨ ¬ e1f.toInt = i1.toInt ∨ ¬ e2f.toInt = i2.toInt)) mdB n4B (zPl cr1_ inn1_ k11_) - n4B) + 2 * (zNF (i1.toInt = 1 ∧ 1 < (fk 0).toInt ∧ (0 ≤ i2.toInt ∧ i2.toInt < (fk 2).toInt ∧ i2.toInt < 2) ∧ (e0f.toInt = 0 ∨ ¬ e1f.toInt = i1.toInt ∨ ¬ e2f.toInt = i2.toInt)) (zNF (i1.toInt = 0 ∧ 0 < (fk 0).toInt ∧ (0 ≤ i2.toInt ∧ i2.toInt < (fk 2).toInt ∧ i2.toInt < 2) ∧ (e0f.toInt = 0 ∨ ¬ e1f.toInt = i1.toInt ∨ ¬ e2f.toInt = i2.toInt)) m1f (zMw mdA wyA cr0_ inn0_ k10_)) (zMw mdB wyB cr1_ inn1_ k11_) - m1f); omega) (fun r_16 b1 H locs hw G => ?_)
    refine zAn2 hw ?_
    intro hbs9 hc_15
    clear hw
    subst hbs9
    have G : zS T A s.heap s [[zO10 xo t im mk rd po co tr wa wb_ fi cd], z0_, z1_, wg0_, wg1_, wwA, wwB, wff, wt] _ _ := G
    rcases hc_15 with ⟨rfl, h_17⟩ | ⟨rfl, h_18, h_19⟩ | ⟨rfl, h_20, h_21⟩
    · have h_17 : (i2.toInt < 0 ∨ (fk 2).toInt ≤ i2.toInt ∨ 2 ≤ i2.toInt) := h_17
      refine lv_astoreN (lv' := [(4, .null), (3, .ref l0), (0, .ref xo), (1, .int i1), (2, .int i2)]) hx hb dX11_fit_17 hl (by decide) (zLvf_h rfl) (fun ls hl => ?_)
      refine lv_aload_n hx hb dX11_fit_19 rfl (lv_at hl 1 rfl) ?_
      refine lv_ifnull hx hb dX11_fit_20 ?_
      refine lv_aloadN hx hb dX11_fit_23 (lv_at hl 0 rfl) ?_
      refine lv_ifnonnullN hx hb dX11_fit_25 ?_
      refine lv_iconst (v := 0) hx hb dX11_fit_28 (by decide) ?_
      have G := G.sub (bs' := [[zO10 xo t im mk rd po co tr wa wb_ fi cd], wt, z0_, z1_, wg0_, wg1_, wwA, wwB, wff]) [0, 8, 1, 2, 3, 4, 5, 6, 7] rfl
      exact z_back hQz_ (z_zret C hr hlocks G (Nat.le_of_ble_eq_true rfl) (by omega) dX11_fit_29 rfl ⟨laA, mdA, wyA, pc_A, f1A, f2A, f3A, f4A, f5A, f6A, n4A, wwA, laB, mdB, wyB, pc_B, f1B, f2B, f3B, f4B, f5B, f6B, n4B, wwB, e0f, e1f, e2f, e3f, e4f, e5f, r1f, m1f, r2f, wff, rfl, hwwA, hmdA, hwmA, (zNA_n (by omega)).symm, hpwA, (fun q => q), hTbA, hwwB, hmdB, hwmB, (zNA_n (by omega)).symm, hpwB, (fun q => q), hTbB, hwff, (((zNF_n (c := (i1.toInt = 1 ∧ 1 < (fk 0).toInt ∧ (0 ≤ i2.toInt ∧ i2.toInt < (fk 2).toInt ∧ i2.toInt < 2) ∧ (e0f.toInt = 0 ∨ ¬ e1f.toInt = i1.toInt ∨ ¬ e2f.toInt = i2.toInt))) (by omega)).trans (zNF_n (by omega))).symm), hfw, hf3, (Or.inl ⟨rfl, by omega⟩), hFI⟩)
    · have h_18 : i2.toInt = 0 := h_18
      have h_19 : 0 < (fk 2).toInt := h_19
      refine lv_astore (lv' := [(4, .ref g0), (3, .ref l0), (0, .ref xo), (1, .int i1), (2, .int i2)]) hx hb dX11_fit_17 hl (by decide) (zLvf_h rfl) (fun ls hl => ?_)
      refine lv_aload_n hx hb dX11_fit_19 rfl (lv_at hl 1 rfl) ?_
      refine lv_ifnull hx hb dX11_fit_20 ?_
      refine lv_aload hx hb dX11_fit_23 (lv_at hl 0 rfl) ?_
      refine lv_ifnonnull (tgt := 30) hx hb dX11_fit_25 (by decide) ?_
      refine lv_aload_n hx hb dX11_fit_30 rfl (lv_at hl 2 rfl) ?_
      refine z_get C G clX11 0 rfl 9 (by decide) m_fl_RX11_65 rfl dX11_fit_31 ?_
      refine zEx2 hwff ?_
      intro a1_22 a2_23 hbs9
      clear hwff
      subst hbs9
      have G : zS T A s.heap s [[zO10 xo t im mk rd po co tr wa wb_ fi cd], z0_, z1_, wg0_, wg1_, wwA, wwB, [zO3 fi e0f e1f e2f e3f e4f e5f a1_22 a2_23], [zAr T 0 a1_22 m1f r1f], [zAr T 0 a2_23 7 r2f], wt] _ _ := G.re rfl
      refine z_get C G clX3 7 rfl 0 (by decide) m_fl_RX11_109 rfl dX11_fit_34 ?_
      refine lv_if_eq (tgt := 62) hx hb dX11_fit_37 (by decide) (fun c_24 => ?_) (fun c_24 => ?_)
      · have c_24n : e0f.toInt = (0 : Int) := (fa_eq _ _).mp c_24
        refine lv_aload_n hx hb dX11_fit_62 rfl (lv_at hl 2 rfl) ?_
        refine z_get C G clX11 0 rfl 9 (by decide) m_fl_RX11_65 rfl dX11_fit_63 ?_
        refine lv_aload_n hx hb dX11_fit_66 rfl (lv_at hl 2 rfl) ?_
        refine lv_iload_n hx hb dX11_fit_67 rfl (lv_at hl 3 rfl) ?_
        refine lv_aload_n hx hb dX11_fit_68 rfl (lv_at hl 1 rfl) ?_
        have hcF : (i1.toInt = 0 ∧ 0 < (fk 0).toInt ∧ (0 ≤ i2.toInt ∧ i2.toInt < (fk 2).toInt ∧ i2.toInt < 2) ∧ (e0f.toInt = 0 ∨ ¬ e1f.toInt = i1.toInt ∨ ¬ e2f.toInt = i2.toInt)) := by omega
        have hcN : ¬ (i1.toInt = 1 ∧ 1 < (fk 0).toInt ∧ (0 ≤ i2.toInt ∧ i2.toInt < (fk 2).toInt ∧ i2.toInt < 2) ∧ (e0f.toInt = 0 ∨ ¬ e1f.toInt = i1.toInt ∨ ¬ e2f.toInt = i2.toInt)) := by omega
        have hNAm : zNA (i1.toInt = 0 ∧ 0 < (fk 0).toInt ∧ (0 ≤ i2.toInt ∧ i2.toInt < (fk 2).toInt ∧ i2.toInt < 2) ∧ (e0f.toInt = 0 ∨ ¬ e1f.toInt = i1.toInt ∨ ¬ e2f.toInt = i2.toInt)) mdA n4A (zPl cr0_ inn0_ k10_) = zMk mdA n4A (zPl cr0_ inn0_ k10_) := zNA_y hcF
        have hNAo : zNA (i1.toInt = 1 ∧ 1 < (fk 0).toInt ∧ (0 ≤ i2.toInt ∧ i2.toInt < (fk 2).toInt ∧ i2.toInt < 2) ∧ (e0f.toInt = 0 ∨ ¬ e1f.toInt = i1.toInt ∨ ¬ e2f.toInt = i2.toInt)) mdB n4B (zPl cr1_ inn1_ k11_) = n4B := zNA_n hcN
        have hn9 : zMk mdA n4A (zPl cr0_ inn0_ k10_) ≤ 131072 := zPw_le (zMk_pw hpwA)
        refine z_Vq (bc := [[zO10 xo t im mk rd po co tr wa wb_ fi cd], wwA, z0_]) (br := [z1_, wg0_, wg1_, wwB, [zO3 fi e0f e1f e2f e3f e4f e5f a1_22 a2_23], [zAr T 0 a1_22 m1f r1f], [zAr T 0 a2_23 7 r2f], wt]) (As := [.int i1, .ref l0]) (rest := [.ref fi]) C G (c_f_waysInA l T xo t im mk rd po co tr wa wb_ fi cd i1 laA mdA wyA pc_A f1A f2A f3A f4A f5A f6A n4A wwA l0 cr0_ inn0_ k10_ k20_ k30_ k40_ z0_ hwwA hz0_ hI0_ hpwA hmdA (kaOk hI0_ hLq0).1 hTbA (by omega)) (kV_RX11_235 C.2.2.2.2 (Nat.le_of_ble_eq_true rfl) (Nat.le_of_ble_eq_true rfl)) [0, 5, 1] [0, 0, 3] rfl rfl (ci := 10) (qc := (RX11, TX11, 11)) rfl rfl (List.mem_flatten.mpr ⟨_, List.mem_of_getElem? (i := 0) rfl, List.mem_cons_self⟩) rfl rfl hl.1 dX11_fit_69 (Nat.le_of_ble_eq_true rfl) (by show _ + (6 * (zMk mdA n4A (zPl cr0_ inn0_ k10_) - n4A)) ≤ 6 * (zNA (i1.toInt = 0 ∧ 0 < (fk 0).toInt ∧ (0 ≤ i2.toInt ∧ i2.toInt < (fk 2).toInt ∧ i2.toInt < 2) ∧ (e0f.toInt = 0 ∨ ¬ e1f.toInt = i1.toInt ∨ ¬ e2f.toInt = i2.toInt)) mdA n4A (zPl cr0_ inn0_ k10_) - n4A) + 6 * (zNA (i1.toInt = 1 ∧ 1 < (fk 0).toInt ∧ (0 ≤ i2.toInt ∧ i2.toInt < (fk 2).toInt ∧ i2.toInt < 2) ∧ (e0f.toInt = 0 ∨ ¬ e1f.toInt = i1.toInt ∨ ¬ e2f.toInt = i2.toInt)) mdB n4B (zPl cr1_ inn1_ k11_) - n4B) + 2 * (zNF (i1.toInt = 1 ∧ 1 < (fk 0).toInt ∧ (0 ≤ i2.toInt ∧ i2.toInt < (fk 2).toInt ∧ i2.toInt < 2) ∧ (e0f.toInt = 0 ∨ ¬ e1f.toInt = i1.toInt ∨ ¬ e2f.toInt = i2.toInt)) (zNF (i1.toInt = 0 ∧ 0 < (fk 0).toInt ∧ (0 ≤ i2.toInt ∧ i2.toInt < (fk 2).toInt ∧ i2.toInt < 2) ∧ (e0f.toInt = 0 ∨ ¬ e1f.toInt = i1.toInt ∨ ¬ e2f.toInt = i2.toInt)) m1f (zMw mdA wyA cr0_ inn0_ k10_)) (zMw mdB wyB cr1_ inn1_ k11_) - m1f); omega) (fun r_39 b1 H locs hw G => ?_)
        refine zEx9 hw ?_
        intro w2_25 m2_26 wy2_27 pc2_28 g1_29 g2_30 g4_31 g5_32 g6_33
        refine zCu6 ?_
        intro hbs9 h_34 h_35 h_36 h_37 h_38
        clear hw
        subst hbs9
        have G : zS T A s.heap s [z1_, wg0_, wg1_, wwB, [zO3 fi e0f e1f e2f e3f e4f e5f a1_22 a2_23], [zAr T 0 a1_22 m1f r1f], [zAr T 0 a2_23 7 r2f], wt, [zO10 xo t im mk rd po co tr wa wb_ fi cd], w2_25, z0_] _ _ := G
        subst h_34
        have hwy9 : 0 ≤ wy2_27.toInt ∧ wy2_27.toInt ≤ 16384 := by have q9 := zWy_in (inn := inn0_) hI0_; rw [h_36]; exact ⟨by omega, q9.2⟩
        have hmw9 : wy2_27 = (zMw mdA wyA cr0_ inn0_ k10_) := by unfold zMw; by_cases q9 : mdA = 0 <;> first | (rw [if_pos q9]; exact h_36) | (rw [if_neg q9]; exact h_36.trans ((hTbA.resolve_left q9).1).symm)
        have hNF : zNF (i1.toInt = 1 ∧ 1 < (fk 0).toInt ∧ (0 ≤ i2.toInt ∧ i2.toInt < (fk 2).toInt ∧ i2.toInt < 2) ∧ (e0f.toInt = 0 ∨ ¬ e1f.toInt = i1.toInt ∨ ¬ e2f.toInt = i2.toInt)) (zNF (i1.toInt = 0 ∧ 0 < (fk 0).toInt ∧ (0 ≤ i2.toInt ∧ i2.toInt < (fk 2).toInt ∧ i2.toInt < 2) ∧ (e0f.toInt = 0 ∨ ¬ e1f.toInt = i1.toInt ∨ ¬ e2f.toInt = i2.toInt)) m1f (zMw mdA wyA cr0_ inn0_ k10_)) (zMw mdB wyB cr1_ inn1_ k11_) = zFl m1f wy2_27 := by rw [zNF_n (c := (i1.toInt = 1 ∧ 1 < (fk 0).toInt ∧ (0 ≤ i2.toInt ∧ i2.toInt < (fk 2).toInt ∧ i2.toInt < 2) ∧ (e0f.toInt = 0 ∨ ¬ e1f.toInt = i1.toInt ∨ ¬ e2f.toInt = i2.toInt))) hcN, zNF_y hcF, hmw9]
        have hfw9 := zFl_pw (wy := wy2_27) hfw
        refine lv_aload hx hb dX11_fit_72 (lv_at hl 0 rfl) ?_
        have hw_40 : bFit T fi e0f e1f e2f e3f e4f e5f r1f m1f r2f [zO3 fi e0f e1f e2f e3f e4f e5f a1_22 a2_23, zAr T 0 a1_22 m1f r1f, zAr T 0 a2_23 7 r2f] := ⟨a1_22, a2_23, rfl⟩
        have G : zS T A s.heap s [z1_, wg0_, wg1_, wwB, [zO3 fi e0f e1f e2f e3f e4f e5f a1_22 a2_23, zAr T 0 a1_22 m1f r1f, zAr T 0 a2_23 7 r2f], wt, [zO10 xo t im mk rd po co tr wa wb_ fi cd], w2_25, z0_] _ _ := G.re rfl
        refine z_Vv (bc := [[zO3 fi e0f e1f e2f e3f e4f e5f a1_22 a2_23, zAr T 0 a1_22 m1f r1f, zAr T 0 a2_23 7 r2f], w2_25, z0_, wg0_]) (br := [z1_, wg1_, wwB, wt, [zO10 xo t im mk rd po co tr wa wb_ fi cd]]) (As := [.ref wa, .ref g0]) (rest := []) C G (c_find l T fi e0f e1f e2f e3f e4f e5f r1f m1f r2f ([zO3 fi e0f e1f e2f e3f e4f e5f a1_22 a2_23, zAr T 0 a1_22 m1f r1f, zAr T 0 a2_23 7 r2f]) wa l0 m2_26 wy2_27 pc2_28 g1_29 g2_30 f3A g4_31 g5_32 g6_33 (zMk mdA n4A (zPl cr0_ inn0_ k10_)) w2_25 cr0_ inn0_ k10_ k20_ k30_ k40_ z0_ g0 gg0_ q10_ q20_ wg0_ hw_40 h_35 hz0_ hg0_ hn9 hfw hwy9) (kV_RX11_298 C.2.2.2.2 (Nat.le_of_ble_eq_true rfl) (Nat.le_of_ble_eq_true rfl)) [4, 7, 8, 1] [1, 2, 2, 0] rfl rfl (ci := 3) (qc := (RX3, TX3, 8)) rfl rfl (List.mem_flatten.mpr ⟨_, List.mem_of_getElem? (i := 0) rfl, (bFit_mem hw_40).choose_spec⟩) rfl rfl hl.1 dX11_fit_74 (Nat.le_of_ble_eq_true rfl) (by show _ + (2 * (zFl m1f wy2_27 - m1f)) ≤ 6 * (zNA (i1.toInt = 0 ∧ 0 < (fk 0).toInt ∧ (0 ≤ i2.toInt ∧ i2.toInt < (fk 2).toInt ∧ i2.toInt < 2) ∧ (e0f.toInt = 0 ∨ ¬ e1f.toInt = i1.toInt ∨ ¬ e2f.toInt = i2.toInt)) mdA n4A (zPl cr0_ inn0_ k10_) - n4A) + 6 * (zNA (i1.toInt = 1 ∧ 1 < (fk 0).toInt ∧ (0 ≤ i2.toInt ∧ i2.toInt < (fk 2).toInt ∧ i2.toInt < 2) ∧ (e0f.toInt = 0 ∨ ¬ e1f.toInt = i1.toInt ∨ ¬ e2f.toInt = i2.toInt)) mdB n4B (zPl cr1_ inn1_ k11_) - n4B) + 2 * (zNF (i1.toInt = 1 ∧ 1 < (fk 0).toInt ∧ (0 ≤ i2.toInt ∧ i2.toInt < (fk 2).toInt ∧ i2.toInt < 2) ∧ (e0f.toInt = 0 ∨ ¬ e1f.toInt = i1.toInt ∨ ¬ e2f.toInt = i2.toInt)) (zNF (i1.toInt = 0 ∧ 0 < (fk 0).toInt ∧ (0 ≤ i2.toInt ∧ i2.toInt < (fk 2).toInt ∧ i2.toInt < 2) ∧ (e0f.toInt = 0 ∨ ¬ e1f.toInt = i1.toInt ∨ ¬ e2f.toInt = i2.toInt)) m1f (zMw mdA wyA cr0_ inn0_ k10_)) (zMw mdB wyB cr1_ inn1_ k11_) - m1f); omega) (fun b1 H locs hw G => ?_)
        refine zEx5 hw ?_
        intro w2_41 s3_42 s4_43 s5_44 g1_45
        refine zCu3 ?_
        intro hbs9 h_46 h_47
        clear hw
        subst hbs9
        have G : zS T A s.heap s [z1_, wg1_, wwB, wt, [zO10 xo t im mk rd po co tr wa wb_ fi cd], w2_41, w2_25, z0_, wg0_] _ _ := G
        have h39 := h_47
        refine lv_aload_n hx hb dX11_fit_77 rfl (lv_at hl 2 rfl) ?_
        refine z_get C G clX11 4 rfl 9 (by decide) m_fl_RX11_65 rfl dX11_fit_78 ?_
        refine lv_iload_n hx hb dX11_fit_81 rfl (lv_at hl 3 rfl) ?_
        refine zEx2 h_46 ?_
        intro a1_49 a2_50 hbs9
        clear h_46
        subst hbs9
        have G : zS T A s.heap s [z1_, wg1_, wwB, wt, [zO10 xo t im mk rd po co tr wa wb_ fi cd], [zO3 fi e0f e1f e2f s3_42 s4_43 s5_44 a1_49 a2_50], [zAr T 0 a1_49 (zFl m1f wy2_27) g1_45], [zAr T 0 a2_50 7 r2f], w2_25, z0_, wg0_] _ _ := G.re rfl
        refine z_put C G clX3 5 rfl 1 (by decide) m_fl_RX11_292 rfl rfl rfl (Nat.le_of_ble_eq_true rfl) dX11_fit_82 (fun H locs G => ?_)
        have G : zS T A s.heap s [z1_, wg1_, wwB, wt, [zO10 xo t im mk rd po co tr wa wb_ fi cd], [zO3 fi e0f i1 e2f s3_42 s4_43 s5_44 a1_49 a2_50], [zAr T 0 a1_49 (zFl m1f wy2_27) g1_45], [zAr T 0 a2_50 7 r2f], w2_25, z0_, wg0_] _ _ := G
        refine lv_aload_n hx hb dX11_fit_85 rfl (lv_at hl 2 rfl) ?_
        refine z_get C G clX11 4 rfl 9 (by decide) m_fl_RX11_65 rfl dX11_fit_86 ?_
        refine lv_iload_n hx hb dX11_fit_89 rfl (lv_at hl 4 rfl) ?_
        refine z_put C G clX3 5 rfl 2 (by decide) m_fl_RX11_295 rfl rfl rfl (Nat.le_of_ble_eq_true rfl) dX11_fit_90 (fun H locs G => ?_)
        have G : zS T A s.heap s [z1_, wg1_, wwB, wt, [zO10 xo t im mk rd po co tr wa wb_ fi cd], [zO3 fi e0f i1 i2 s3_42 s4_43 s5_44 a1_49 a2_50], [zAr T 0 a1_49 (zFl m1f wy2_27) g1_45], [zAr T 0 a2_50 7 r2f], w2_25, z0_, wg0_] _ _ := G
        refine lv_aload_n hx hb dX11_fit_93 rfl (lv_at hl 2 rfl) ?_
        refine z_get C G clX11 4 rfl 9 (by decide) m_fl_RX11_65 rfl dX11_fit_94 ?_
        refine lv_iconst (v := 1) hx hb dX11_fit_97 (by decide) ?_
        refine z_put C G clX3 5 rfl 0 (by decide) m_fl_RX11_109 rfl rfl rfl (Nat.le_of_ble_eq_true rfl) dX11_fit_98 (fun H locs G => ?_)
        have G : zS T A s.heap s [z1_, wg1_, wwB, wt, [zO10 xo t im mk rd po co tr wa wb_ fi cd], [zO3 fi 1 i1 i2 s3_42 s4_43 s5_44 a1_49 a2_50], [zAr T 0 a1_49 (zFl m1f wy2_27) g1_45], [zAr T 0 a2_50 7 r2f], w2_25, z0_, wg0_] _ _ := G
        refine lv_iconst (v := 1) hx hb dX11_fit_101 (by decide) ?_
        have hw_51 : bFit T fi 1 i1 i2 s3_42 s4_43 s5_44 g1_45 (zFl m1f wy2_27) r2f [zO3 fi 1 i1 i2 s3_42 s4_43 s5_44 a1_49 a2_50, zAr T 0 a1_49 (zFl m1f wy2_27) g1_45, zAr T 0 a2_50 7 r2f] := ⟨a1_49, a2_50, rfl⟩
        have G : zS T A s.heap s [z1_, wg1_, wwB, wt, [zO10 xo t im mk rd po co tr wa wb_ fi cd], [zO3 fi 1 i1 i2 s3_42 s4_43 s5_44 a1_49 a2_50, zAr T 0 a1_49 (zFl m1f wy2_27) g1_45, zAr T 0 a2_50 7 r2f], w2_25, z0_, wg0_] _ _ := G.re rfl
        have G := G.sub (bs' := [[zO10 xo t im mk rd po co tr wa wb_ fi cd], wt, z0_, z1_, wg0_, wg1_, w2_25, wwB, [zO3 fi 1 i1 i2 s3_42 s4_43 s5_44 a1_49 a2_50, zAr T 0 a1_49 (zFl m1f wy2_27) g1_45, zAr T 0 a2_50 7 r2f]]) [4, 3, 7, 0, 8, 1, 6, 2, 5] rfl
        exact z_back hQz_ (z_zret C hr hlocks G (Nat.le_of_ble_eq_true rfl) (by omega) dX11_fit_102 rfl ⟨l0, m2_26, wy2_27, pc2_28, g1_29, g2_30, f3A, g4_31, g5_32, g6_33, (zMk mdA n4A (zPl cr0_ inn0_ k10_)), w2_25, laB, mdB, wyB, pc_B, f1B, f2B, f3B, f4B, f5B, f6B, n4B, wwB, 1, i1, i2, s3_42, s4_43, s5_44, g1_45, (zFl m1f wy2_27), r2f, ([zO3 fi 1 i1 i2 s3_42 s4_43 s5_44 a1_49 a2_50, zAr T 0 a1_49 (zFl m1f wy2_27) g1_45, zAr T 0 a2_50 7 r2f]), rfl, h_35, (Or.inr rfl), hwy9, hNAm.symm, (zMk_pw hpwA), (fun _ => h_37), (Or.inr h_38), hwwB, hmdB, hwmB, (zNA_n (by omega)).symm, hpwB, (fun q => q), hTbB, hw_51, hNF.symm, hfw9, h39, (Or.inr ⟨rfl, by omega, by decide, rfl⟩), (fun _ => Or.inl ⟨by omega, h_37⟩)⟩)
      · have c_24n : ¬ e0f.toInt = (0 : Int) := fun q => c_24 ((fa_eq _ _).mpr q)
        refine lv_aload_n hx hb dX11_fit_40 rfl (lv_at hl 2 rfl) ?_
        refine z_get C G clX11 0 rfl 9 (by decide) m_fl_RX11_65 rfl dX11_fit_41 ?_
        refine z_get C G clX3 7 rfl 1 (by decide) m_fl_RX11_292 rfl dX11_fit_44 ?_
        refine lv_iload_n hx hb dX11_fit_47 rfl (lv_at hl 3 rfl) ?_
        refine lv_icmp_ne (tgt := 62) hx hb dX11_fit_48 (by decide) (fun c_52 => ?_) (fun c_52 => ?_)
        · have c_52n : ¬ e1f.toInt = i1.toInt := fun q => c_52 ((fa_eq _ _).mpr q)
          refine lv_aload_n hx hb dX11_fit_62 rfl (lv_at hl 2 rfl) ?_
          refine z_get C G clX11 0 rfl 9 (by decide) m_fl_RX11_65 rfl dX11_fit_63 ?_
          refine lv_aload_n hx hb dX11_fit_66 rfl (lv_at hl 2 rfl) ?_
          refine lv_iload_n hx hb dX11_fit_67 rfl (lv_at hl 3 rfl) ?_
          refine lv_aload_n hx hb dX11_fit_68 rfl (lv_at hl 1 rfl) ?_
          have hcF : (i1.toInt = 0 ∧ 0 < (fk 0).toInt ∧ (0 ≤ i2.toInt ∧ i2.toInt < (fk 2).toInt ∧ i2.toInt < 2) ∧ (e0f.toInt = 0 ∨ ¬ e1f.toInt = i1.toInt ∨ ¬ e2f.toInt = i2.toInt)) := by omega
          have hcN : ¬ (i1.toInt = 1 ∧ 1 < (fk 0).toInt ∧ (0 ≤ i2.toInt ∧ i2.toInt < (fk 2).toInt ∧ i2.toInt < 2) ∧ (e0f.toInt = 0 ∨ ¬ e1f.toInt = i1.toInt ∨ ¬ e2f.toInt = i2.toInt)) := by omega
          have hNAm : zNA (i1.toInt = 0 ∧ 0 < (fk 0).toInt ∧ (0 ≤ i2.toInt ∧ i2.toInt < (fk 2).toInt ∧ i2.toInt < 2) ∧ (e0f.toInt = 0 ∨ ¬ e1f.toInt = i1.toInt ∨ ¬ e2f.toInt = i2.toInt)) mdA n4A (zPl cr0_ inn0_ k10_) = zMk mdA n4A (zPl cr0_ inn0_ k10_) := zNA_y hcF
          have hNAo : zNA (i1.toInt = 1 ∧ 1 < (fk 0).toInt ∧ (0 ≤ i2.toInt ∧ i2.toInt < (fk 2).toInt ∧ i2.toInt < 2) ∧ (e0f.toInt = 0 ∨ ¬ e1f.toInt = i1.toInt ∨ ¬ e2f.toInt = i2.toInt)) mdB n4B (zPl cr1_ inn1_ k11_) = n4B := zNA_n hcN
          have hn9 : zMk mdA n4A (zPl cr0_ inn0_ k10_) ≤ 131072 := zPw_le (zMk_pw hpwA)
          refine z_Vq (bc := [[zO10 xo t im mk rd po co tr wa wb_ fi cd], wwA, z0_]) (br := [z1_, wg0_, wg1_, wwB, [zO3 fi e0f e1f e2f e3f e4f e5f a1_22 a2_23], [zAr T 0 a1_22 m1f r1f], [zAr T 0 a2_23 7 r2f], wt]) (As := [.int i1, .ref l0]) (rest := [.ref fi]) C G (c_f_waysInA l T xo t im mk rd po co tr wa wb_ fi cd i1 laA mdA wyA pc_A f1A f2A f3A f4A f5A f6A n4A wwA l0 cr0_ inn0_ k10_ k20_ k30_ k40_ z0_ hwwA hz0_ hI0_ hpwA hmdA (kaOk hI0_ hLq0).1 hTbA (by omega)) (kV_RX11_235 C.2.2.2.2 (Nat.le_of_ble_eq_true rfl) (Nat.le_of_ble_eq_true rfl)) [0, 5, 1] [0, 0, 3] rfl rfl (ci := 10) (qc := (RX11, TX11, 11)) rfl rfl (List.mem_flatten.mpr ⟨_, List.mem_of_getElem? (i := 0) rfl, List.mem_cons_self⟩) rfl rfl hl.1 dX11_fit_69 (Nat.le_of_ble_eq_true rfl) (by show _ + (6 * (zMk mdA n4A (zPl cr0_ inn0_ k10_) - n4A)) ≤ 6 * (zNA (i1.toInt = 0 ∧ 0 < (fk 0).toInt ∧ (0 ≤ i2.toInt ∧ i2.toInt < (fk 2).toInt ∧ i2.toInt < 2) ∧ (e0f.toInt = 0 ∨ ¬ e1f.toInt = i1.toInt ∨ ¬ e2f.toInt = i2.toInt)) mdA n4A (zPl cr0_ inn0_ k10_) - n4A) + 6 * (zNA (i1.toInt = 1 ∧ 1 < (fk 0).toInt ∧ (0 ≤ i2.toInt ∧ i2.toInt < (fk 2).toInt ∧ i2.toInt < 2) ∧ (e0f.toInt = 0 ∨ ¬ e1f.toInt = i1.toInt ∨ ¬ e2f.toInt = i2.toInt)) mdB n4B (zPl cr1_ inn1_ k11_) - n4B) + 2 * (zNF (i1.toInt = 1 ∧ 1 < (fk 0).toInt ∧ (0 ≤ i2.toInt ∧ i2.toInt < (fk 2).toInt ∧ i2.toInt < 2) ∧ (e0f.toInt = 0 ∨ ¬ e1f.toInt = i1.toInt ∨ ¬ e2f.toInt = i2.toInt)) (zNF (i1.toInt = 0 ∧ 0 < (fk 0).toInt ∧ (0 ≤ i2.toInt ∧ i2.toInt < (fk 2).toInt ∧ i2.toInt < 2) ∧ (e0f.toInt = 0 ∨ ¬ e1f.toInt = i1.toInt ∨ ¬ e2f.toInt = i2.toInt)) m1f (zMw mdA wyA cr0_ inn0_ k10_)) (zMw mdB wyB cr1_ inn1_ k11_) - m1f); omega) (fun r_67 b1 H locs hw G => ?_)
          refine zEx9 hw ?_
          intro w2_53 m2_54 wy2_55 pc2_56 g1_57 g2_58 g4_59 g5_60 g6_61
          refine zCu6 ?_
          intro hbs9 h_62 h_63 h_64 h_65 h_66
          clear hw
          subst hbs9
          have G : zS T A s.heap s [z1_, wg0_, wg1_, wwB, [zO3 fi e0f e1f e2f e3f e4f e5f a1_22 a2_23], [zAr T 0 a1_22 m1f r1f], [zAr T 0 a2_23 7 r2f], wt, [zO10 xo t im mk rd po co tr wa wb_ fi cd], w2_53, z0_] _ _ := G
          subst h_62
          have hwy9 : 0 ≤ wy2_55.toInt ∧ wy2_55.toInt ≤ 16384 := by have q9 := zWy_in (inn := inn0_) hI0_; rw [h_64]; exact ⟨by omega, q9.2⟩
          have hmw9 : wy2_55 = (zMw mdA wyA cr0_ inn0_ k10_) := by unfold zMw; by_cases q9 : mdA = 0 <;> first | (rw [if_pos q9]; exact h_64) | (rw [if_neg q9]; exact h_64.trans ((hTbA.resolve_left q9).1).symm)
          have hNF : zNF (i1.toInt = 1 ∧ 1 < (fk 0).toInt ∧ (0 ≤ i2.toInt ∧ i2.toInt < (fk 2).toInt ∧ i2.toInt < 2) ∧ (e0f.toInt = 0 ∨ ¬ e1f.toInt = i1.toInt ∨ ¬ e2f.toInt = i2.toInt)) (zNF (i1.toInt = 0 ∧ 0 < (fk 0).toInt ∧ (0 ≤ i2.toInt ∧ i2.toInt < (fk 2).toInt ∧ i2.toInt < 2) ∧ (e0f.toInt = 0 ∨ ¬ e1f.toInt = i1.toInt ∨ ¬ e2f.toInt = i2.toInt)) m1f (zMw mdA wyA cr0_ inn0_ k10_)) (zMw mdB wyB cr1_ inn1_ k11_) = zFl m1f wy2_55 := by rw [zNF_n (c := (i1.toInt = 1 ∧ 1 < (fk 0).toInt ∧ (0 ≤ i2.toInt ∧ i2.toInt < (fk 2).toInt ∧ i2.toInt < 2) ∧ (e0f.toInt = 0 ∨ ¬ e1f.toInt = i1.toInt ∨ ¬ e2f.toInt = i2.toInt))) hcN, zNF_y hcF, hmw9]
          have hfw9 := zFl_pw (wy := wy2_55) hfw
          refine lv_aload hx hb dX11_fit_72 (lv_at hl 0 rfl) ?_
          have hw_68 : bFit T fi e0f e1f e2f e3f e4f e5f r1f m1f r2f [zO3 fi e0f e1f e2f e3f e4f e5f a1_22 a2_23, zAr T 0 a1_22 m1f r1f, zAr T 0 a2_23 7 r2f] := ⟨a1_22, a2_23, rfl⟩
          have G : zS T A s.heap s [z1_, wg0_, wg1_, wwB, [zO3 fi e0f e1f e2f e3f e4f e5f a1_22 a2_23, zAr T 0 a1_22 m1f r1f, zAr T 0 a2_23 7 r2f], wt, [zO10 xo t im mk rd po co tr wa wb_ fi cd], w2_53, z0_] _ _ := G.re rfl
          refine z_Vv (bc := [[zO3 fi e0f e1f e2f e3f e4f e5f a1_22 a2_23, zAr T 0 a1_22 m1f r1f, zAr T 0 a2_23 7 r2f], w2_53, z0_, wg0_]) (br := [z1_, wg1_, wwB, wt, [zO10 xo t im mk rd po co tr wa wb_ fi cd]]) (As := [.ref wa, .ref g0]) (rest := []) C G (c_find l T fi e0f e1f e2f e3f e4f e5f r1f m1f r2f ([zO3 fi e0f e1f e2f e3f e4f e5f a1_22 a2_23, zAr T 0 a1_22 m1f r1f, zAr T 0 a2_23 7 r2f]) wa l0 m2_54 wy2_55 pc2_56 g1_57 g2_58 f3A g4_59 g5_60 g6_61 (zMk mdA n4A (zPl cr0_ inn0_ k10_)) w2_53 cr0_ inn0_ k10_ k20_ k30_ k40_ z0_ g0 gg0_ q10_ q20_ wg0_ hw_68 h_63 hz0_ hg0_ hn9 hfw hwy9) (kV_RX11_298 C.2.2.2.2 (Nat.le_of_ble_eq_true rfl) (Nat.le_of_ble_eq_true rfl)) [4, 7, 8, 1] [1, 2, 2, 0] rfl rfl (ci := 3) (qc := (RX3, TX3, 8)) rfl rfl (List.mem_flatten.mpr ⟨_, List.mem_of_getElem? (i := 0) rfl, (bFit_mem hw_68).choose_spec⟩) rfl rfl hl.1 dX11_fit_74 (Nat.le_of_ble_eq_true rfl) (by show _ + (2 * (zFl m1f wy2_55 - m1f)) ≤ 6 * (zNA (i1.toInt = 0 ∧ 0 < (fk 0).toInt ∧ (0 ≤ i2.toInt ∧ i2.toInt < (fk 2).toInt ∧ i2.toInt < 2) ∧ (e0f.toInt = 0 ∨ ¬ e1f.toInt = i1.toInt ∨ ¬ e2f.toInt = i2.toInt)) mdA n4A (zPl cr0_ inn0_ k10_) - n4A) + 6 * (zNA (i1.toInt = 1 ∧ 1 < (fk 0).toInt ∧ (0 ≤ i2.toInt ∧ i2.toInt < (fk 2).toInt ∧ i2.toInt < 2) ∧ (e0f.toInt = 0 ∨ ¬ e1f.toInt = i1.toInt ∨ ¬ e2f.toInt = i2.toInt)) mdB n4B (zPl cr1_ inn1_ k11_) - n4B) + 2 * (zNF (i1.toInt = 1 ∧ 1 < (fk 0).toInt ∧ (0 ≤ i2.toInt ∧ i2.toInt < (fk 2).toInt ∧ i2.toInt < 2) ∧ (e0f.toInt = 0 ∨ ¬ e1f.toInt = i1.toInt ∨ ¬ e2f.toInt = i2.toInt)) (zNF (i1.toInt = 0 ∧ 0 < (fk 0).toInt ∧ (0 ≤ i2.toInt ∧ i2.toInt < (fk 2).toInt ∧ i2.toInt < 2) ∧ (e0f.toInt = 0 ∨ ¬ e1f.toInt = i1.toInt ∨ ¬ e2f.toInt = i2.toInt)) m1f (zMw mdA wyA cr0_ inn0_ k10_)) (zMw mdB wyB cr1_ inn1_ k11_) - m1f); omega) (fun b1 H locs hw G => ?_)
          refine zEx5 hw ?_
          intro w2_69 s3_70 s4_71 s5_72 g1_73
          refine zCu3 ?_
          intro hbs9 h_74 h_75
          clear hw
          subst hbs9
          have G : zS T A s.heap s [z1_, wg1_, wwB, wt, [zO10 xo t im mk rd po co tr wa wb_ fi cd], w2_69, w2_53, z0_, wg0_] _ _ := G
          have h39 := h_75
          refine lv_aload_n hx hb dX11_fit_77 rfl (lv_at hl 2 rfl) ?_
          refine z_get C G clX11 4 rfl 9 (by decide) m_fl_RX11_65 rfl dX11_fit_78 ?_
          refine lv_iload_n hx hb dX11_fit_81 rfl (lv_at hl 3 rfl) ?_
          refine zEx2 h_74 ?_
          intro a1_77 a2_78 hbs9
          clear h_74
          subst hbs9
          have G : zS T A s.heap s [z1_, wg1_, wwB, wt, [zO10 xo t im mk rd po co tr wa wb_ fi cd], [zO3 fi e0f e1f e2f s3_70 s4_71 s5_72 a1_77 a2_78], [zAr T 0 a1_77 (zFl m1f wy2_55) g1_73], [zAr T 0 a2_78 7 r2f], w2_53, z0_, wg0_] _ _ := G.re rfl
          refine z_put C G clX3 5 rfl 1 (by decide) m_fl_RX11_292 rfl rfl rfl (Nat.le_of_ble_eq_true rfl) dX11_fit_82 (fun H locs G => ?_)
          have G : zS T A s.heap s [z1_, wg1_, wwB, wt, [zO10 xo t im mk rd po co tr wa wb_ fi cd], [zO3 fi e0f i1 e2f s3_70 s4_71 s5_72 a1_77 a2_78], [zAr T 0 a1_77 (zFl m1f wy2_55) g1_73], [zAr T 0 a2_78 7 r2f], w2_53, z0_, wg0_] _ _ := G
          refine lv_aload_n hx hb dX11_fit_85 rfl (lv_at hl 2 rfl) ?_
          refine z_get C G clX11 4 rfl 9 (by decide) m_fl_RX11_65 rfl dX11_fit_86 ?_
          refine lv_iload_n hx hb dX11_fit_89 rfl (lv_at hl 4 rfl) ?_
          refine z_put C G clX3 5 rfl 2 (by decide) m_fl_RX11_295 rfl rfl rfl (Nat.le_of_ble_eq_true rfl) dX11_fit_90 (fun H locs G => ?_)
          have G : zS T A s.heap s [z1_, wg1_, wwB, wt, [zO10 xo t im mk rd po co tr wa wb_ fi cd], [zO3 fi e0f i1 i2 s3_70 s4_71 s5_72 a1_77 a2_78], [zAr T 0 a1_77 (zFl m1f wy2_55) g1_73], [zAr T 0 a2_78 7 r2f], w2_53, z0_, wg0_] _ _ := G
          refine lv_aload_n hx hb dX11_fit_93 rfl (lv_at hl 2 rfl) ?_
          refine z_get C G clX11 4 rfl 9 (by decide) m_fl_RX11_65 rfl dX11_fit_94 ?_
          refine lv_iconst (v := 1) hx hb dX11_fit_97 (by decide) ?_
          refine z_put C G clX3 5 rfl 0 (by decide) m_fl_RX11_109 rfl rfl rfl (Nat.le_of_ble_eq_true rfl) dX11_fit_98 (fun H locs G => ?_)
          have G : zS T A s.heap s [z1_, wg1_, wwB, wt, [zO10 xo t im mk rd po co tr wa wb_ fi cd], [zO3 fi 1 i1 i2 s3_70 s4_71 s5_72 a1_77 a2_78], [zAr T 0 a1_77 (zFl m1f wy2_55) g1_73], [zAr T 0 a2_78 7 r2f], w2_53, z0_, wg0_] _ _ := G
          refine lv_iconst (v := 1) hx hb dX11_fit_101 (by decide) ?_
          have hw_79 : bFit T fi 1 i1 i2 s3_70 s4_71 s5_72 g1_73 (zFl m1f wy2_55) r2f [zO3 fi 1 i1 i2 s3_70 s4_71 s5_72 a1_77 a2_78, zAr T 0 a1_77 (zFl m1f wy2_55) g1_73, zAr T 0 a2_78 7 r2f] := ⟨a1_77, a2_78, rfl⟩
          have G : zS T A s.heap s [z1_, wg1_, wwB, wt, [zO10 xo t im mk rd po co tr wa wb_ fi cd], [zO3 fi 1 i1 i2 s3_70 s4_71 s5_72 a1_77 a2_78, zAr T 0 a1_77 (zFl m1f wy2_55) g1_73, zAr T 0 a2_78 7 r2f], w2_53, z0_, wg0_] _ _ := G.re rfl
          have G := G.sub (bs' := [[zO10 xo t im mk rd po co tr wa wb_ fi cd], wt, z0_, z1_, wg0_, wg1_, w2_53, wwB, [zO3 fi 1 i1 i2 s3_70 s4_71 s5_72 a1_77 a2_78, zAr T 0 a1_77 (zFl m1f wy2_55) g1_73, zAr T 0 a2_78 7 r2f]]) [4, 3, 7, 0, 8, 1, 6, 2, 5] rfl
          exact z_back hQz_ (z_zret C hr hlocks G (Nat.le_of_ble_eq_true rfl) (by omega) dX11_fit_102 rfl ⟨l0, m2_54, wy2_55, pc2_56, g1_57, g2_58, f3A, g4_59, g5_60, g6_61, (zMk mdA n4A (zPl cr0_ inn0_ k10_)), w2_53, laB, mdB, wyB, pc_B, f1B, f2B, f3B, f4B, f5B, f6B, n4B, wwB, 1, i1, i2, s3_70, s4_71, s5_72, g1_73, (zFl m1f wy2_55), r2f, ([zO3 fi 1 i1 i2 s3_70 s4_71 s5_72 a1_77 a2_78, zAr T 0 a1_77 (zFl m1f wy2_55) g1_73, zAr T 0 a2_78 7 r2f]), rfl, h_63, (Or.inr rfl), hwy9, hNAm.symm, (zMk_pw hpwA), (fun _ => h_65), (Or.inr h_66), hwwB, hmdB, hwmB, (zNA_n (by omega)).symm, hpwB, (fun q => q), hTbB, hw_79, hNF.symm, hfw9, h39, (Or.inr ⟨rfl, by omega, by decide, rfl⟩), (fun _ => Or.inl ⟨by omega, h_65⟩)⟩)
        · have c_52n : e1f.toInt = i1.toInt := (fa_eq _ _).mp c_52
          refine lv_aload_n hx hb dX11_fit_51 rfl (lv_at hl 2 rfl) ?_
          refine z_get C G clX11 0 rfl 9 (by decide) m_fl_RX11_65 rfl dX11_fit_52 ?_
          refine z_get C G clX3 7 rfl 2 (by decide) m_fl_RX11_295 rfl dX11_fit_55 ?_
          refine lv_iload_n hx hb dX11_fit_58 rfl (lv_at hl 4 rfl) ?_
          refine lv_icmp_eq (tgt := 101) hx hb dX11_fit_59 (by decide) (fun c_80 => ?_) (fun c_80 => ?_)
          · have c_80n : e2f.toInt = i2.toInt := (fa_eq _ _).mp c_80
            refine lv_iconst (v := 1) hx hb dX11_fit_101 (by decide) ?_
            have hw_81 : bFit T fi e0f e1f e2f e3f e4f e5f r1f m1f r2f [zO3 fi e0f e1f e2f e3f e4f e5f a1_22 a2_23, zAr T 0 a1_22 m1f r1f, zAr T 0 a2_23 7 r2f] := ⟨a1_22, a2_23, rfl⟩
            have G : zS T A s.heap s [[zO10 xo t im mk rd po co tr wa wb_ fi cd], z0_, z1_, wg0_, wg1_, wwA, wwB, [zO3 fi e0f e1f e2f e3f e4f e5f a1_22 a2_23, zAr T 0 a1_22 m1f r1f, zAr T 0 a2_23 7 r2f], wt] _ _ := G.re rfl
            have G := G.sub (bs' := [[zO10 xo t im mk rd po co tr wa wb_ fi cd], wt, z0_, z1_, wg0_, wg1_, wwA, wwB, [zO3 fi e0f e1f e2f e3f e4f e5f a1_22 a2_23, zAr T 0 a1_22 m1f r1f, zAr T 0 a2_23 7 r2f]]) [0, 8, 1, 2, 3, 4, 5, 6, 7] rfl
            exact z_back hQz_ (z_zret C hr hlocks G (Nat.le_of_ble_eq_true rfl) (by omega) dX11_fit_102 rfl ⟨laA, mdA, wyA, pc_A, f1A, f2A, f3A, f4A, f5A, f6A, n4A, wwA, laB, mdB, wyB, pc_B, f1B, f2B, f3B, f4B, f5B, f6B, n4B, wwB, e0f, e1f, e2f, e3f, e4f, e5f, r1f, m1f, r2f, ([zO3 fi e0f e1f e2f e3f e4f e5f a1_22 a2_23, zAr T 0 a1_22 m1f r1f, zAr T 0 a2_23 7 r2f]), rfl, hwwA, hmdA, hwmA, (zNA_n (by omega)).symm, hpwA, (fun q => q), hTbA, hwwB, hmdB, hwmB, (zNA_n (by omega)).symm, hpwB, (fun q => q), hTbB, hw_81, (((zNF_n (c := (i1.toInt = 1 ∧ 1 < (fk 0).toInt ∧ (0 ≤ i2.toInt ∧ i2.toInt < (fk 2).toInt ∧ i2.toInt < 2) ∧ (e0f.toInt = 0 ∨ ¬ e1f.toInt = i1.toInt ∨ ¬ e2f.toInt = i2.toInt))) (by omega)).trans (zNF_n (by omega))).symm), hfw, hf3, (Or.inr ⟨rfl, by omega, (fun q => absurd (congrArg Int32.toInt q) (by show ¬ _ = (0 : Int); omega)), by omega⟩), hFI⟩)
          · have c_80n : ¬ e2f.toInt = i2.toInt := fun q => c_80 ((fa_eq _ _).mpr q)
            refine lv_aload_n hx hb dX11_fit_62 rfl (lv_at hl 2 rfl) ?_
            refine z_get C G clX11 0 rfl 9 (by decide) m_fl_RX11_65 rfl dX11_fit_63 ?_
            refine lv_aload_n hx hb dX11_fit_66 rfl (lv_at hl 2 rfl) ?_
            refine lv_iload_n hx hb dX11_fit_67 rfl (lv_at hl 3 rfl) ?_
            refine lv_aload_n hx hb dX11_fit_68 rfl (lv_at hl 1 rfl) ?_
            have hcF : (i1.toInt = 0 ∧ 0 < (fk 0).toInt ∧ (0 ≤ i2.toInt ∧ i2.toInt < (fk 2).toInt ∧ i2.toInt < 2) ∧ (e0f.toInt = 0 ∨ ¬ e1f.toInt = i1.toInt ∨ ¬ e2f.toInt = i2.toInt)) := by omega
            have hcN : ¬ (i1.toInt = 1 ∧ 1 < (fk 0).toInt ∧ (0 ≤ i2.toInt ∧ i2.toInt < (fk 2).toInt ∧ i2.toInt < 2) ∧ (e0f.toInt = 0 ∨ ¬ e1f.toInt = i1.toInt ∨ ¬ e2f.toInt = i2.toInt)) := by omega
            have hNAm : zNA (i1.toInt = 0 ∧ 0 < (fk 0).toInt ∧ (0 ≤ i2.toInt ∧ i2.toInt < (fk 2).toInt ∧ i2.toInt < 2) ∧ (e0f.toInt = 0 ∨ ¬ e1f.toInt = i1.toInt ∨ ¬ e2f.toInt = i2.toInt)) mdA n4A (zPl cr0_ inn0_ k10_) = zMk mdA n4A (zPl cr0_ inn0_ k10_) := zNA_y hcF
            have hNAo : zNA (i1.toInt = 1 ∧ 1 < (fk 0).toInt ∧ (0 ≤ i2.toInt ∧ i2.toInt < (fk 2).toInt ∧ i2.toInt < 2) ∧ (e0f.toInt = 0 ∨ ¬ e1f.toInt = i1.toInt ∨ ¬ e2f.toInt = i2.toInt)) mdB n4B (zPl cr1_ inn1_ k11_) = n4B := zNA_n hcN
            have hn9 : zMk mdA n4A (zPl cr0_ inn0_ k10_) ≤ 131072 := zPw_le (zMk_pw hpwA)
            refine z_Vq (bc := [[zO10 xo t im mk rd po co tr wa wb_ fi cd], wwA, z0_]) (br := [z1_, wg0_, wg1_, wwB, [zO3 fi e0f e1f e2f e3f e4f e5f a1_22 a2_23], [zAr T 0 a1_22 m1f r1f], [zAr T 0 a2_23 7 r2f], wt]) (As := [.int i1, .ref l0]) (rest := [.ref fi]) C G (c_f_waysInA l T xo t im mk rd po co tr wa wb_ fi cd i1 laA mdA wyA pc_A f1A f2A f3A f4A f5A f6A n4A wwA l0 cr0_ inn0_ k10_ k20_ k30_ k40_ z0_ hwwA hz0_ hI0_ hpwA hmdA (kaOk hI0_ hLq0).1 hTbA (by omega)) (kV_RX11_235 C.2.2.2.2 (Nat.le_of_ble_eq_true rfl) (Nat.le_of_ble_eq_true rfl)) [0, 5, 1] [0, 0, 3] rfl rfl (ci := 10) (qc := (RX11, TX11, 11)) rfl rfl (List.mem_flatten.mpr ⟨_, List.mem_of_getElem? (i := 0) rfl, List.mem_cons_self⟩) rfl rfl hl.1 dX11_fit_69 (Nat.le_of_ble_eq_true rfl) (by show _ + (6 * (zMk mdA n4A (zPl cr0_ inn0_ k10_) - n4A)) ≤ 6 * (zNA (i1.toInt = 0 ∧ 0 < (fk 0).toInt ∧ (0 ≤ i2.toInt ∧ i2.toInt < (fk 2).toInt ∧ i2.toInt < 2) ∧ (e0f.toInt = 0 ∨ ¬ e1f.toInt = i1.toInt ∨ ¬ e2f.toInt = i2.toInt)) mdA n4A (zPl cr0_ inn0_ k10_) - n4A) + 6 * (zNA (i1.toInt = 1 ∧ 1 < (fk 0).toInt ∧ (0 ≤ i2.toInt ∧ i2.toInt < (fk 2).toInt ∧ i2.toInt < 2) ∧ (e0f.toInt = 0 ∨ ¬ e1f.toInt = i1.toInt ∨ ¬ e2f.toInt = i2.toInt)) mdB n4B (zPl cr1_ inn1_ k11_) - n4B) + 2 * (zNF (i1.toInt = 1 ∧ 1 < (fk 0).toInt ∧ (0 ≤ i2.toInt ∧ i2.toInt < (fk 2).toInt ∧ i2.toInt < 2) ∧ (e0f.toInt = 0 ∨ ¬ e1f.toInt = i1.toInt ∨ ¬ e2f.toInt = i2.toInt)) (zNF (i1.toInt = 0 ∧ 0 < (fk 0).toInt ∧ (0 ≤ i2.toInt ∧ i2.toInt < (fk 2).toInt ∧ i2.toInt < 2) ∧ (e0f.toInt = 0 ∨ ¬ e1f.toInt = i1.toInt ∨ ¬ e2f.toInt = i2.toInt)) m1f (zMw mdA wyA cr0_ inn0_ k10_)) (zMw mdB wyB cr1_ inn1_ k11_) - m1f); omega) (fun r_96 b1 H locs hw G => ?_)
            refine zEx9 hw ?_
            intro w2_82 m2_83 wy2_84 pc2_85 g1_86 g2_87 g4_88 g5_89 g6_90
            refine zCu6 ?_
            intro hbs9 h_91 h_92 h_93 h_94 h_95
            clear hw
            subst hbs9
            have G : zS T A s.heap s [z1_, wg0_, wg1_, wwB, [zO3 fi e0f e1f e2f e3f e4f e5f a1_22 a2_23], [zAr T 0 a1_22 m1f r1f], [zAr T 0 a2_23 7 r2f], wt, [zO10 xo t im mk rd po co tr wa wb_ fi cd], w2_82, z0_] _ _ := G
            subst h_91
            have hwy9 : 0 ≤ wy2_84.toInt ∧ wy2_84.toInt ≤ 16384 := by have q9 := zWy_in (inn := inn0_) hI0_; rw [h_93]; exact ⟨by omega, q9.2⟩
            have hmw9 : wy2_84 = (zMw mdA wyA cr0_ inn0_ k10_) := by unfold zMw; by_cases q9 : mdA = 0 <;> first | (rw [if_pos q9]; exact h_93) | (rw [if_neg q9]; exact h_93.trans ((hTbA.resolve_left q9).1).symm)
            have hNF : zNF (i1.toInt = 1 ∧ 1 < (fk 0).toInt ∧ (0 ≤ i2.toInt ∧ i2.toInt < (fk 2).toInt ∧ i2.toInt < 2) ∧ (e0f.toInt = 0 ∨ ¬ e1f.toInt = i1.toInt ∨ ¬ e2f.toInt = i2.toInt)) (zNF (i1.toInt = 0 ∧ 0 < (fk 0).toInt ∧ (0 ≤ i2.toInt ∧ i2.toInt < (fk 2).toInt ∧ i2.toInt < 2) ∧ (e0f.toInt = 0 ∨ ¬ e1f.toInt = i1.toInt ∨ ¬ e2f.toInt = i2.toInt)) m1f (zMw mdA wyA cr0_ inn0_ k10_)) (zMw mdB wyB cr1_ inn1_ k11_) = zFl m1f wy2_84 := by rw [zNF_n (c := (i1.toInt = 1 ∧ 1 < (fk 0).toInt ∧ (0 ≤ i2.toInt ∧ i2.toInt < (fk 2).toInt ∧ i2.toInt < 2) ∧ (e0f.toInt = 0 ∨ ¬ e1f.toInt = i1.toInt ∨ ¬ e2f.toInt = i2.toInt))) hcN, zNF_y hcF, hmw9]
            have hfw9 := zFl_pw (wy := wy2_84) hfw
            refine lv_aload hx hb dX11_fit_72 (lv_at hl 0 rfl) ?_
            have hw_97 : bFit T fi e0f e1f e2f e3f e4f e5f r1f m1f r2f [zO3 fi e0f e1f e2f e3f e4f e5f a1_22 a2_23, zAr T 0 a1_22 m1f r1f, zAr T 0 a2_23 7 r2f] := ⟨a1_22, a2_23, rfl⟩
            have G : zS T A s.heap s [z1_, wg0_, wg1_, wwB, [zO3 fi e0f e1f e2f e3f e4f e5f a1_22 a2_23, zAr T 0 a1_22 m1f r1f, zAr T 0 a2_23 7 r2f], wt, [zO10 xo t im mk rd po co tr wa wb_ fi cd], w2_82, z0_] _ _ := G.re rfl
            refine z_Vv (bc := [[zO3 fi e0f e1f e2f e3f e4f e5f a1_22 a2_23, zAr T 0 a1_22 m1f r1f, zAr T 0 a2_23 7 r2f], w2_82, z0_, wg0_]) (br := [z1_, wg1_, wwB, wt, [zO10 xo t im mk rd po co tr wa wb_ fi cd]]) (As := [.ref wa, .ref g0]) (rest := []) C G (c_find l T fi e0f e1f e2f e3f e4f e5f r1f m1f r2f ([zO3 fi e0f e1f e2f e3f e4f e5f a1_22 a2_23, zAr T 0 a1_22 m1f r1f, zAr T 0 a2_23 7 r2f]) wa l0 m2_83 wy2_84 pc2_85 g1_86 g2_87 f3A g4_88 g5_89 g6_90 (zMk mdA n4A (zPl cr0_ inn0_ k10_)) w2_82 cr0_ inn0_ k10_ k20_ k30_ k40_ z0_ g0 gg0_ q10_ q20_ wg0_ hw_97 h_92 hz0_ hg0_ hn9 hfw hwy9) (kV_RX11_298 C.2.2.2.2 (Nat.le_of_ble_eq_true rfl) (Nat.le_of_ble_eq_true rfl)) [4, 7, 8, 1] [1, 2, 2, 0] rfl rfl (ci := 3) (qc := (RX3, TX3, 8)) rfl rfl (List.mem_flatten.mpr ⟨_, List.mem_of_getElem? (i := 0) rfl, (bFit_mem hw_97).choose_spec⟩) rfl rfl hl.1 dX11_fit_74 (Nat.le_of_ble_eq_true rfl) (by show _ + (2 * (zFl m1f wy2_84 - m1f)) ≤ 6 * (zNA (i1.toInt = 0 ∧ 0 < (fk 0).toInt ∧ (0 ≤ i2.toInt ∧ i2.toInt < (fk 2).toInt ∧ i2.toInt < 2) ∧ (e0f.toInt = 0 ∨ ¬ e1f.toInt = i1.toInt ∨ ¬ e2f.toInt = i2.toInt)) mdA n4A (zPl cr0_ inn0_ k10_) - n4A) + 6 * (zNA (i1.toInt = 1 ∧ 1 < (fk 0).toInt ∧ (0 ≤ i2.toInt ∧ i2.toInt < (fk 2).toInt ∧ i2.toInt < 2) ∧ (e0f.toInt = 0 ∨ ¬ e1f.toInt = i1.toInt ∨ ¬ e2f.toInt = i2.toInt)) mdB n4B (zPl cr1_ inn1_ k11_) - n4B) + 2 * (zNF (i1.toInt = 1 ∧ 1 < (fk 0).toInt ∧ (0 ≤ i2.toInt ∧ i2.toInt < (fk 2).toInt ∧ i2.toInt < 2) ∧ (e0f.toInt = 0 ∨ ¬ e1f.toInt = i1.toInt ∨ ¬ e2f.toInt = i2.toInt)) (zNF (i1.toInt = 0 ∧ 0 < (fk 0).toInt ∧ (0 ≤ i2.toInt ∧ i2.toInt < (fk 2).toInt ∧ i2.toInt < 2) ∧ (e0f.toInt = 0 ∨ ¬ e1f.toInt = i1.toInt ∨ ¬ e2f.toInt = i2.toInt)) m1f (zMw mdA wyA cr0_ inn0_ k10_)) (zMw mdB wyB cr1_ inn1_ k11_) - m1f); omega) (fun b1 H locs hw G => ?_)
            refine zEx5 hw ?_
            intro w2_98 s3_99 s4_100 s5_101 g1_102
            refine zCu3 ?_
            intro hbs9 h_103 h_104
            clear hw
            subst hbs9
            have G : zS T A s.heap s [z1_, wg1_, wwB, wt, [zO10 xo t im mk rd po co tr wa wb_ fi cd], w2_98, w2_82, z0_, wg0_] _ _ := G
            have h39 := h_104
            refine lv_aload_n hx hb dX11_fit_77 rfl (lv_at hl 2 rfl) ?_
            refine z_get C G clX11 4 rfl 9 (by decide) m_fl_RX11_65 rfl dX11_fit_78 ?_
            refine lv_iload_n hx hb dX11_fit_81 rfl (lv_at hl 3 rfl) ?_
            refine zEx2 h_103 ?_
            intro a1_106 a2_107 hbs9
            clear h_103
            subst hbs9
            have G : zS T A s.heap s [z1_, wg1_, wwB, wt, [zO10 xo t im mk rd po co tr wa wb_ fi cd], [zO3 fi e0f e1f e2f s3_99 s4_100 s5_101 a1_106 a2_107], [zAr T 0 a1_106 (zFl m1f wy2_84) g1_102], [zAr T 0 a2_107 7 r2f], w2_82, z0_, wg0_] _ _ := G.re rfl
            refine z_put C G clX3 5 rfl 1 (by decide) m_fl_RX11_292 rfl rfl rfl (Nat.le_of_ble_eq_true rfl) dX11_fit_82 (fun H locs G => ?_)
            have G : zS T A s.heap s [z1_, wg1_, wwB, wt, [zO10 xo t im mk rd po co tr wa wb_ fi cd], [zO3 fi e0f i1 e2f s3_99 s4_100 s5_101 a1_106 a2_107], [zAr T 0 a1_106 (zFl m1f wy2_84) g1_102], [zAr T 0 a2_107 7 r2f], w2_82, z0_, wg0_] _ _ := G
            refine lv_aload_n hx hb dX11_fit_85 rfl (lv_at hl 2 rfl) ?_
            refine z_get C G clX11 4 rfl 9 (by decide) m_fl_RX11_65 rfl dX11_fit_86 ?_
            refine lv_iload_n hx hb dX11_fit_89 rfl (lv_at hl 4 rfl) ?_
            refine z_put C G clX3 5 rfl 2 (by decide) m_fl_RX11_295 rfl rfl rfl (Nat.le_of_ble_eq_true rfl) dX11_fit_90 (fun H locs G => ?_)
            have G : zS T A s.heap s [z1_, wg1_, wwB, wt, [zO10 xo t im mk rd po co tr wa wb_ fi cd], [zO3 fi e0f i1 i2 s3_99 s4_100 s5_101 a1_106 a2_107], [zAr T 0 a1_106 (zFl m1f wy2_84) g1_102], [zAr T 0 a2_107 7 r2f], w2_82, z0_, wg0_] _ _ := G
            refine lv_aload_n hx hb dX11_fit_93 rfl (lv_at hl 2 rfl) ?_
            refine z_get C G clX11 4 rfl 9 (by decide) m_fl_RX11_65 rfl dX11_fit_94 ?_
            refine lv_iconst (v := 1) hx hb dX11_fit_97 (by decide) ?_
            refine z_put C G clX3 5 rfl 0 (by decide) m_fl_RX11_109 rfl rfl rfl (Nat.le_of_ble_eq_true rfl) dX11_fit_98 (fun H locs G => ?_)
            have G : zS T A s.heap s [z1_, wg1_, wwB, wt, [zO10 xo t im mk rd po co tr wa wb_ fi cd], [zO3 fi 1 i1 i2 s3_99 s4_100 s5_101 a1_106 a2_107], [zAr T 0 a1_106 (zFl m1f wy2_84) g1_102], [zAr T 0 a2_107 7 r2f], w2_82, z0_, wg0_] _ _ := G
            refine lv_iconst (v := 1) hx hb dX11_fit_101 (by decide) ?_
            have hw_108 : bFit T fi 1 i1 i2 s3_99 s4_100 s5_101 g1_102 (zFl m1f wy2_84) r2f [zO3 fi 1 i1 i2 s3_99 s4_100 s5_101 a1_106 a2_107, zAr T 0 a1_106 (zFl m1f wy2_84) g1_102, zAr T 0 a2_107 7 r2f] := ⟨a1_106, a2_107, rfl⟩
            have G : zS T A s.heap s [z1_, wg1_, wwB, wt, [zO10 xo t im mk rd po co tr wa wb_ fi cd], [zO3 fi 1 i1 i2 s3_99 s4_100 s5_101 a1_106 a2_107, zAr T 0 a1_106 (zFl m1f wy2_84) g1_102, zAr T 0 a2_107 7 r2f], w2_82, z0_, wg0_] _ _ := G.re rfl
            have G := G.sub (bs' := [[zO10 xo t im mk rd po co tr wa wb_ fi cd], wt, z0_, z1_, wg0_, wg1_, w2_82, wwB, [zO3 fi 1 i1 i2 s3_99 s4_100 s5_101 a1_106 a2_107, zAr T 0 a1_106 (zFl m1f wy2_84) g1_102, zAr T 0 a2_107 7 r2f]]) [4, 3, 7, 0, 8, 1, 6, 2, 5] rfl
            exact z_back hQz_ (z_zret C hr hlocks G (Nat.le_of_ble_eq_true rfl) (by omega) dX11_fit_102 rfl ⟨l0, m2_83, wy2_84, pc2_85, g1_86, g2_87, f3A, g4_88, g5_89, g6_90, (zMk mdA n4A (zPl cr0_ inn0_ k10_)), w2_82, laB, mdB, wyB, pc_B, f1B, f2B, f3B, f4B, f5B, f6B, n4B, wwB, 1, i1, i2, s3_99, s4_100, s5_101, g1_102, (zFl m1f wy2_84), r2f, ([zO3 fi 1 i1 i2 s3_99 s4_100 s5_101 a1_106 a2_107, zAr T 0 a1_106 (zFl m1f wy2_84) g1_102, zAr T 0 a2_107 7 r2f]), rfl, h_92, (Or.inr rfl), hwy9, hNAm.symm, (zMk_pw hpwA), (fun _ => h_94), (Or.inr h_95), hwwB, hmdB, hwmB, (zNA_n (by omega)).symm, hpwB, (fun q => q), hTbB, hw_108, hNF.symm, hfw9, h39, (Or.inr ⟨rfl, by omega, by decide, rfl⟩), (fun _ => Or.inl ⟨by omega, h_94⟩)⟩)
    · have h_20 : i2.toInt = 1 := h_20
      have h_21 : 1 < (fk 2).toInt := h_21
      refine lv_astore (lv' := [(4, .ref g1), (3, .ref l0), (0, .ref xo), (1, .int i1), (2, .int i2)]) hx hb dX11_fit_17 hl (by decide) (zLvf_h rfl) (fun ls hl => ?_)
      refine lv_aload_n hx hb dX11_fit_19 rfl (lv_at hl 1 rfl) ?_
      refine lv_ifnull hx hb dX11_fit_20 ?_
      refine lv_aload hx hb dX11_fit_23 (lv_at hl 0 rfl) ?_
      refine lv_ifnonnull (tgt := 30) hx hb dX11_fit_25 (by decide) ?_
      refine lv_aload_n hx hb dX11_fit_30 rfl (lv_at hl 2 rfl) ?_
      refine z_get C G clX11 0 rfl 9 (by decide) m_fl_RX11_65 rfl dX11_fit_31 ?_
      refine zEx2 hwff ?_
      intro a1_109 a2_110 hbs9
      clear hwff
      subst hbs9
      have G : zS T A s.heap s [[zO10 xo t im mk rd po co tr wa wb_ fi cd], z0_, z1_, wg0_, wg1_, wwA, wwB, [zO3 fi e0f e1f e2f e3f e4f e5f a1_109 a2_110], [zAr T 0 a1_109 m1f r1f], [zAr T 0 a2_110 7 r2f], wt] _ _ := G.re rfl
      refine z_get C G clX3 7 rfl 0 (by decide) m_fl_RX11_109 rfl dX11_fit_34 ?_
      refine lv_if_eq (tgt := 62) hx hb dX11_fit_37 (by decide) (fun c_111 => ?_) (fun c_111 => ?_)
      · have c_111n : e0f.toInt = (0 : Int) := (fa_eq _ _).mp c_111
        refine lv_aload_n hx hb dX11_fit_62 rfl (lv_at hl 2 rfl) ?_
        refine z_get C G clX11 0 rfl 9 (by decide) m_fl_RX11_65 rfl dX11_fit_63 ?_
        refine lv_aload_n hx hb dX11_fit_66 rfl (lv_at hl 2 rfl) ?_
        refine lv_iload_n hx hb dX11_fit_67 rfl (lv_at hl 3 rfl) ?_
        refine lv_aload_n hx hb dX11_fit_68 rfl (lv_at hl 1 rfl) ?_
        have hcF : (i1.toInt = 0 ∧ 0 < (fk 0).toInt ∧ (0 ≤ i2.toInt ∧ i2.toInt < (fk 2).toInt ∧ i2.toInt < 2) ∧ (e0f.toInt = 0 ∨ ¬ e1f.toInt = i1.toInt ∨ ¬ e2f.toInt = i2.toInt)) := by omega
        have hcN : ¬ (i1.toInt = 1 ∧ 1 < (fk 0).toInt ∧ (0 ≤ i2.toInt ∧ i2.toInt < (fk 2).toInt ∧ i2.toInt < 2) ∧ (e0f.toInt = 0 ∨ ¬ e1f.toInt = i1.toInt ∨ ¬ e2f.toInt = i2.toInt)) := by omega
        have hNAm : zNA (i1.toInt = 0 ∧ 0 < (fk 0).toInt ∧ (0 ≤ i2.toInt ∧ i2.toInt < (fk 2).toInt ∧ i2.toInt < 2) ∧ (e0f.toInt = 0 ∨ ¬ e1f.toInt = i1.toInt ∨ ¬ e2f.toInt = i2.toInt)) mdA n4A (zPl cr0_ inn0_ k10_) = zMk mdA n4A (zPl cr0_ inn0_ k10_) := zNA_y hcF
        have hNAo : zNA (i1.toInt = 1 ∧ 1 < (fk 0).toInt ∧ (0 ≤ i2.toInt ∧ i2.toInt < (fk 2).toInt ∧ i2.toInt < 2) ∧ (e0f.toInt = 0 ∨ ¬ e1f.toInt = i1.toInt ∨ ¬ e2f.toInt = i2.toInt)) mdB n4B (zPl cr1_ inn1_ k11_) = n4B := zNA_n hcN
        have hn9 : zMk mdA n4A (zPl cr0_ inn0_ k10_) ≤ 131072 := zPw_le (zMk_pw hpwA)
        refine z_Vq (bc := [[zO10 xo t im mk rd po co tr wa wb_ fi cd], wwA, z0_]) (br := [z1_, wg0_, wg1_, wwB, [zO3 fi e0f e1f e2f e3f e4f e5f a1_109 a2_110], [zAr T 0 a1_109 m1f r1f], [zAr T 0 a2_110 7 r2f], wt]) (As := [.int i1, .ref l0]) (rest := [.ref fi]) C G (c_f_waysInA l T xo t im mk rd po co tr wa wb_ fi cd i1 laA mdA wyA pc_A f1A f2A f3A f4A f5A f6A n4A wwA l0 cr0_ inn0_ k10_ k20_ k30_ k40_ z0_ hwwA hz0_ hI0_ hpwA hmdA (kaOk hI0_ hLq0).1 hTbA (by omega)) (kV_RX11_235 C.2.2.2.2 (Nat.le_of_ble_eq_true rfl) (Nat.le_of_ble_eq_true rfl)) [0, 5, 1] [0, 0, 3] rfl rfl (ci := 10) (qc := (RX11, TX11, 11)) rfl rfl (List.mem_flatten.mpr ⟨_, List.mem_of_getElem? (i := 0) rfl, List.mem_cons_self⟩) rfl rfl hl.1 dX11_fit_69 (Nat.le_of_ble_eq_true rfl) (by show _ + (6 * (zMk mdA n4A (zPl cr0_ inn0_ k10_) - n4A)) ≤ 6 * (zNA (i1.toInt = 0 ∧ 0 < (fk 0).toInt ∧ (0 ≤ i2.toInt ∧ i2.toInt < (fk 2).toInt ∧ i2.toInt < 2) ∧ (e0f.toInt = 0 ∨ ¬ e1f.toInt = i1.toInt ∨ ¬ e2f.toInt = i2.toInt)) mdA n4A (zPl cr0_ inn0_ k10_) - n4A) + 6 * (zNA (i1.toInt = 1 ∧ 1 < (fk 0).toInt ∧ (0 ≤ i2.toInt ∧ i2.toInt < (fk 2).toInt ∧ i2.toInt < 2) ∧ (e0f.toInt = 0 ∨ ¬ e1f.toInt = i1.toInt ∨ ¬ e2f.toInt = i2.toInt)) mdB n4B (zPl cr1_ inn1_ k11_) - n4B) + 2 * (zNF (i1.toInt = 1 ∧ 1 < (fk 0).toInt ∧ (0 ≤ i2.toInt ∧ i2.toInt < (fk 2).toInt ∧ i2.toInt < 2) ∧ (e0f.toInt = 0 ∨ ¬ e1f.toInt = i1.toInt ∨ ¬ e2f.toInt = i2.toInt)) (zNF (i1.toInt = 0 ∧ 0 < (fk 0).toInt ∧ (0 ≤ i2.toInt ∧ i2.toInt < (fk 2).toInt ∧ i2.toInt < 2) ∧ (e0f.toInt = 0 ∨ ¬ e1f.toInt = i1.toInt ∨ ¬ e2f.toInt = i2.toInt)) m1f (zMw mdA wyA cr0_ inn0_ k10_)) (zMw mdB wyB cr1_ inn1_ k11_) - m1f); omega) (fun r_126 b1 H locs hw G => ?_)
        refine zEx9 hw ?_
        intro w2_112 m2_113 wy2_114 pc2_115 g1_116 g2_117 g4_118 g5_119 g6_120
        refine zCu6 ?_
        intro hbs9 h_121 h_122 h_123 h_124 h_125
        clear hw
        subst hbs9
        have G : zS T A s.heap s [z1_, wg0_, wg1_, wwB, [zO3 fi e0f e1f e2f e3f e4f e5f a1_109 a2_110], [zAr T 0 a1_109 m1f r1f], [zAr T 0 a2_110 7 r2f], wt, [zO10 xo t im mk rd po co tr wa wb_ fi cd], w2_112, z0_] _ _ := G
        subst h_121
        have hwy9 : 0 ≤ wy2_114.toInt ∧ wy2_114.toInt ≤ 16384 := by have q9 := zWy_in (inn := inn0_) hI0_; rw [h_123]; exact ⟨by omega, q9.2⟩
        have hmw9 : wy2_114 = (zMw mdA wyA cr0_ inn0_ k10_) := by unfold zMw; by_cases q9 : mdA = 0 <;> first | (rw [if_pos q9]; exact h_123) | (rw [if_neg q9]; exact h_123.trans ((hTbA.resolve_left q9).1).symm)
        have hNF : zNF (i1.toInt = 1 ∧ 1 < (fk 0).toInt ∧ (0 ≤ i2.toInt ∧ i2.toInt < (fk 2).toInt ∧ i2.toInt < 2) ∧ (e0f.toInt = 0 ∨ ¬ e1f.toInt = i1.toInt ∨ ¬ e2f.toInt = i2.toInt)) (zNF (i1.toInt = 0 ∧ 0 < (fk 0).toInt ∧ (0 ≤ i2.toInt ∧ i2.toInt < (fk 2).toInt ∧ i2.toInt < 2) ∧ (e0f.toInt = 0 ∨ ¬ e1f.toInt = i1.toInt ∨ ¬ e2f.toInt = i2.toInt)) m1f (zMw mdA wyA cr0_ inn0_ k10_)) (zMw mdB wyB cr1_ inn1_ k11_) = zFl m1f wy2_114 := by rw [zNF_n (c := (i1.toInt = 1 ∧ 1 < (fk 0).toInt ∧ (0 ≤ i2.toInt ∧ i2.toInt < (fk 2).toInt ∧ i2.toInt < 2) ∧ (e0f.toInt = 0 ∨ ¬ e1f.toInt = i1.toInt ∨ ¬ e2f.toInt = i2.toInt))) hcN, zNF_y hcF, hmw9]
        have hfw9 := zFl_pw (wy := wy2_114) hfw
        refine lv_aload hx hb dX11_fit_72 (lv_at hl 0 rfl) ?_
        have hw_127 : bFit T fi e0f e1f e2f e3f e4f e5f r1f m1f r2f [zO3 fi e0f e1f e2f e3f e4f e5f a1_109 a2_110, zAr T 0 a1_109 m1f r1f, zAr T 0 a2_110 7 r2f] := ⟨a1_109, a2_110, rfl⟩
        have G : zS T A s.heap s [z1_, wg0_, wg1_, wwB, [zO3 fi e0f e1f e2f e3f e4f e5f a1_109 a2_110, zAr T 0 a1_109 m1f r1f, zAr T 0 a2_110 7 r2f], wt, [zO10 xo t im mk rd po co tr wa wb_ fi cd], w2_112, z0_] _ _ := G.re rfl
        refine z_Vv (bc := [[zO3 fi e0f e1f e2f e3f e4f e5f a1_109 a2_110, zAr T 0 a1_109 m1f r1f, zAr T 0 a2_110 7 r2f], w2_112, z0_, wg1_]) (br := [z1_, wg0_, wwB, wt, [zO10 xo t im mk rd po co tr wa wb_ fi cd]]) (As := [.ref wa, .ref g1]) (rest := []) C G (c_find l T fi e0f e1f e2f e3f e4f e5f r1f m1f r2f ([zO3 fi e0f e1f e2f e3f e4f e5f a1_109 a2_110, zAr T 0 a1_109 m1f r1f, zAr T 0 a2_110 7 r2f]) wa l0 m2_113 wy2_114 pc2_115 g1_116 g2_117 f3A g4_118 g5_119 g6_120 (zMk mdA n4A (zPl cr0_ inn0_ k10_)) w2_112 cr0_ inn0_ k10_ k20_ k30_ k40_ z0_ g1 gg1_ q11_ q21_ wg1_ hw_127 h_122 hz0_ hg1_ hn9 hfw hwy9) (kV_RX11_298 C.2.2.2.2 (Nat.le_of_ble_eq_true rfl) (Nat.le_of_ble_eq_true rfl)) [4, 7, 8, 2] [2, 1, 2, 0] rfl rfl (ci := 3) (qc := (RX3, TX3, 8)) rfl rfl (List.mem_flatten.mpr ⟨_, List.mem_of_getElem? (i := 0) rfl, (bFit_mem hw_127).choose_spec⟩) rfl rfl hl.1 dX11_fit_74 (Nat.le_of_ble_eq_true rfl) (by show _ + (2 * (zFl m1f wy2_114 - m1f)) ≤ 6 * (zNA (i1.toInt = 0 ∧ 0 < (fk 0).toInt ∧ (0 ≤ i2.toInt ∧ i2.toInt < (fk 2).toInt ∧ i2.toInt < 2) ∧ (e0f.toInt = 0 ∨ ¬ e1f.toInt = i1.toInt ∨ ¬ e2f.toInt = i2.toInt)) mdA n4A (zPl cr0_ inn0_ k10_) - n4A) + 6 * (zNA (i1.toInt = 1 ∧ 1 < (fk 0).toInt ∧ (0 ≤ i2.toInt ∧ i2.toInt < (fk 2).toInt ∧ i2.toInt < 2) ∧ (e0f.toInt = 0 ∨ ¬ e1f.toInt = i1.toInt ∨ ¬ e2f.toInt = i2.toInt)) mdB n4B (zPl cr1_ inn1_ k11_) - n4B) + 2 * (zNF (i1.toInt = 1 ∧ 1 < (fk 0).toInt ∧ (0 ≤ i2.toInt ∧ i2.toInt < (fk 2).toInt ∧ i2.toInt < 2) ∧ (e0f.toInt = 0 ∨ ¬ e1f.toInt = i1.toInt ∨ ¬ e2f.toInt = i2.toInt)) (zNF (i1.toInt = 0 ∧ 0 < (fk 0).toInt ∧ (0 ≤ i2.toInt ∧ i2.toInt < (fk 2).toInt ∧ i2.toInt < 2) ∧ (e0f.toInt = 0 ∨ ¬ e1f.toInt = i1.toInt ∨ ¬ e2f.toInt = i2.toInt)) m1f (zMw mdA wyA cr0_ inn0_ k10_)) (zMw mdB wyB cr1_ inn1_ k11_) - m1f); omega) (fun b1 H locs hw G => ?_)
        refine zEx5 hw ?_
        intro w2_128 s3_129 s4_130 s5_131 g1_132
        refine zCu3 ?_
        intro hbs9 h_133 h_134
        clear hw
        subst hbs9
        have G : zS T A s.heap s [z1_, wg0_, wwB, wt, [zO10 xo t im mk rd po co tr wa wb_ fi cd], w2_128, w2_112, z0_, wg1_] _ _ := G
        have h39 := h_134
        refine lv_aload_n hx hb dX11_fit_77 rfl (lv_at hl 2 rfl) ?_
        refine z_get C G clX11 4 rfl 9 (by decide) m_fl_RX11_65 rfl dX11_fit_78 ?_
        refine lv_iload_n hx hb dX11_fit_81 rfl (lv_at hl 3 rfl) ?_
        refine zEx2 h_133 ?_
        intro a1_136 a2_137 hbs9
        clear h_133
        subst hbs9
        have G : zS T A s.heap s [z1_, wg0_, wwB, wt, [zO10 xo t im mk rd po co tr wa wb_ fi cd], [zO3 fi e0f e1f e2f s3_129 s4_130 s5_131 a1_136 a2_137], [zAr T 0 a1_136 (zFl m1f wy2_114) g1_132], [zAr T 0 a2_137 7 r2f], w2_112, z0_, wg1_] _ _ := G.re rfl
        refine z_put C G clX3 5 rfl 1 (by decide) m_fl_RX11_292 rfl rfl rfl (Nat.le_of_ble_eq_true rfl) dX11_fit_82 (fun H locs G => ?_)
        have G : zS T A s.heap s [z1_, wg0_, wwB, wt, [zO10 xo t im mk rd po co tr wa wb_ fi cd], [zO3 fi e0f i1 e2f s3_129 s4_130 s5_131 a1_136 a2_137], [zAr T 0 a1_136 (zFl m1f wy2_114) g1_132], [zAr T 0 a2_137 7 r2f], w2_112, z0_, wg1_] _ _ := G
        refine lv_aload_n hx hb dX11_fit_85 rfl (lv_at hl 2 rfl) ?_
        refine z_get C G clX11 4 rfl 9 (by decide) m_fl_RX11_65 rfl dX11_fit_86 ?_
        refine lv_iload_n hx hb dX11_fit_89 rfl (lv_at hl 4 rfl) ?_
        refine z_put C G clX3 5 rfl 2 (by decide) m_fl_RX11_295 rfl rfl rfl (Nat.le_of_ble_eq_true rfl) dX11_fit_90 (fun H locs G => ?_)
        have G : zS T A s.heap s [z1_, wg0_, wwB, wt, [zO10 xo t im mk rd po co tr wa wb_ fi cd], [zO3 fi e0f i1 i2 s3_129 s4_130 s5_131 a1_136 a2_137], [zAr T 0 a1_136 (zFl m1f wy2_114) g1_132], [zAr T 0 a2_137 7 r2f], w2_112, z0_, wg1_] _ _ := G
        refine lv_aload_n hx hb dX11_fit_93 rfl (lv_at hl 2 rfl) ?_
        refine z_get C G clX11 4 rfl 9 (by decide) m_fl_RX11_65 rfl dX11_fit_94 ?_
        refine lv_iconst (v := 1) hx hb dX11_fit_97 (by decide) ?_
        refine z_put C G clX3 5 rfl 0 (by decide) m_fl_RX11_109 rfl rfl rfl (Nat.le_of_ble_eq_true rfl) dX11_fit_98 (fun H locs G => ?_)
        have G : zS T A s.heap s [z1_, wg0_, wwB, wt, [zO10 xo t im mk rd po co tr wa wb_ fi cd], [zO3 fi 1 i1 i2 s3_129 s4_130 s5_131 a1_136 a2_137], [zAr T 0 a1_136 (zFl m1f wy2_114) g1_132], [zAr T 0 a2_137 7 r2f], w2_112, z0_, wg1_] _ _ := G
        refine lv_iconst (v := 1) hx hb dX11_fit_101 (by decide) ?_
        have hw_138 : bFit T fi 1 i1 i2 s3_129 s4_130 s5_131 g1_132 (zFl m1f wy2_114) r2f [zO3 fi 1 i1 i2 s3_129 s4_130 s5_131 a1_136 a2_137, zAr T 0 a1_136 (zFl m1f wy2_114) g1_132, zAr T 0 a2_137 7 r2f] := ⟨a1_136, a2_137, rfl⟩
        have G : zS T A s.heap s [z1_, wg0_, wwB, wt, [zO10 xo t im mk rd po co tr wa wb_ fi cd], [zO3 fi 1 i1 i2 s3_129 s4_130 s5_131 a1_136 a2_137, zAr T 0 a1_136 (zFl m1f wy2_114) g1_132, zAr T 0 a2_137 7 r2f], w2_112, z0_, wg1_] _ _ := G.re rfl
        have G := G.sub (bs' := [[zO10 xo t im mk rd po co tr wa wb_ fi cd], wt, z0_, z1_, wg0_, wg1_, w2_112, wwB, [zO3 fi 1 i1 i2 s3_129 s4_130 s5_131 a1_136 a2_137, zAr T 0 a1_136 (zFl m1f wy2_114) g1_132, zAr T 0 a2_137 7 r2f]]) [4, 3, 7, 0, 1, 8, 6, 2, 5] rfl
        exact z_back hQz_ (z_zret C hr hlocks G (Nat.le_of_ble_eq_true rfl) (by omega) dX11_fit_102 rfl ⟨l0, m2_113, wy2_114, pc2_115, g1_116, g2_117, f3A, g4_118, g5_119, g6_120, (zMk mdA n4A (zPl cr0_ inn0_ k10_)), w2_112, laB, mdB, wyB, pc_B, f1B, f2B, f3B, f4B, f5B, f6B, n4B, wwB, 1, i1, i2, s3_129, s4_130, s5_131, g1_132, (zFl m1f wy2_114), r2f, ([zO3 fi 1 i1 i2 s3_129 s4_130 s5_131 a1_136 a2_137, zAr T 0 a1_136 (zFl m1f wy2_114) g1_132, zAr T 0 a2_137 7 r2f]), rfl, h_122, (Or.inr rfl), hwy9, hNAm.symm, (zMk_pw hpwA), (fun _ => h_124), (Or.inr h_125), hwwB, hmdB, hwmB, (zNA_n (by omega)).symm, hpwB, (fun q => q), hTbB, hw_138, hNF.symm, hfw9, h39, (Or.inr ⟨rfl, by omega, by decide, rfl⟩), (fun _ => Or.inl ⟨by omega, h_124⟩)⟩)
      · have c_111n : ¬ e0f.toInt = (0 : Int) := fun q => c_111 ((fa_eq _ _).mpr q)
        refine lv_aload_n hx hb dX11_fit_40 rfl (lv_at hl 2 rfl) ?_
        refine z_get C G clX11 0 rfl 9 (by decide) m_fl_RX11_65 rfl dX11_fit_41 ?_
        refine z_get C G clX3 7 rfl 1 (by decide) m_fl_RX11_292 rfl dX11_fit_44 ?_
        refine lv_iload_n hx hb dX11_fit_47 rfl (lv_at hl 3 rfl) ?_
        refine lv_icmp_ne (tgt := 62) hx hb dX11_fit_48 (by decide) (fun c_139 => ?_) (fun c_139 => ?_)
        · have c_139n : ¬ e1f.toInt = i1.toInt := fun q => c_139 ((fa_eq _ _).mpr q)
          refine lv_aload_n hx hb dX11_fit_62 rfl (lv_at hl 2 rfl) ?_
          refine z_get C G clX11 0 rfl 9 (by decide) m_fl_RX11_65 rfl dX11_fit_63 ?_
          refine lv_aload_n hx hb dX11_fit_66 rfl (lv_at hl 2 rfl) ?_
          refine lv_iload_n hx hb dX11_fit_67 rfl (lv_at hl 3 rfl) ?_
          refine lv_aload_n hx hb dX11_fit_68 rfl (lv_at hl 1 rfl) ?_
          have hcF : (i1.toInt = 0 ∧ 0 < (fk 0).toInt ∧ (0 ≤ i2.toInt ∧ i2.toInt < (fk 2).toInt ∧ i2.toInt < 2) ∧ (e0f.toInt = 0 ∨ ¬ e1f.toInt = i1.toInt ∨ ¬ e2f.toInt = i2.toInt)) := by omega
          have hcN : ¬ (i1.toInt = 1 ∧ 1 < (fk 0).toInt ∧ (0 ≤ i2.toInt ∧ i2.toInt < (fk 2).toInt ∧ i2.toInt < 2) ∧ (e0f.toInt = 0 ∨ ¬ e1f.toInt = i1.toInt ∨ ¬ e2f.toInt = i2.toInt)) := by omega
          have hNAm : zNA (i1.toInt = 0 ∧ 0 < (fk 0).toInt ∧ (0 ≤ i2.toInt ∧ i2.toInt < (fk 2).toInt ∧ i2.toInt < 2) ∧ (e0f.toInt = 0 ∨ ¬ e1f.toInt = i1.toInt ∨ ¬ e2f.toInt = i2.toInt)) mdA n4A (zPl cr0_ inn0_ k10_) = zMk mdA n4A (zPl cr0_ inn0_ k10_) := zNA_y hcF
          have hNAo : zNA (i1.toInt = 1 ∧ 1 < (fk 0).toInt ∧ (0 ≤ i2.toInt ∧ i2.toInt < (fk 2).toInt ∧ i2.toInt < 2) ∧ (e0f.toInt = 0 ∨ ¬ e1f.toInt = i1.toInt ∨ ¬ e2f.toInt = i2.toInt)) mdB n4B (zPl cr1_ inn1_ k11_) = n4B := zNA_n hcN
          have hn9 : zMk mdA n4A (zPl cr0_ inn0_ k10_) ≤ 131072 := zPw_le (zMk_pw hpwA)
          refine z_Vq (bc := [[zO10 xo t im mk rd po co tr wa wb_ fi cd], wwA, z0_]) (br := [z1_, wg0_, wg1_, wwB, [zO3 fi e0f e1f e2f e3f e4f e5f a1_109 a2_110], [zAr T 0 a1_109 m1f r1f], [zAr T 0 a2_110 7 r2f], wt]) (As := [.int i1, .ref l0]) (rest := [.ref fi]) C G (c_f_waysInA l T xo t im mk rd po co tr wa wb_ fi cd i1 laA mdA wyA pc_A f1A f2A f3A f4A f5A f6A n4A wwA l0 cr0_ inn0_ k10_ k20_ k30_ k40_ z0_ hwwA hz0_ hI0_ hpwA hmdA (kaOk hI0_ hLq0).1 hTbA (by omega)) (kV_RX11_235 C.2.2.2.2 (Nat.le_of_ble_eq_true rfl) (Nat.le_of_ble_eq_true rfl)) [0, 5, 1] [0, 0, 3] rfl rfl (ci := 10) (qc := (RX11, TX11, 11)) rfl rfl (List.mem_flatten.mpr ⟨_, List.mem_of_getElem? (i := 0) rfl, List.mem_cons_self⟩) rfl rfl hl.1 dX11_fit_69 (Nat.le_of_ble_eq_true rfl) (by show _ + (6 * (zMk mdA n4A (zPl cr0_ inn0_ k10_) - n4A)) ≤ 6 * (zNA (i1.toInt = 0 ∧ 0 < (fk 0).toInt ∧ (0 ≤ i2.toInt ∧ i2.toInt < (fk 2).toInt ∧ i2.toInt < 2) ∧ (e0f.toInt = 0 ∨ ¬ e1f.toInt = i1.toInt ∨ ¬ e2f.toInt = i2.toInt)) mdA n4A (zPl cr0_ inn0_ k10_) - n4A) + 6 * (zNA (i1.toInt = 1 ∧ 1 < (fk 0).toInt ∧ (0 ≤ i2.toInt ∧ i2.toInt < (fk 2).toInt ∧ i2.toInt < 2) ∧ (e0f.toInt = 0 ∨ ¬ e1f.toInt = i1.toInt ∨ ¬ e2f.toInt = i2.toInt)) mdB n4B (zPl cr1_ inn1_ k11_) - n4B) + 2 * (zNF (i1.toInt = 1 ∧ 1 < (fk 0).toInt ∧ (0 ≤ i2.toInt ∧ i2.toInt < (fk 2).toInt ∧ i2.toInt < 2) ∧ (e0f.toInt = 0 ∨ ¬ e1f.toInt = i1.toInt ∨ ¬ e2f.toInt = i2.toInt)) (zNF (i1.toInt = 0 ∧ 0 < (fk 0).toInt ∧ (0 ≤ i2.toInt ∧ i2.toInt < (fk 2).toInt ∧ i2.toInt < 2) ∧ (e0f.toInt = 0 ∨ ¬ e1f.toInt = i1.toInt ∨ ¬ e2f.toInt = i2.toInt)) m1f (zMw mdA wyA cr0_ inn0_ k10_)) (zMw mdB wyB cr1_ inn1_ k11_) - m1f); omega) (fun r_154 b1 H locs hw G => ?_)
          refine zEx9 hw ?_
          intro w2_140 m2_141 wy2_142 pc2_143 g1_144 g2_145 g4_146 g5_147 g6_148
          refine zCu6 ?_
          intro hbs9 h_149 h_150 h_151 h_152 h_153
          clear hw
          subst hbs9
          have G : zS T A s.heap s [z1_, wg0_, wg1_, wwB, [zO3 fi e0f e1f e2f e3f e4f e5f a1_109 a2_110], [zAr T 0 a1_109 m1f r1f], [zAr T 0 a2_110 7 r2f], wt, [zO10 xo t im mk rd po co tr wa wb_ fi cd], w2_140, z0_] _ _ := G
          subst h_149
          have hwy9 : 0 ≤ wy2_142.toInt ∧ wy2_142.toInt ≤ 16384 := by have q9 := zWy_in (inn := inn0_) hI0_; rw [h_151]; exact ⟨by omega, q9.2⟩
          have hmw9 : wy2_142 = (zMw mdA wyA cr0_ inn0_ k10_) := by unfold zMw; by_cases q9 : mdA = 0 <;> first | (rw [if_pos q9]; exact h_151) | (rw [if_neg q9]; exact h_151.trans ((hTbA.resolve_left q9).1).symm)
          have hNF : zNF (i1.toInt = 1 ∧ 1 < (fk 0).toInt ∧ (0 ≤ i2.toInt ∧ i2.toInt < (fk 2).toInt ∧ i2.toInt < 2) ∧ (e0f.toInt = 0 ∨ ¬ e1f.toInt = i1.toInt ∨ ¬ e2f.toInt = i2.toInt)) (zNF (i1.toInt = 0 ∧ 0 < (fk 0).toInt ∧ (0 ≤ i2.toInt ∧ i2.toInt < (fk 2).toInt ∧ i2.toInt < 2) ∧ (e0f.toInt = 0 ∨ ¬ e1f.toInt = i1.toInt ∨ ¬ e2f.toInt = i2.toInt)) m1f (zMw mdA wyA cr0_ inn0_ k10_)) (zMw mdB wyB cr1_ inn1_ k11_) = zFl m1f wy2_142 := by rw [zNF_n (c := (i1.toInt = 1 ∧ 1 < (fk 0).toInt ∧ (0 ≤ i2.toInt ∧ i2.toInt < (fk 2).toInt ∧ i2.toInt < 2) ∧ (e0f.toInt = 0 ∨ ¬ e1f.toInt = i1.toInt ∨ ¬ e2f.toInt = i2.toInt))) hcN, zNF_y hcF, hmw9]
          have hfw9 := zFl_pw (wy := wy2_142) hfw
          refine lv_aload hx hb dX11_fit_72 (lv_at hl 0 rfl) ?_
          have hw_155 : bFit T fi e0f e1f e2f e3f e4f e5f r1f m1f r2f [zO3 fi e0f e1f e2f e3f e4f e5f a1_109 a2_110, zAr T 0 a1_109 m1f r1f, zAr T 0 a2_110 7 r2f] := ⟨a1_109, a2_110, rfl⟩
          have G : zS T A s.heap s [z1_, wg0_, wg1_, wwB, [zO3 fi e0f e1f e2f e3f e4f e5f a1_109 a2_110, zAr T 0 a1_109 m1f r1f, zAr T 0 a2_110 7 r2f], wt, [zO10 xo t im mk rd po co tr wa wb_ fi cd], w2_140, z0_] _ _ := G.re rfl
          refine z_Vv (bc := [[zO3 fi e0f e1f e2f e3f e4f e5f a1_109 a2_110, zAr T 0 a1_109 m1f r1f, zAr T 0 a2_110 7 r2f], w2_140, z0_, wg1_]) (br := [z1_, wg0_, wwB, wt, [zO10 xo t im mk rd po co tr wa wb_ fi cd]]) (As := [.ref wa, .ref g1]) (rest := []) C G (c_find l T fi e0f e1f e2f e3f e4f e5f r1f m1f r2f ([zO3 fi e0f e1f e2f e3f e4f e5f a1_109 a2_110, zAr T 0 a1_109 m1f r1f, zAr T 0 a2_110 7 r2f]) wa l0 m2_141 wy2_142 pc2_143 g1_144 g2_145 f3A g4_146 g5_147 g6_148 (zMk mdA n4A (zPl cr0_ inn0_ k10_)) w2_140 cr0_ inn0_ k10_ k20_ k30_ k40_ z0_ g1 gg1_ q11_ q21_ wg1_ hw_155 h_150 hz0_ hg1_ hn9 hfw hwy9) (kV_RX11_298 C.2.2.2.2 (Nat.le_of_ble_eq_true rfl) (Nat.le_of_ble_eq_true rfl)) [4, 7, 8, 2] [2, 1, 2, 0] rfl rfl (ci := 3) (qc := (RX3, TX3, 8)) rfl rfl (List.mem_flatten.mpr ⟨_, List.mem_of_getElem? (i := 0) rfl, (bFit_mem hw_155).choose_spec⟩) rfl rfl hl.1 dX11_fit_74 (Nat.le_of_ble_eq_true rfl) (by show _ + (2 * (zFl m1f wy2_142 - m1f)) ≤ 6 * (zNA (i1.toInt = 0 ∧ 0 < (fk 0).toInt ∧ (0 ≤ i2.toInt ∧ i2.toInt < (fk 2).toInt ∧ i2.toInt < 2) ∧ (e0f.toInt = 0 ∨ ¬ e1f.toInt = i1.toInt ∨ ¬ e2f.toInt = i2.toInt)) mdA n4A (zPl cr0_ inn0_ k10_) - n4A) + 6 * (zNA (i1.toInt = 1 ∧ 1 < (fk 0).toInt ∧ (0 ≤ i2.toInt ∧ i2.toInt < (fk 2).toInt ∧ i2.toInt < 2) ∧ (e0f.toInt = 0 ∨ ¬ e1f.toInt = i1.toInt ∨ ¬ e2f.toInt = i2.toInt)) mdB n4B (zPl cr1_ inn1_ k11_) - n4B) + 2 * (zNF (i1.toInt = 1 ∧ 1 < (fk 0).toInt ∧ (0 ≤ i2.toInt ∧ i2.toInt < (fk 2).toInt ∧ i2.toInt < 2) ∧ (e0f.toInt = 0 ∨ ¬ e1f.toInt = i1.toInt ∨ ¬ e2f.toInt = i2.toInt)) (zNF (i1.toInt = 0 ∧ 0 < (fk 0).toInt ∧ (0 ≤ i2.toInt ∧ i2.toInt < (fk 2).toInt ∧ i2.toInt < 2) ∧ (e0f.toInt = 0 ∨ ¬ e1f.toInt = i1.toInt ∨ ¬ e2f.toInt = i2.toInt)) m1f (zMw mdA wyA cr0_ inn0_ k10_)) (zMw mdB wyB cr1_ inn1_ k11_) - m1f); omega) (fun b1 H locs hw G => ?_)
          refine zEx5 hw ?_
          intro w2_156 s3_157 s4_158 s5_159 g1_160
          refine zCu3 ?_
          intro hbs9 h_161 h_162
          clear hw
          subst hbs9
          have G : zS T A s.heap s [z1_, wg0_, wwB, wt, [zO10 xo t im mk rd po co tr wa wb_ fi cd], w2_156, w2_140, z0_, wg1_] _ _ := G
          have h39 := h_162
          refine lv_aload_n hx hb dX11_fit_77 rfl (lv_at hl 2 rfl) ?_
          refine z_get C G clX11 4 rfl 9 (by decide) m_fl_RX11_65 rfl dX11_fit_78 ?_
          refine lv_iload_n hx hb dX11_fit_81 rfl (lv_at hl 3 rfl) ?_
          refine zEx2 h_161 ?_
          intro a1_164 a2_165 hbs9
          clear h_161
          subst hbs9
          have G : zS T A s.heap s [z1_, wg0_, wwB, wt, [zO10 xo t im mk rd po co tr wa wb_ fi cd], [zO3 fi e0f e1f e2f s3_157 s4_158 s5_159 a1_164 a2_165], [zAr T 0 a1_164 (zFl m1f wy2_142) g1_160], [zAr T 0 a2_165 7 r2f], w2_140, z0_, wg1_] _ _ := G.re rfl
          refine z_put C G clX3 5 rfl 1 (by decide) m_fl_RX11_292 rfl rfl rfl (Nat.le_of_ble_eq_true rfl) dX11_fit_82 (fun H locs G => ?_)
          have G : zS T A s.heap s [z1_, wg0_, wwB, wt, [zO10 xo t im mk rd po co tr wa wb_ fi cd], [zO3 fi e0f i1 e2f s3_157 s4_158 s5_159 a1_164 a2_165], [zAr T 0 a1_164 (zFl m1f wy2_142) g1_160], [zAr T 0 a2_165 7 r2f], w2_140, z0_, wg1_] _ _ := G
          refine lv_aload_n hx hb dX11_fit_85 rfl (lv_at hl 2 rfl) ?_
          refine z_get C G clX11 4 rfl 9 (by decide) m_fl_RX11_65 rfl dX11_fit_86 ?_
          refine lv_iload_n hx hb dX11_fit_89 rfl (lv_at hl 4 rfl) ?_
          refine z_put C G clX3 5 rfl 2 (by decide) m_fl_RX11_295 rfl rfl rfl (Nat.le_of_ble_eq_true rfl) dX11_fit_90 (fun H locs G => ?_)
          have G : zS T A s.heap s [z1_, wg0_, wwB, wt, [zO10 xo t im mk rd po co tr wa wb_ fi cd], [zO3 fi e0f i1 i2 s3_157 s4_158 s5_159 a1_164 a2_165], [zAr T 0 a1_164 (zFl m1f wy2_142) g1_160], [zAr T 0 a2_165 7 r2f], w2_140, z0_, wg1_] _ _ := G
          refine lv_aload_n hx hb dX11_fit_93 rfl (lv_at hl 2 rfl) ?_
          refine z_get C G clX11 4 rfl 9 (by decide) m_fl_RX11_65 rfl dX11_fit_94 ?_
          refine lv_iconst (v := 1) hx hb dX11_fit_97 (by decide) ?_
          refine z_put C G clX3 5 rfl 0 (by decide) m_fl_RX11_109 rfl rfl rfl (Nat.le_of_ble_eq_true rfl) dX11_fit_98 (fun H locs G => ?_)
          have G : zS T A s.heap s [z1_, wg0_, wwB, wt, [zO10 xo t im mk rd po co tr wa wb_ fi cd], [zO3 fi 1 i1 i2 s3_157 s4_158 s5_159 a1_164 a2_165], [zAr T 0 a1_164 (zFl m1f wy2_142) g1_160], [zAr T 0 a2_165 7 r2f], w2_140, z0_, wg1_] _ _ := G
          refine lv_iconst (v := 1) hx hb dX11_fit_101 (by decide) ?_
          have hw_166 : bFit T fi 1 i1 i2 s3_157 s4_158 s5_159 g1_160 (zFl m1f wy2_142) r2f [zO3 fi 1 i1 i2 s3_157 s4_158 s5_159 a1_164 a2_165, zAr T 0 a1_164 (zFl m1f wy2_142) g1_160, zAr T 0 a2_165 7 r2f] := ⟨a1_164, a2_165, rfl⟩
          have G : zS T A s.heap s [z1_, wg0_, wwB, wt, [zO10 xo t im mk rd po co tr wa wb_ fi cd], [zO3 fi 1 i1 i2 s3_157 s4_158 s5_159 a1_164 a2_165, zAr T 0 a1_164 (zFl m1f wy2_142) g1_160, zAr T 0 a2_165 7 r2f], w2_140, z0_, wg1_] _ _ := G.re rfl
          have G := G.sub (bs' := [[zO10 xo t im mk rd po co tr wa wb_ fi cd], wt, z0_, z1_, wg0_, wg1_, w2_140, wwB, [zO3 fi 1 i1 i2 s3_157 s4_158 s5_159 a1_164 a2_165, zAr T 0 a1_164 (zFl m1f wy2_142) g1_160, zAr T 0 a2_165 7 r2f]]) [4, 3, 7, 0, 1, 8, 6, 2, 5] rfl
          exact z_back hQz_ (z_zret C hr hlocks G (Nat.le_of_ble_eq_true rfl) (by omega) dX11_fit_102 rfl ⟨l0, m2_141, wy2_142, pc2_143, g1_144, g2_145, f3A, g4_146, g5_147, g6_148, (zMk mdA n4A (zPl cr0_ inn0_ k10_)), w2_140, laB, mdB, wyB, pc_B, f1B, f2B, f3B, f4B, f5B, f6B, n4B, wwB, 1, i1, i2, s3_157, s4_158, s5_159, g1_160, (zFl m1f wy2_142), r2f, ([zO3 fi 1 i1 i2 s3_157 s4_158 s5_159 a1_164 a2_165, zAr T 0 a1_164 (zFl m1f wy2_142) g1_160, zAr T 0 a2_165 7 r2f]), rfl, h_150, (Or.inr rfl), hwy9, hNAm.symm, (zMk_pw hpwA), (fun _ => h_152), (Or.inr h_153), hwwB, hmdB, hwmB, (zNA_n (by omega)).symm, hpwB, (fun q => q), hTbB, hw_166, hNF.symm, hfw9, h39, (Or.inr ⟨rfl, by omega, by decide, rfl⟩), (fun _ => Or.inl ⟨by omega, h_152⟩)⟩)
        · have c_139n : e1f.toInt = i1.toInt := (fa_eq _ _).mp c_139
          refine lv_aload_n hx hb dX11_fit_51 rfl (lv_at hl 2 rfl) ?_
          refine z_get C G clX11 0 rfl 9 (by decide) m_fl_RX11_65 rfl dX11_fit_52 ?_
          refine z_get C G clX3 7 rfl 2 (by decide) m_fl_RX11_295 rfl dX11_fit_55 ?_
          refine lv_iload_n hx hb dX11_fit_58 rfl (lv_at hl 4 rfl) ?_
          refine lv_icmp_eq (tgt := 101) hx hb dX11_fit_59 (by decide) (fun c_167 => ?_) (fun c_167 => ?_)
          · have c_167n : e2f.toInt = i2.toInt := (fa_eq _ _).mp c_167
            refine lv_iconst (v := 1) hx hb dX11_fit_101 (by decide) ?_
            have hw_168 : bFit T fi e0f e1f e2f e3f e4f e5f r1f m1f r2f [zO3 fi e0f e1f e2f e3f e4f e5f a1_109 a2_110, zAr T 0 a1_109 m1f r1f, zAr T 0 a2_110 7 r2f] := ⟨a1_109, a2_110, rfl⟩
            have G : zS T A s.heap s [[zO10 xo t im mk rd po co tr wa wb_ fi cd], z0_, z1_, wg0_, wg1_, wwA, wwB, [zO3 fi e0f e1f e2f e3f e4f e5f a1_109 a2_110, zAr T 0 a1_109 m1f r1f, zAr T 0 a2_110 7 r2f], wt] _ _ := G.re rfl
            have G := G.sub (bs' := [[zO10 xo t im mk rd po co tr wa wb_ fi cd], wt, z0_, z1_, wg0_, wg1_, wwA, wwB, [zO3 fi e0f e1f e2f e3f e4f e5f a1_109 a2_110, zAr T 0 a1_109 m1f r1f, zAr T 0 a2_110 7 r2f]]) [0, 8, 1, 2, 3, 4, 5, 6, 7] rfl
            exact z_back hQz_ (z_zret C hr hlocks G (Nat.le_of_ble_eq_true rfl) (by omega) dX11_fit_102 rfl ⟨laA, mdA, wyA, pc_A, f1A, f2A, f3A, f4A, f5A, f6A, n4A, wwA, laB, mdB, wyB, pc_B, f1B, f2B, f3B, f4B, f5B, f6B, n4B, wwB, e0f, e1f, e2f, e3f, e4f, e5f, r1f, m1f, r2f, ([zO3 fi e0f e1f e2f e3f e4f e5f a1_109 a2_110, zAr T 0 a1_109 m1f r1f, zAr T 0 a2_110 7 r2f]), rfl, hwwA, hmdA, hwmA, (zNA_n (by omega)).symm, hpwA, (fun q => q), hTbA, hwwB, hmdB, hwmB, (zNA_n (by omega)).symm, hpwB, (fun q => q), hTbB, hw_168, (((zNF_n (c := (i1.toInt = 1 ∧ 1 < (fk 0).toInt ∧ (0 ≤ i2.toInt ∧ i2.toInt < (fk 2).toInt ∧ i2.toInt < 2) ∧ (e0f.toInt = 0 ∨ ¬ e1f.toInt = i1.toInt ∨ ¬ e2f.toInt = i2.toInt))) (by omega)).trans (zNF_n (by omega))).symm), hfw, hf3, (Or.inr ⟨rfl, by omega, (fun q => absurd (congrArg Int32.toInt q) (by show ¬ _ = (0 : Int); omega)), by omega⟩), hFI⟩)
          · have c_167n : ¬ e2f.toInt = i2.toInt := fun q => c_167 ((fa_eq _ _).mpr q)
            refine lv_aload_n hx hb dX11_fit_62 rfl (lv_at hl 2 rfl) ?_
            refine z_get C G clX11 0 rfl 9 (by decide) m_fl_RX11_65 rfl dX11_fit_63 ?_
            refine lv_aload_n hx hb dX11_fit_66 rfl (lv_at hl 2 rfl) ?_
            refine lv_iload_n hx hb dX11_fit_67 rfl (lv_at hl 3 rfl) ?_
            refine lv_aload_n hx hb dX11_fit_68 rfl (lv_at hl 1 rfl) ?_
            have hcF : (i1.toInt = 0 ∧ 0 < (fk 0).toInt ∧ (0 ≤ i2.toInt ∧ i2.toInt < (fk 2).toInt ∧ i2.toInt < 2) ∧ (e0f.toInt = 0 ∨ ¬ e1f.toInt = i1.toInt ∨ ¬ e2f.toInt = i2.toInt)) := by omega
            have hcN : ¬ (i1.toInt = 1 ∧ 1 < (fk 0).toInt ∧ (0 ≤ i2.toInt ∧ i2.toInt < (fk 2).toInt ∧ i2.toInt < 2) ∧ (e0f.toInt = 0 ∨ ¬ e1f.toInt = i1.toInt ∨ ¬ e2f.toInt = i2.toInt)) := by omega
            have hNAm : zNA (i1.toInt = 0 ∧ 0 < (fk 0).toInt ∧ (0 ≤ i2.toInt ∧ i2.toInt < (fk 2).toInt ∧ i2.toInt < 2) ∧ (e0f.toInt = 0 ∨ ¬ e1f.toInt = i1.toInt ∨ ¬ e2f.toInt = i2.toInt)) mdA n4A (zPl cr0_ inn0_ k10_) = zMk mdA n4A (zPl cr0_ inn0_ k10_) := zNA_y hcF
            have hNAo : zNA (i1.toInt = 1 ∧ 1 < (fk 0).toInt ∧ (0 ≤ i2.toInt ∧ i2.toInt < (fk 2).toInt ∧ i2.toInt < 2) ∧ (e0f.toInt = 0 ∨ ¬ e1f.toInt = i1.toInt ∨ ¬ e2f.toInt = i2.toInt)) mdB n4B (zPl cr1_ inn1_ k11_) = n4B := zNA_n hcN
            have hn9 : zMk mdA n4A (zPl cr0_ inn0_ k10_) ≤ 131072 := zPw_le (zMk_pw hpwA)
            refine z_Vq (bc := [[zO10 xo t im mk rd po co tr wa wb_ fi cd], wwA, z0_]) (br := [z1_, wg0_, wg1_, wwB, [zO3 fi e0f e1f e2f e3f e4f e5f a1_109 a2_110], [zAr T 0 a1_109 m1f r1f], [zAr T 0 a2_110 7 r2f], wt]) (As := [.int i1, .ref l0]) (rest := [.ref fi]) C G (c_f_waysInA l T xo t im mk rd po co tr wa wb_ fi cd i1 laA mdA wyA pc_A f1A f2A f3A f4A f5A f6A n4A wwA l0 cr0_ inn0_ k10_ k20_ k30_ k40_ z0_ hwwA hz0_ hI0_ hpwA hmdA (kaOk hI0_ hLq0).1 hTbA (by omega)) (kV_RX11_235 C.2.2.2.2 (Nat.le_of_ble_eq_true rfl) (Nat.le_of_ble_eq_true rfl)) [0, 5, 1] [0, 0, 3] rfl rfl (ci := 10) (qc := (RX11, TX11, 11)) rfl rfl (List.mem_flatten.mpr ⟨_, List.mem_of_getElem? (i := 0) rfl, List.mem_cons_self⟩) rfl rfl hl.1 dX11_fit_69 (Nat.le_of_ble_eq_true rfl) (by show _ + (6 * (zMk mdA n4A (zPl cr0_ inn0_ k10_) - n4A)) ≤ 6 * (zNA (i1.toInt = 0 ∧ 0 < (fk 0).toInt ∧ (0 ≤ i2.toInt ∧ i2.toInt < (fk 2).toInt ∧ i2.toInt < 2) ∧ (e0f.toInt = 0 ∨ ¬ e1f.toInt = i1.toInt ∨ ¬ e2f.toInt = i2.toInt)) mdA n4A (zPl cr0_ inn0_ k10_) - n4A) + 6 * (zNA (i1.toInt = 1 ∧ 1 < (fk 0).toInt ∧ (0 ≤ i2.toInt ∧ i2.toInt < (fk 2).toInt ∧ i2.toInt < 2) ∧ (e0f.toInt = 0 ∨ ¬ e1f.toInt = i1.toInt ∨ ¬ e2f.toInt = i2.toInt)) mdB n4B (zPl cr1_ inn1_ k11_) - n4B) + 2 * (zNF (i1.toInt = 1 ∧ 1 < (fk 0).toInt ∧ (0 ≤ i2.toInt ∧ i2.toInt < (fk 2).toInt ∧ i2.toInt < 2) ∧ (e0f.toInt = 0 ∨ ¬ e1f.toInt = i1.toInt ∨ ¬ e2f.toInt = i2.toInt)) (zNF (i1.toInt = 0 ∧ 0 < (fk 0).toInt ∧ (0 ≤ i2.toInt ∧ i2.toInt < (fk 2).toInt ∧ i2.toInt < 2) ∧ (e0f.toInt = 0 ∨ ¬ e1f.toInt = i1.toInt ∨ ¬ e2f.toInt = i2.toInt)) m1f (zMw mdA wyA cr0_ inn0_ k10_)) (zMw mdB wyB cr1_ inn1_ k11_) - m1f); omega) (fun r_183 b1 H locs hw G => ?_)
            refine zEx9 hw ?_
            intro w2_169 m2_170 wy2_171 pc2_172 g1_173 g2_174 g4_175 g5_176 g6_177
            refine zCu6 ?_
            intro hbs9 h_178 h_179 h_180 h_181 h_182
            clear hw
            subst hbs9
            have G : zS T A s.heap s [z1_, wg0_, wg1_, wwB, [zO3 fi e0f e1f e2f e3f e4f e5f a1_109 a2_110], [zAr T 0 a1_109 m1f r1f], [zAr T 0 a2_110 7 r2f], wt, [zO10 xo t im mk rd po co tr wa wb_ fi cd], w2_169, z0_] _ _ := G
            subst h_178
            have hwy9 : 0 ≤ wy2_171.toInt ∧ wy2_171.toInt ≤ 16384 := by have q9 := zWy_in (inn := inn0_) hI0_; rw [h_180]; exact ⟨by omega, q9.2⟩
            have hmw9 : wy2_171 = (zMw mdA wyA cr0_ inn0_ k10_) := by unfold zMw; by_cases q9 : mdA = 0 <;> first | (rw [if_pos q9]; exact h_180) | (rw [if_neg q9]; exact h_180.trans ((hTbA.resolve_left q9).1).symm)
            have hNF : zNF (i1.toInt = 1 ∧ 1 < (fk 0).toInt ∧ (0 ≤ i2.toInt ∧ i2.toInt < (fk 2).toInt ∧ i2.toInt < 2) ∧ (e0f.toInt = 0 ∨ ¬ e1f.toInt = i1.toInt ∨ ¬ e2f.toInt = i2.toInt)) (zNF (i1.toInt = 0 ∧ 0 < (fk 0).toInt ∧ (0 ≤ i2.toInt ∧ i2.toInt < (fk 2).toInt ∧ i2.toInt < 2) ∧ (e0f.toInt = 0 ∨ ¬ e1f.toInt = i1.toInt ∨ ¬ e2f.toInt = i2.toInt)) m1f (zMw mdA wyA cr0_ inn0_ k10_)) (zMw mdB wyB cr1_ inn1_ k11_) = zFl m1f wy2_171 := by rw [zNF_n (c := (i1.toInt = 1 ∧ 1 < (fk 0).toInt ∧ (0 ≤ i2.toInt ∧ i2.toInt < (fk 2).toInt ∧ i2.toInt < 2) ∧ (e0f.toInt = 0 ∨ ¬ e1f.toInt = i1.toInt ∨ ¬ e2f.toInt = i2.toInt))) hcN, zNF_y hcF, hmw9]
            have hfw9 := zFl_pw (wy := wy2_171) hfw
            refine lv_aload hx hb dX11_fit_72 (lv_at hl 0 rfl) ?_
            have hw_184 : bFit T fi e0f e1f e2f e3f e4f e5f r1f m1f r2f [zO3 fi e0f e1f e2f e3f e4f e5f a1_109 a2_110, zAr T 0 a1_109 m1f r1f, zAr T 0 a2_110 7 r2f] := ⟨a1_109, a2_110, rfl⟩
            have G : zS T A s.heap s [z1_, wg0_, wg1_, wwB, [zO3 fi e0f e1f e2f e3f e4f e5f a1_109 a2_110, zAr T 0 a1_109 m1f r1f, zAr T 0 a2_110 7 r2f], wt, [zO10 xo t im mk rd po co tr wa wb_ fi cd], w2_169, z0_] _ _ := G.re rfl
            refine z_Vv (bc := [[zO3 fi e0f e1f e2f e3f e4f e5f a1_109 a2_110, zAr T 0 a1_109 m1f r1f, zAr T 0 a2_110 7 r2f], w2_169, z0_, wg1_]) (br := [z1_, wg0_, wwB, wt, [zO10 xo t im mk rd po co tr wa wb_ fi cd]]) (As := [.ref wa, .ref g1]) (rest := []) C G (c_find l T fi e0f e1f e2f e3f e4f e5f r1f m1f r2f ([zO3 fi e0f e1f e2f e3f e4f e5f a1_109 a2_110, zAr T 0 a1_109 m1f r1f, zAr T 0 a2_110 7 r2f]) wa l0 m2_170 wy2_171 pc2_172 g1_173 g2_174 f3A g4_175 g5_176 g6_177 (zMk mdA n4A (zPl cr0_ inn0_ k10_)) w2_169 cr0_ inn0_ k10_ k20_ k30_ k40_ z0_ g1 gg1_ q11_ q21_ wg1_ hw_184 h_179 hz0_ hg1_ hn9 hfw hwy9) (kV_RX11_298 C.2.2.2.2 (Nat.le_of_ble_eq_true rfl) (Nat.le_of_ble_eq_true rfl)) [4, 7, 8, 2] [2, 1, 2, 0] rfl rfl (ci := 3) (qc := (RX3, TX3, 8)) rfl rfl (List.mem_flatten.mpr ⟨_, List.mem_of_getElem? (i := 0) rfl, (bFit_mem hw_184).choose_spec⟩) rfl rfl hl.1 dX11_fit_74 (Nat.le_of_ble_eq_true rfl) (by show _ + (2 * (zFl m1f wy2_171 - m1f)) ≤ 6 * (zNA (i1.toInt = 0 ∧ 0 < (fk 0).toInt ∧ (0 ≤ i2.toInt ∧ i2.toInt < (fk 2).toInt ∧ i2.toInt < 2) ∧ (e0f.toInt = 0 ∨ ¬ e1f.toInt = i1.toInt ∨ ¬ e2f.toInt = i2.toInt)) mdA n4A (zPl cr0_ inn0_ k10_) - n4A) + 6 * (zNA (i1.toInt = 1 ∧ 1 < (fk 0).toInt ∧ (0 ≤ i2.toInt ∧ i2.toInt < (fk 2).toInt ∧ i2.toInt < 2) ∧ (e0f.toInt = 0 ∨ ¬ e1f.toInt = i1.toInt ∨ ¬ e2f.toInt = i2.toInt)) mdB n4B (zPl cr1_ inn1_ k11_) - n4B) + 2 * (zNF (i1.toInt = 1 ∧ 1 < (fk 0).toInt ∧ (0 ≤ i2.toInt ∧ i2.toInt < (fk 2).toInt ∧ i2.toInt < 2) ∧ (e0f.toInt = 0 ∨ ¬ e1f.toInt = i1.toInt ∨ ¬ e2f.toInt = i2.toInt)) (zNF (i1.toInt = 0 ∧ 0 < (fk 0).toInt ∧ (0 ≤ i2.toInt ∧ i2.toInt < (fk 2).toInt ∧ i2.toInt < 2) ∧ (e0f.toInt = 0 ∨ ¬ e1f.toInt = i1.toInt ∨ ¬ e2f.toInt = i2.toInt)) m1f (zMw mdA wyA cr0_ inn0_ k10_)) (zMw mdB wyB cr1_ inn1_ k11_) - m1f); omega) (fun b1 H locs hw G => ?_)
            refine zEx5 hw ?_
            intro w2_185 s3_186 s4_187 s5_188 g1_189
            refine zCu3 ?_
            intro hbs9 h_190 h_191
            clear hw
            subst hbs9
            have G : zS T A s.heap s [z1_, wg0_, wwB, wt, [zO10 xo t im mk rd po co tr wa wb_ fi cd], w2_185, w2_169, z0_, wg1_] _ _ := G
            have h39 := h_191
            refine lv_aload_n hx hb dX11_fit_77 rfl (lv_at hl 2 rfl) ?_
            refine z_get C G clX11 4 rfl 9 (by decide) m_fl_RX11_65 rfl dX11_fit_78 ?_
            refine lv_iload_n hx hb dX11_fit_81 rfl (lv_at hl 3 rfl) ?_
            refine zEx2 h_190 ?_
            intro a1_193 a2_194 hbs9
            clear h_190
            subst hbs9
            have G : zS T A s.heap s [z1_, wg0_, wwB, wt, [zO10 xo t im mk rd po co tr wa wb_ fi cd], [zO3 fi e0f e1f e2f s3_186 s4_187 s5_188 a1_193 a2_194], [zAr T 0 a1_193 (zFl m1f wy2_171) g1_189], [zAr T 0 a2_194 7 r2f], w2_169, z0_, wg1_] _ _ := G.re rfl
            refine z_put C G clX3 5 rfl 1 (by decide) m_fl_RX11_292 rfl rfl rfl (Nat.le_of_ble_eq_true rfl) dX11_fit_82 (fun H locs G => ?_)
            have G : zS T A s.heap s [z1_, wg0_, wwB, wt, [zO10 xo t im mk rd po co tr wa wb_ fi cd], [zO3 fi e0f i1 e2f s3_186 s4_187 s5_188 a1_193 a2_194], [zAr T 0 a1_193 (zFl m1f wy2_171) g1_189], [zAr T 0 a2_194 7 r2f], w2_169, z0_, wg1_] _ _ := G
            refine lv_aload_n hx hb dX11_fit_85 rfl (lv_at hl 2 rfl) ?_
            refine z_get C G clX11 4 rfl 9 (by decide) m_fl_RX11_65 rfl dX11_fit_86 ?_
            refine lv_iload_n hx hb dX11_fit_89 rfl (lv_at hl 4 rfl) ?_
            refine z_put C G clX3 5 rfl 2 (by decide) m_fl_RX11_295 rfl rfl rfl (Nat.le_of_ble_eq_true rfl) dX11_fit_90 (fun H locs G => ?_)
            have G : zS T A s.heap s [z1_, wg0_, wwB, wt, [zO10 xo t im mk rd po co tr wa wb_ fi cd], [zO3 fi e0f i1 i2 s3_186 s4_187 s5_188 a1_193 a2_194], [zAr T 0 a1_193 (zFl m1f wy2_171) g1_189], [zAr T 0 a2_194 7 r2f], w2_169, z0_, wg1_] _ _ := G
            refine lv_aload_n hx hb dX11_fit_93 rfl (lv_at hl 2 rfl) ?_
            refine z_get C G clX11 4 rfl 9 (by decide) m_fl_RX11_65 rfl dX11_fit_94 ?_
            refine lv_iconst (v := 1) hx hb dX11_fit_97 (by decide) ?_
            refine z_put C G clX3 5 rfl 0 (by decide) m_fl_RX11_109 rfl rfl rfl (Nat.le_of_ble_eq_true rfl) dX11_fit_98 (fun H locs G => ?_)
            have G : zS T A s.heap s [z1_, wg0_, wwB, wt, [zO10 xo t im mk rd po co tr wa wb_ fi cd], [zO3 fi 1 i1 i2 s3_186 s4_187 s5_188 a1_193 a2_194], [zAr T 0 a1_193 (zFl m1f wy2_171) g1_189], [zAr T 0 a2_194 7 r2f], w2_169, z0_, wg1_] _ _ := G
            refine lv_iconst (v := 1) hx hb dX11_fit_101 (by decide) ?_
            have hw_195 : bFit T fi 1 i1 i2 s3_186 s4_187 s5_188 g1_189 (zFl m1f wy2_171) r2f [zO3 fi 1 i1 i2 s3_186 s4_187 s5_188 a1_193 a2_194, zAr T 0 a1_193 (zFl m1f wy2_171) g1_189, zAr T 0 a2_194 7 r2f] := ⟨a1_193, a2_194, rfl⟩
            have G : zS T A s.heap s [z1_, wg0_, wwB, wt, [zO10 xo t im mk rd po co tr wa wb_ fi cd], [zO3 fi 1 i1 i2 s3_186 s4_187 s5_188 a1_193 a2_194, zAr T 0 a1_193 (zFl m1f wy2_171) g1_189, zAr T 0 a2_194 7 r2f], w2_169, z0_, wg1_] _ _ := G.re rfl
            have G := G.sub (bs' := [[zO10 xo t im mk rd po co tr wa wb_ fi cd], wt, z0_, z1_, wg0_, wg1_, w2_169, wwB, [zO3 fi 1 i1 i2 s3_186 s4_187 s5_188 a1_193 a2_194, zAr T 0 a1_193 (zFl m1f wy2_171) g1_189, zAr T 0 a2_194 7 r2f]]) [4, 3, 7, 0, 1, 8, 6, 2, 5] rfl
            exact z_back hQz_ (z_zret C hr hlocks G (Nat.le_of_ble_eq_true rfl) (by omega) dX11_fit_102 rfl ⟨l0, m2_170, wy2_171, pc2_172, g1_173, g2_174, f3A, g4_175, g5_176, g6_177, (zMk mdA n4A (zPl cr0_ inn0_ k10_)), w2_169, laB, mdB, wyB, pc_B, f1B, f2B, f3B, f4B, f5B, f6B, n4B, wwB, 1, i1, i2, s3_186, s4_187, s5_188, g1_189, (zFl m1f wy2_171), r2f, ([zO3 fi 1 i1 i2 s3_186 s4_187 s5_188 a1_193 a2_194, zAr T 0 a1_193 (zFl m1f wy2_171) g1_189, zAr T 0 a2_194 7 r2f]), rfl, h_179, (Or.inr rfl), hwy9, hNAm.symm, (zMk_pw hpwA), (fun _ => h_181), (Or.inr h_182), hwwB, hmdB, hwmB, (zNA_n (by omega)).symm, hpwB, (fun q => q), hTbB, hw_195, hNF.symm, hfw9, h39, (Or.inr ⟨rfl, by omega, by decide, rfl⟩), (fun _ => Or.inl ⟨by omega, h_181⟩)⟩)
  · have h_6 : i1.toInt = 1 := h_6
    have h_7 : 1 < (fk 0).toInt := h_7
    refine lv_astore_n (lv' := [(3, .ref l1), (0, .ref xo), (1, .int i1), (2, .int i2)]) hx hb dX11_fit_8 rfl hl (by decide) (zLvf_h rfl) (fun ls hl => ?_)
    refine lv_aload_n hx hb dX11_fit_9 rfl (lv_at hl 1 rfl) ?_
    refine z_get C G clX11 0 rfl 0 (by decide) m_fl_RX11_10 rfl dX11_fit_10 ?_
    refine lv_iload_n hx hb dX11_fit_13 rfl (lv_at hl 3 rfl) ?_
    refine z_Vq (bc := [wt]) (br := [[zO10 xo t im mk rd po co tr wa wb_ fi cd], z0_, z1_, wg0_, wg1_, wwA, wwB, wff]) (As := [.int i2]) (rest := []) C G (c_logAt l T t l0 l1 d0 d1 g0 g1 ln fl pl ft fk wt i2 ht) (kV_RX11_138 C.2.2.2.2 (Nat.le_of_ble_eq_true rfl) (Nat.le_of_ble_eq_true rfl)) [8] [8] rfl rfl (ci := 8) (qc := (RX9, TX9, 8)) rfl rfl (List.mem_flatten.mpr ⟨_, List.mem_of_getElem? (i := 0) rfl, (bTold_mem ht).choose_spec⟩) rfl rfl hl.1 dX11_fit_14 (Nat.le_of_ble_eq_true rfl) (by show _ + 0 ≤ 6 * (zNA (i1.toInt = 0 ∧ 0 < (fk 0).toInt ∧ (0 ≤ i2.toInt ∧ i2.toInt < (fk 2).toInt ∧ i2.toInt < 2) ∧ (e0f.toInt = 0 ∨ ¬ e1f.toInt = i1.toInt ∨ ¬ e2f.toInt = i2.toInt)) mdA n4A (zPl cr0_ inn0_ k10_) - n4A) + 6 * (zNA (i1.toInt = 1 ∧ 1 < (fk 0).toInt ∧ (0 ≤ i2.toInt ∧ i2.toInt < (fk 2).toInt ∧ i2.toInt < 2) ∧ (e0f.toInt = 0 ∨ ¬ e1f.toInt = i1.toInt ∨ ¬ e2f.toInt = i2.toInt)) mdB n4B (zPl cr1_ inn1_ k11_) - n4B) + 2 * (zNF (i1.toInt = 1 ∧ 1 < (fk 0).toInt ∧ (0 ≤ i2.toInt ∧ i2.toInt < (fk 2).toInt ∧ i2.toInt < 2) ∧ (e0f.toInt = 0 ∨ ¬ e1f.toInt = i1.toInt ∨ ¬ e2f.toInt = i2.toInt)) (zNF (i1.toInt = 0 ∧ 0 < (fk 0).toInt ∧ (0 ≤ i2.toInt ∧ i2.toInt < (fk 2).toInt ∧ i2.toInt < 2) ∧ (e0f.toInt = 0 ∨ ¬ e1f.toInt = i1.toInt ∨ ¬ e2f.toInt = i2.toInt)) m1f (zMw mdA wyA cr0_ inn0_ k10_)) (zMw mdB wyB cr1_ inn1_ k11_) - m1f); omega) (fun r_197 b1 H locs hw G => ?_)
    refine zAn2 hw ?_
    intro hbs9 hc_196
    clear hw
    subst hbs9
    have G : zS T A s.heap s [[zO10 xo t im mk rd po co tr wa wb_ fi cd], z0_, z1_, wg0_, wg1_, wwA, wwB, wff, wt] _ _ := G
    rcases hc_196 with ⟨rfl, h_198⟩ | ⟨rfl, h_199, h_200⟩ | ⟨rfl, h_201, h_202⟩
    · have h_198 : (i2.toInt < 0 ∨ (fk 2).toInt ≤ i2.toInt ∨ 2 ≤ i2.toInt) := h_198
      refine lv_astoreN (lv' := [(4, .null), (3, .ref l1), (0, .ref xo), (1, .int i1), (2, .int i2)]) hx hb dX11_fit_17 hl (by decide) (zLvf_h rfl) (fun ls hl => ?_)
      refine lv_aload_n hx hb dX11_fit_19 rfl (lv_at hl 1 rfl) ?_
      refine lv_ifnull hx hb dX11_fit_20 ?_
      refine lv_aloadN hx hb dX11_fit_23 (lv_at hl 0 rfl) ?_
      refine lv_ifnonnullN hx hb dX11_fit_25 ?_
      refine lv_iconst (v := 0) hx hb dX11_fit_28 (by decide) ?_
      have G := G.sub (bs' := [[zO10 xo t im mk rd po co tr wa wb_ fi cd], wt, z0_, z1_, wg0_, wg1_, wwA, wwB, wff]) [0, 8, 1, 2, 3, 4, 5, 6, 7] rfl
      exact z_back hQz_ (z_zret C hr hlocks G (Nat.le_of_ble_eq_true rfl) (by omega) dX11_fit_29 rfl ⟨laA, mdA, wyA, pc_A, f1A, f2A, f3A, f4A, f5A, f6A, n4A, wwA, laB, mdB, wyB, pc_B, f1B, f2B, f3B, f4B, f5B, f6B, n4B, wwB, e0f, e1f, e2f, e3f, e4f, e5f, r1f, m1f, r2f, wff, rfl, hwwA, hmdA, hwmA, (zNA_n (by omega)).symm, hpwA, (fun q => q), hTbA, hwwB, hmdB, hwmB, (zNA_n (by omega)).symm, hpwB, (fun q => q), hTbB, hwff, (((zNF_n (c := (i1.toInt = 1 ∧ 1 < (fk 0).toInt ∧ (0 ≤ i2.toInt ∧ i2.toInt < (fk 2).toInt ∧ i2.toInt < 2) ∧ (e0f.toInt = 0 ∨ ¬ e1f.toInt = i1.toInt ∨ ¬ e2f.toInt = i2.toInt))) (by omega)).trans (zNF_n (by omega))).symm), hfw, hf3, (Or.inl ⟨rfl, by omega⟩), hFI⟩)
    · have h_199 : i2.toInt = 0 := h_199
      have h_200 : 0 < (fk 2).toInt := h_200
      refine lv_astore (lv' := [(4, .ref g0), (3, .ref l1), (0, .ref xo), (1, .int i1), (2, .int i2)]) hx hb dX11_fit_17 hl (by decide) (zLvf_h rfl) (fun ls hl => ?_)
      refine lv_aload_n hx hb dX11_fit_19 rfl (lv_at hl 1 rfl) ?_
      refine lv_ifnull hx hb dX11_fit_20 ?_
      refine lv_aload hx hb dX11_fit_23 (lv_at hl 0 rfl) ?_
      refine lv_ifnonnull (tgt := 30) hx hb dX11_fit_25 (by decide) ?_
      refine lv_aload_n hx hb dX11_fit_30 rfl (lv_at hl 2 rfl) ?_
      refine z_get C G clX11 0 rfl 9 (by decide) m_fl_RX11_65 rfl dX11_fit_31 ?_
      refine zEx2 hwff ?_
      intro a1_203 a2_204 hbs9
      clear hwff
      subst hbs9
      have G : zS T A s.heap s [[zO10 xo t im mk rd po co tr wa wb_ fi cd], z0_, z1_, wg0_, wg1_, wwA, wwB, [zO3 fi e0f e1f e2f e3f e4f e5f a1_203 a2_204], [zAr T 0 a1_203 m1f r1f], [zAr T 0 a2_204 7 r2f], wt] _ _ := G.re rfl
      refine z_get C G clX3 7 rfl 0 (by decide) m_fl_RX11_109 rfl dX11_fit_34 ?_
      refine lv_if_eq (tgt := 62) hx hb dX11_fit_37 (by decide) (fun c_205 => ?_) (fun c_205 => ?_)
      · have c_205n : e0f.toInt = (0 : Int) := (fa_eq _ _).mp c_205
        refine lv_aload_n hx hb dX11_fit_62 rfl (lv_at hl 2 rfl) ?_
        refine z_get C G clX11 0 rfl 9 (by decide) m_fl_RX11_65 rfl dX11_fit_63 ?_
        refine lv_aload_n hx hb dX11_fit_66 rfl (lv_at hl 2 rfl) ?_
        refine lv_iload_n hx hb dX11_fit_67 rfl (lv_at hl 3 rfl) ?_
        refine lv_aload_n hx hb dX11_fit_68 rfl (lv_at hl 1 rfl) ?_
        have hcF : (i1.toInt = 1 ∧ 1 < (fk 0).toInt ∧ (0 ≤ i2.toInt ∧ i2.toInt < (fk 2).toInt ∧ i2.toInt < 2) ∧ (e0f.toInt = 0 ∨ ¬ e1f.toInt = i1.toInt ∨ ¬ e2f.toInt = i2.toInt)) := by omega
        have hcN : ¬ (i1.toInt = 0 ∧ 0 < (fk 0).toInt ∧ (0 ≤ i2.toInt ∧ i2.toInt < (fk 2).toInt ∧ i2.toInt < 2) ∧ (e0f.toInt = 0 ∨ ¬ e1f.toInt = i1.toInt ∨ ¬ e2f.toInt = i2.toInt)) := by omega
        have hNAm : zNA (i1.toInt = 1 ∧ 1 < (fk 0).toInt ∧ (0 ≤ i2.toInt ∧ i2.toInt < (fk 2).toInt ∧ i2.toInt < 2) ∧ (e0f.toInt = 0 ∨ ¬ e1f.toInt = i1.toInt ∨ ¬ e2f.toInt = i2.toInt)) mdB n4B (zPl cr1_ inn1_ k11_) = zMk mdB n4B (zPl cr1_ inn1_ k11_) := zNA_y hcF
        have hNAo : zNA (i1.toInt = 0 ∧ 0 < (fk 0).toInt ∧ (0 ≤ i2.toInt ∧ i2.toInt < (fk 2).toInt ∧ i2.toInt < 2) ∧ (e0f.toInt = 0 ∨ ¬ e1f.toInt = i1.toInt ∨ ¬ e2f.toInt = i2.toInt)) mdA n4A (zPl cr0_ inn0_ k10_) = n4A := zNA_n hcN
        have hn9 : zMk mdB n4B (zPl cr1_ inn1_ k11_) ≤ 131072 := zPw_le (zMk_pw hpwB)
        refine z_Vq (bc := [[zO10 xo t im mk rd po co tr wa wb_ fi cd], wwB, z1_]) (br := [z0_, wg0_, wg1_, wwA, [zO3 fi e0f e1f e2f e3f e4f e5f a1_203 a2_204], [zAr T 0 a1_203 m1f r1f], [zAr T 0 a2_204 7 r2f], wt]) (As := [.int i1, .ref l1]) (rest := [.ref fi]) C G (c_f_waysInB l T xo t im mk rd po co tr wa wb_ fi cd i1 laB mdB wyB pc_B f1B f2B f3B f4B f5B f6B n4B wwB l1 cr1_ inn1_ k11_ k21_ k31_ k41_ z1_ hwwB hz1_ hI1_ hpwB hmdB (kaOk hI1_ hLq1).1 hTbB (by omega)) (kV_RX11_235 C.2.2.2.2 (Nat.le_of_ble_eq_true rfl) (Nat.le_of_ble_eq_true rfl)) [0, 6, 2] [0, 1, 3] rfl rfl (ci := 10) (qc := (RX11, TX11, 11)) rfl rfl (List.mem_flatten.mpr ⟨_, List.mem_of_getElem? (i := 0) rfl, List.mem_cons_self⟩) rfl rfl hl.1 dX11_fit_69 (Nat.le_of_ble_eq_true rfl) (by show _ + (6 * (zMk mdB n4B (zPl cr1_ inn1_ k11_) - n4B)) ≤ 6 * (zNA (i1.toInt = 0 ∧ 0 < (fk 0).toInt ∧ (0 ≤ i2.toInt ∧ i2.toInt < (fk 2).toInt ∧ i2.toInt < 2) ∧ (e0f.toInt = 0 ∨ ¬ e1f.toInt = i1.toInt ∨ ¬ e2f.toInt = i2.toInt)) mdA n4A (zPl cr0_ inn0_ k10_) - n4A) + 6 * (zNA (i1.toInt = 1 ∧ 1 < (fk 0).toInt ∧ (0 ≤ i2.toInt ∧ i2.toInt < (fk 2).toInt ∧ i2.toInt < 2) ∧ (e0f.toInt = 0 ∨ ¬ e1f.toInt = i1.toInt ∨ ¬ e2f.toInt = i2.toInt)) mdB n4B (zPl cr1_ inn1_ k11_) - n4B) + 2 * (zNF (i1.toInt = 1 ∧ 1 < (fk 0).toInt ∧ (0 ≤ i2.toInt ∧ i2.toInt < (fk 2).toInt ∧ i2.toInt < 2) ∧ (e0f.toInt = 0 ∨ ¬ e1f.toInt = i1.toInt ∨ ¬ e2f.toInt = i2.toInt)) (zNF (i1.toInt = 0 ∧ 0 < (fk 0).toInt ∧ (0 ≤ i2.toInt ∧ i2.toInt < (fk 2).toInt ∧ i2.toInt < 2) ∧ (e0f.toInt = 0 ∨ ¬ e1f.toInt = i1.toInt ∨ ¬ e2f.toInt = i2.toInt)) m1f (zMw mdA wyA cr0_ inn0_ k10_)) (zMw mdB wyB cr1_ inn1_ k11_) - m1f); omega) (fun r_220 b1 H locs hw G => ?_)
        refine zEx9 hw ?_
        intro w2_206 m2_207 wy2_208 pc2_209 g1_210 g2_211 g4_212 g5_213 g6_214
        refine zCu6 ?_
        intro hbs9 h_215 h_216 h_217 h_218 h_219
        clear hw
        subst hbs9
        have G : zS T A s.heap s [z0_, wg0_, wg1_, wwA, [zO3 fi e0f e1f e2f e3f e4f e5f a1_203 a2_204], [zAr T 0 a1_203 m1f r1f], [zAr T 0 a2_204 7 r2f], wt, [zO10 xo t im mk rd po co tr wa wb_ fi cd], w2_206, z1_] _ _ := G
        subst h_215
        have hwy9 : 0 ≤ wy2_208.toInt ∧ wy2_208.toInt ≤ 16384 := by have q9 := zWy_in (inn := inn1_) hI1_; rw [h_217]; exact ⟨by omega, q9.2⟩
        have hmw9 : wy2_208 = (zMw mdB wyB cr1_ inn1_ k11_) := by unfold zMw; by_cases q9 : mdB = 0 <;> first | (rw [if_pos q9]; exact h_217) | (rw [if_neg q9]; exact h_217.trans ((hTbB.resolve_left q9).1).symm)
        have hNF : zNF (i1.toInt = 1 ∧ 1 < (fk 0).toInt ∧ (0 ≤ i2.toInt ∧ i2.toInt < (fk 2).toInt ∧ i2.toInt < 2) ∧ (e0f.toInt = 0 ∨ ¬ e1f.toInt = i1.toInt ∨ ¬ e2f.toInt = i2.toInt)) (zNF (i1.toInt = 0 ∧ 0 < (fk 0).toInt ∧ (0 ≤ i2.toInt ∧ i2.toInt < (fk 2).toInt ∧ i2.toInt < 2) ∧ (e0f.toInt = 0 ∨ ¬ e1f.toInt = i1.toInt ∨ ¬ e2f.toInt = i2.toInt)) m1f (zMw mdA wyA cr0_ inn0_ k10_)) (zMw mdB wyB cr1_ inn1_ k11_) = zFl m1f wy2_208 := by rw [zNF_y (c := (i1.toInt = 1 ∧ 1 < (fk 0).toInt ∧ (0 ≤ i2.toInt ∧ i2.toInt < (fk 2).toInt ∧ i2.toInt < 2) ∧ (e0f.toInt = 0 ∨ ¬ e1f.toInt = i1.toInt ∨ ¬ e2f.toInt = i2.toInt))) hcF, zNF_n (c := (i1.toInt = 0 ∧ 0 < (fk 0).toInt ∧ (0 ≤ i2.toInt ∧ i2.toInt < (fk 2).toInt ∧ i2.toInt < 2) ∧ (e0f.toInt = 0 ∨ ¬ e1f.toInt = i1.toInt ∨ ¬ e2f.toInt = i2.toInt))) hcN, hmw9]
        have hfw9 := zFl_pw (wy := wy2_208) hfw
        refine lv_aload hx hb dX11_fit_72 (lv_at hl 0 rfl) ?_
        have hw_221 : bFit T fi e0f e1f e2f e3f e4f e5f r1f m1f r2f [zO3 fi e0f e1f e2f e3f e4f e5f a1_203 a2_204, zAr T 0 a1_203 m1f r1f, zAr T 0 a2_204 7 r2f] := ⟨a1_203, a2_204, rfl⟩
        have G : zS T A s.heap s [z0_, wg0_, wg1_, wwA, [zO3 fi e0f e1f e2f e3f e4f e5f a1_203 a2_204, zAr T 0 a1_203 m1f r1f, zAr T 0 a2_204 7 r2f], wt, [zO10 xo t im mk rd po co tr wa wb_ fi cd], w2_206, z1_] _ _ := G.re rfl
        refine z_Vv (bc := [[zO3 fi e0f e1f e2f e3f e4f e5f a1_203 a2_204, zAr T 0 a1_203 m1f r1f, zAr T 0 a2_204 7 r2f], w2_206, z1_, wg0_]) (br := [z0_, wg1_, wwA, wt, [zO10 xo t im mk rd po co tr wa wb_ fi cd]]) (As := [.ref wb_, .ref g0]) (rest := []) C G (c_find l T fi e0f e1f e2f e3f e4f e5f r1f m1f r2f ([zO3 fi e0f e1f e2f e3f e4f e5f a1_203 a2_204, zAr T 0 a1_203 m1f r1f, zAr T 0 a2_204 7 r2f]) wb_ l1 m2_207 wy2_208 pc2_209 g1_210 g2_211 f3B g4_212 g5_213 g6_214 (zMk mdB n4B (zPl cr1_ inn1_ k11_)) w2_206 cr1_ inn1_ k11_ k21_ k31_ k41_ z1_ g0 gg0_ q10_ q20_ wg0_ hw_221 h_216 hz1_ hg0_ hn9 hfw hwy9) (kV_RX11_298 C.2.2.2.2 (Nat.le_of_ble_eq_true rfl) (Nat.le_of_ble_eq_true rfl)) [4, 7, 8, 1] [1, 2, 2, 0] rfl rfl (ci := 3) (qc := (RX3, TX3, 8)) rfl rfl (List.mem_flatten.mpr ⟨_, List.mem_of_getElem? (i := 0) rfl, (bFit_mem hw_221).choose_spec⟩) rfl rfl hl.1 dX11_fit_74 (Nat.le_of_ble_eq_true rfl) (by show _ + (2 * (zFl m1f wy2_208 - m1f)) ≤ 6 * (zNA (i1.toInt = 0 ∧ 0 < (fk 0).toInt ∧ (0 ≤ i2.toInt ∧ i2.toInt < (fk 2).toInt ∧ i2.toInt < 2) ∧ (e0f.toInt = 0 ∨ ¬ e1f.toInt = i1.toInt ∨ ¬ e2f.toInt = i2.toInt)) mdA n4A (zPl cr0_ inn0_ k10_) - n4A) + 6 * (zNA (i1.toInt = 1 ∧ 1 < (fk 0).toInt ∧ (0 ≤ i2.toInt ∧ i2.toInt < (fk 2).toInt ∧ i2.toInt < 2) ∧ (e0f.toInt = 0 ∨ ¬ e1f.toInt = i1.toInt ∨ ¬ e2f.toInt = i2.toInt)) mdB n4B (zPl cr1_ inn1_ k11_) - n4B) + 2 * (zNF (i1.toInt = 1 ∧ 1 < (fk 0).toInt ∧ (0 ≤ i2.toInt ∧ i2.toInt < (fk 2).toInt ∧ i2.toInt < 2) ∧ (e0f.toInt = 0 ∨ ¬ e1f.toInt = i1.toInt ∨ ¬ e2f.toInt = i2.toInt)) (zNF (i1.toInt = 0 ∧ 0 < (fk 0).toInt ∧ (0 ≤ i2.toInt ∧ i2.toInt < (fk 2).toInt ∧ i2.toInt < 2) ∧ (e0f.toInt = 0 ∨ ¬ e1f.toInt = i1.toInt ∨ ¬ e2f.toInt = i2.toInt)) m1f (zMw mdA wyA cr0_ inn0_ k10_)) (zMw mdB wyB cr1_ inn1_ k11_) - m1f); omega) (fun b1 H locs hw G => ?_)
        refine zEx5 hw ?_
        intro w2_222 s3_223 s4_224 s5_225 g1_226
        refine zCu3 ?_
        intro hbs9 h_227 h_228
        clear hw
        subst hbs9
        have G : zS T A s.heap s [z0_, wg1_, wwA, wt, [zO10 xo t im mk rd po co tr wa wb_ fi cd], w2_222, w2_206, z1_, wg0_] _ _ := G
        have h39 := h_228
        refine lv_aload_n hx hb dX11_fit_77 rfl (lv_at hl 2 rfl) ?_
        refine z_get C G clX11 4 rfl 9 (by decide) m_fl_RX11_65 rfl dX11_fit_78 ?_
        refine lv_iload_n hx hb dX11_fit_81 rfl (lv_at hl 3 rfl) ?_
        refine zEx2 h_227 ?_
        intro a1_230 a2_231 hbs9
        clear h_227
        subst hbs9
        have G : zS T A s.heap s [z0_, wg1_, wwA, wt, [zO10 xo t im mk rd po co tr wa wb_ fi cd], [zO3 fi e0f e1f e2f s3_223 s4_224 s5_225 a1_230 a2_231], [zAr T 0 a1_230 (zFl m1f wy2_208) g1_226], [zAr T 0 a2_231 7 r2f], w2_206, z1_, wg0_] _ _ := G.re rfl
        refine z_put C G clX3 5 rfl 1 (by decide) m_fl_RX11_292 rfl rfl rfl (Nat.le_of_ble_eq_true rfl) dX11_fit_82 (fun H locs G => ?_)
        have G : zS T A s.heap s [z0_, wg1_, wwA, wt, [zO10 xo t im mk rd po co tr wa wb_ fi cd], [zO3 fi e0f i1 e2f s3_223 s4_224 s5_225 a1_230 a2_231], [zAr T 0 a1_230 (zFl m1f wy2_208) g1_226], [zAr T 0 a2_231 7 r2f], w2_206, z1_, wg0_] _ _ := G
        refine lv_aload_n hx hb dX11_fit_85 rfl (lv_at hl 2 rfl) ?_
        refine z_get C G clX11 4 rfl 9 (by decide) m_fl_RX11_65 rfl dX11_fit_86 ?_
        refine lv_iload_n hx hb dX11_fit_89 rfl (lv_at hl 4 rfl) ?_
        refine z_put C G clX3 5 rfl 2 (by decide) m_fl_RX11_295 rfl rfl rfl (Nat.le_of_ble_eq_true rfl) dX11_fit_90 (fun H locs G => ?_)
        have G : zS T A s.heap s [z0_, wg1_, wwA, wt, [zO10 xo t im mk rd po co tr wa wb_ fi cd], [zO3 fi e0f i1 i2 s3_223 s4_224 s5_225 a1_230 a2_231], [zAr T 0 a1_230 (zFl m1f wy2_208) g1_226], [zAr T 0 a2_231 7 r2f], w2_206, z1_, wg0_] _ _ := G
        refine lv_aload_n hx hb dX11_fit_93 rfl (lv_at hl 2 rfl) ?_
        refine z_get C G clX11 4 rfl 9 (by decide) m_fl_RX11_65 rfl dX11_fit_94 ?_
        refine lv_iconst (v := 1) hx hb dX11_fit_97 (by decide) ?_
        refine z_put C G clX3 5 rfl 0 (by decide) m_fl_RX11_109 rfl rfl rfl (Nat.le_of_ble_eq_true rfl) dX11_fit_98 (fun H locs G => ?_)
        have G : zS T A s.heap s [z0_, wg1_, wwA, wt, [zO10 xo t im mk rd po co tr wa wb_ fi cd], [zO3 fi 1 i1 i2 s3_223 s4_224 s5_225 a1_230 a2_231], [zAr T 0 a1_230 (zFl m1f wy2_208) g1_226], [zAr T 0 a2_231 7 r2f], w2_206, z1_, wg0_] _ _ := G
        refine lv_iconst (v := 1) hx hb dX11_fit_101 (by decide) ?_
        have hw_232 : bFit T fi 1 i1 i2 s3_223 s4_224 s5_225 g1_226 (zFl m1f wy2_208) r2f [zO3 fi 1 i1 i2 s3_223 s4_224 s5_225 a1_230 a2_231, zAr T 0 a1_230 (zFl m1f wy2_208) g1_226, zAr T 0 a2_231 7 r2f] := ⟨a1_230, a2_231, rfl⟩
        have G : zS T A s.heap s [z0_, wg1_, wwA, wt, [zO10 xo t im mk rd po co tr wa wb_ fi cd], [zO3 fi 1 i1 i2 s3_223 s4_224 s5_225 a1_230 a2_231, zAr T 0 a1_230 (zFl m1f wy2_208) g1_226, zAr T 0 a2_231 7 r2f], w2_206, z1_, wg0_] _ _ := G.re rfl
        have G := G.sub (bs' := [[zO10 xo t im mk rd po co tr wa wb_ fi cd], wt, z0_, z1_, wg0_, wg1_, wwA, w2_206, [zO3 fi 1 i1 i2 s3_223 s4_224 s5_225 a1_230 a2_231, zAr T 0 a1_230 (zFl m1f wy2_208) g1_226, zAr T 0 a2_231 7 r2f]]) [4, 3, 0, 7, 8, 1, 2, 6, 5] rfl
        exact z_back hQz_ (z_zret C hr hlocks G (Nat.le_of_ble_eq_true rfl) (by omega) dX11_fit_102 rfl ⟨laA, mdA, wyA, pc_A, f1A, f2A, f3A, f4A, f5A, f6A, n4A, wwA, l1, m2_207, wy2_208, pc2_209, g1_210, g2_211, f3B, g4_212, g5_213, g6_214, (zMk mdB n4B (zPl cr1_ inn1_ k11_)), w2_206, 1, i1, i2, s3_223, s4_224, s5_225, g1_226, (zFl m1f wy2_208), r2f, ([zO3 fi 1 i1 i2 s3_223 s4_224 s5_225 a1_230 a2_231, zAr T 0 a1_230 (zFl m1f wy2_208) g1_226, zAr T 0 a2_231 7 r2f]), rfl, hwwA, hmdA, hwmA, (zNA_n (by omega)).symm, hpwA, (fun q => q), hTbA, h_216, (Or.inr rfl), hwy9, hNAm.symm, (zMk_pw hpwB), (fun _ => h_218), (Or.inr h_219), hw_232, hNF.symm, hfw9, h39, (Or.inr ⟨rfl, by omega, by decide, rfl⟩), (fun _ => Or.inr ⟨by omega, h_218⟩)⟩)
      · have c_205n : ¬ e0f.toInt = (0 : Int) := fun q => c_205 ((fa_eq _ _).mpr q)
        refine lv_aload_n hx hb dX11_fit_40 rfl (lv_at hl 2 rfl) ?_
        refine z_get C G clX11 0 rfl 9 (by decide) m_fl_RX11_65 rfl dX11_fit_41 ?_
        refine z_get C G clX3 7 rfl 1 (by decide) m_fl_RX11_292 rfl dX11_fit_44 ?_
        refine lv_iload_n hx hb dX11_fit_47 rfl (lv_at hl 3 rfl) ?_
        refine lv_icmp_ne (tgt := 62) hx hb dX11_fit_48 (by decide) (fun c_233 => ?_) (fun c_233 => ?_)
        · have c_233n : ¬ e1f.toInt = i1.toInt := fun q => c_233 ((fa_eq _ _).mpr q)
          refine lv_aload_n hx hb dX11_fit_62 rfl (lv_at hl 2 rfl) ?_
          refine z_get C G clX11 0 rfl 9 (by decide) m_fl_RX11_65 rfl dX11_fit_63 ?_
          refine lv_aload_n hx hb dX11_fit_66 rfl (lv_at hl 2 rfl) ?_
          refine lv_iload_n hx hb dX11_fit_67 rfl (lv_at hl 3 rfl) ?_
          refine lv_aload_n hx hb dX11_fit_68 rfl (lv_at hl 1 rfl) ?_
          have hcF : (i1.toInt = 1 ∧ 1 < (fk 0).toInt ∧ (0 ≤ i2.toInt ∧ i2.toInt < (fk 2).toInt ∧ i2.toInt < 2) ∧ (e0f.toInt = 0 ∨ ¬ e1f.toInt = i1.toInt ∨ ¬ e2f.toInt = i2.toInt)) := by omega
          have hcN : ¬ (i1.toInt = 0 ∧ 0 < (fk 0).toInt ∧ (0 ≤ i2.toInt ∧ i2.toInt < (fk 2).toInt ∧ i2.toInt < 2) ∧ (e0f.toInt = 0 ∨ ¬ e1f.toInt = i1.toInt ∨ ¬ e2f.toInt = i2.toInt)) := by omega
          have hNAm : zNA (i1.toInt = 1 ∧ 1 < (fk 0).toInt ∧ (0 ≤ i2.toInt ∧ i2.toInt < (fk 2).toInt ∧ i2.toInt < 2) ∧ (e0f.toInt = 0 ∨ ¬ e1f.toInt = i1.toInt ∨ ¬ e2f.toInt = i2.toInt)) mdB n4B (zPl cr1_ inn1_ k11_) = zMk mdB n4B (zPl cr1_ inn1_ k11_) := zNA_y hcF
          have hNAo : zNA (i1.toInt = 0 ∧ 0 < (fk 0).toInt ∧ (0 ≤ i2.toInt ∧ i2.toInt < (fk 2).toInt ∧ i2.toInt < 2) ∧ (e0f.toInt = 0 ∨ ¬ e1f.toInt = i1.toInt ∨ ¬ e2f.toInt = i2.toInt)) mdA n4A (zPl cr0_ inn0_ k10_) = n4A := zNA_n hcN
          have hn9 : zMk mdB n4B (zPl cr1_ inn1_ k11_) ≤ 131072 := zPw_le (zMk_pw hpwB)
          refine z_Vq (bc := [[zO10 xo t im mk rd po co tr wa wb_ fi cd], wwB, z1_]) (br := [z0_, wg0_, wg1_, wwA, [zO3 fi e0f e1f e2f e3f e4f e5f a1_203 a2_204], [zAr T 0 a1_203 m1f r1f], [zAr T 0 a2_204 7 r2f], wt]) (As := [.int i1, .ref l1]) (rest := [.ref fi]) C G (c_f_waysInB l T xo t im mk rd po co tr wa wb_ fi cd i1 laB mdB wyB pc_B f1B f2B f3B f4B f5B f6B n4B wwB l1 cr1_ inn1_ k11_ k21_ k31_ k41_ z1_ hwwB hz1_ hI1_ hpwB hmdB (kaOk hI1_ hLq1).1 hTbB (by omega)) (kV_RX11_235 C.2.2.2.2 (Nat.le_of_ble_eq_true rfl) (Nat.le_of_ble_eq_true rfl)) [0, 6, 2] [0, 1, 3] rfl rfl (ci := 10) (qc := (RX11, TX11, 11)) rfl rfl (List.mem_flatten.mpr ⟨_, List.mem_of_getElem? (i := 0) rfl, List.mem_cons_self⟩) rfl rfl hl.1 dX11_fit_69 (Nat.le_of_ble_eq_true rfl) (by show _ + (6 * (zMk mdB n4B (zPl cr1_ inn1_ k11_) - n4B)) ≤ 6 * (zNA (i1.toInt = 0 ∧ 0 < (fk 0).toInt ∧ (0 ≤ i2.toInt ∧ i2.toInt < (fk 2).toInt ∧ i2.toInt < 2) ∧ (e0f.toInt = 0 ∨ ¬ e1f.toInt = i1.toInt ∨ ¬ e2f.toInt = i2.toInt)) mdA n4A (zPl cr0_ inn0_ k10_) - n4A) + 6 * (zNA (i1.toInt = 1 ∧ 1 < (fk 0).toInt ∧ (0 ≤ i2.toInt ∧ i2.toInt < (fk 2).toInt ∧ i2.toInt < 2) ∧ (e0f.toInt = 0 ∨ ¬ e1f.toInt = i1.toInt ∨ ¬ e2f.toInt = i2.toInt)) mdB n4B (zPl cr1_ inn1_ k11_) - n4B) + 2 * (zNF (i1.toInt = 1 ∧ 1 < (fk 0).toInt ∧ (0 ≤ i2.toInt ∧ i2.toInt < (fk 2).toInt ∧ i2.toInt < 2) ∧ (e0f.toInt = 0 ∨ ¬ e1f.toInt = i1.toInt ∨ ¬ e2f.toInt = i2.toInt)) (zNF (i1.toInt = 0 ∧ 0 < (fk 0).toInt ∧ (0 ≤ i2.toInt ∧ i2.toInt < (fk 2).toInt ∧ i2.toInt < 2) ∧ (e0f.toInt = 0 ∨ ¬ e1f.toInt = i1.toInt ∨ ¬ e2f.toInt = i2.toInt)) m1f (zMw mdA wyA cr0_ inn0_ k10_)) (zMw mdB wyB cr1_ inn1_ k11_) - m1f); omega) (fun r_248 b1 H locs hw G => ?_)
          refine zEx9 hw ?_
          intro w2_234 m2_235 wy2_236 pc2_237 g1_238 g2_239 g4_240 g5_241 g6_242
          refine zCu6 ?_
          intro hbs9 h_243 h_244 h_245 h_246 h_247
          clear hw
          subst hbs9
          have G : zS T A s.heap s [z0_, wg0_, wg1_, wwA, [zO3 fi e0f e1f e2f e3f e4f e5f a1_203 a2_204], [zAr T 0 a1_203 m1f r1f], [zAr T 0 a2_204 7 r2f], wt, [zO10 xo t im mk rd po co tr wa wb_ fi cd], w2_234, z1_] _ _ := G
          subst h_243
          have hwy9 : 0 ≤ wy2_236.toInt ∧ wy2_236.toInt ≤ 16384 := by have q9 := zWy_in (inn := inn1_) hI1_; rw [h_245]; exact ⟨by omega, q9.2⟩
          have hmw9 : wy2_236 = (zMw mdB wyB cr1_ inn1_ k11_) := by unfold zMw; by_cases q9 : mdB = 0 <;> first | (rw [if_pos q9]; exact h_245) | (rw [if_neg q9]; exact h_245.trans ((hTbB.resolve_left q9).1).symm)
          have hNF : zNF (i1.toInt = 1 ∧ 1 < (fk 0).toInt ∧ (0 ≤ i2.toInt ∧ i2.toInt < (fk 2).toInt ∧ i2.toInt < 2) ∧ (e0f.toInt = 0 ∨ ¬ e1f.toInt = i1.toInt ∨ ¬ e2f.toInt = i2.toInt)) (zNF (i1.toInt = 0 ∧ 0 < (fk 0).toInt ∧ (0 ≤ i2.toInt ∧ i2.toInt < (fk 2).toInt ∧ i2.toInt < 2) ∧ (e0f.toInt = 0 ∨ ¬ e1f.toInt = i1.toInt ∨ ¬ e2f.toInt = i2.toInt)) m1f (zMw mdA wyA cr0_ inn0_ k10_)) (zMw mdB wyB cr1_ inn1_ k11_) = zFl m1f wy2_236 := by rw [zNF_y (c := (i1.toInt = 1 ∧ 1 < (fk 0).toInt ∧ (0 ≤ i2.toInt ∧ i2.toInt < (fk 2).toInt ∧ i2.toInt < 2) ∧ (e0f.toInt = 0 ∨ ¬ e1f.toInt = i1.toInt ∨ ¬ e2f.toInt = i2.toInt))) hcF, zNF_n (c := (i1.toInt = 0 ∧ 0 < (fk 0).toInt ∧ (0 ≤ i2.toInt ∧ i2.toInt < (fk 2).toInt ∧ i2.toInt < 2) ∧ (e0f.toInt = 0 ∨ ¬ e1f.toInt = i1.toInt ∨ ¬ e2f.toInt = i2.toInt))) hcN, hmw9]
          have hfw9 := zFl_pw (wy := wy2_236) hfw
          refine lv_aload hx hb dX11_fit_72 (lv_at hl 0 rfl) ?_
          have hw_249 : bFit T fi e0f e1f e2f e3f e4f e5f r1f m1f r2f [zO3 fi e0f e1f e2f e3f e4f e5f a1_203 a2_204, zAr T 0 a1_203 m1f r1f, zAr T 0 a2_204 7 r2f] := ⟨a1_203, a2_204, rfl⟩
          have G : zS T A s.heap s [z0_, wg0_, wg1_, wwA, [zO3 fi e0f e1f e2f e3f e4f e5f a1_203 a2_204, zAr T 0 a1_203 m1f r1f, zAr T 0 a2_204 7 r2f], wt, [zO10 xo t im mk rd po co tr wa wb_ fi cd], w2_234, z1_] _ _ := G.re rfl
          refine z_Vv (bc := [[zO3 fi e0f e1f e2f e3f e4f e5f a1_203 a2_204, zAr T 0 a1_203 m1f r1f, zAr T 0 a2_204 7 r2f], w2_234, z1_, wg0_]) (br := [z0_, wg1_, wwA, wt, [zO10 xo t im mk rd po co tr wa wb_ fi cd]]) (As := [.ref wb_, .ref g0]) (rest := []) C G (c_find l T fi e0f e1f e2f e3f e4f e5f r1f m1f r2f ([zO3 fi e0f e1f e2f e3f e4f e5f a1_203 a2_204, zAr T 0 a1_203 m1f r1f, zAr T 0 a2_204 7 r2f]) wb_ l1 m2_235 wy2_236 pc2_237 g1_238 g2_239 f3B g4_240 g5_241 g6_242 (zMk mdB n4B (zPl cr1_ inn1_ k11_)) w2_234 cr1_ inn1_ k11_ k21_ k31_ k41_ z1_ g0 gg0_ q10_ q20_ wg0_ hw_249 h_244 hz1_ hg0_ hn9 hfw hwy9) (kV_RX11_298 C.2.2.2.2 (Nat.le_of_ble_eq_true rfl) (Nat.le_of_ble_eq_true rfl)) [4, 7, 8, 1] [1, 2, 2, 0] rfl rfl (ci := 3) (qc := (RX3, TX3, 8)) rfl rfl (List.mem_flatten.mpr ⟨_, List.mem_of_getElem? (i := 0) rfl, (bFit_mem hw_249).choose_spec⟩) rfl rfl hl.1 dX11_fit_74 (Nat.le_of_ble_eq_true rfl) (by show _ + (2 * (zFl m1f wy2_236 - m1f)) ≤ 6 * (zNA (i1.toInt = 0 ∧ 0 < (fk 0).toInt ∧ (0 ≤ i2.toInt ∧ i2.toInt < (fk 2).toInt ∧ i2.toInt < 2) ∧ (e0f.toInt = 0 ∨ ¬ e1f.toInt = i1.toInt ∨ ¬ e2f.toInt = i2.toInt)) mdA n4A (zPl cr0_ inn0_ k10_) - n4A) + 6 * (zNA (i1.toInt = 1 ∧ 1 < (fk 0).toInt ∧ (0 ≤ i2.toInt ∧ i2.toInt < (fk 2).toInt ∧ i2.toInt < 2) ∧ (e0f.toInt = 0 ∨ ¬ e1f.toInt = i1.toInt ∨ ¬ e2f.toInt = i2.toInt)) mdB n4B (zPl cr1_ inn1_ k11_) - n4B) + 2 * (zNF (i1.toInt = 1 ∧ 1 < (fk 0).toInt ∧ (0 ≤ i2.toInt ∧ i2.toInt < (fk 2).toInt ∧ i2.toInt < 2) ∧ (e0f.toInt = 0 ∨ ¬ e1f.toInt = i1.toInt ∨ ¬ e2f.toInt = i2.toInt)) (zNF (i1.toInt = 0 ∧ 0 < (fk 0).toInt ∧ (0 ≤ i2.toInt ∧ i2.toInt < (fk 2).toInt ∧ i2.toInt < 2) ∧ (e0f.toInt = 0 ∨ ¬ e1f.toInt = i1.toInt ∨ ¬ e2f.toInt = i2.toInt)) m1f (zMw mdA wyA cr0_ inn0_ k10_)) (zMw mdB wyB cr1_ inn1_ k11_) - m1f); omega) (fun b1 H locs hw G => ?_)
          refine zEx5 hw ?_
          intro w2_250 s3_251 s4_252 s5_253 g1_254
          refine zCu3 ?_
          intro hbs9 h_255 h_256
          clear hw
          subst hbs9
          have G : zS T A s.heap s [z0_, wg1_, wwA, wt, [zO10 xo t im mk rd po co tr wa wb_ fi cd], w2_250, w2_234, z1_, wg0_] _ _ := G
          have h39 := h_256
          refine lv_aload_n hx hb dX11_fit_77 rfl (lv_at hl 2 rfl) ?_
          refine z_get C G clX11 4 rfl 9 (by decide) m_fl_RX11_65 rfl dX11_fit_78 ?_
          refine lv_iload_n hx hb dX11_fit_81 rfl (lv_at hl 3 rfl) ?_
          refine zEx2 h_255 ?_
          intro a1_258 a2_259 hbs9
          clear h_255
          subst hbs9
          have G : zS T A s.heap s [z0_, wg1_, wwA, wt, [zO10 xo t im mk rd po co tr wa wb_ fi cd], [zO3 fi e0f e1f e2f s3_251 s4_252 s5_253 a1_258 a2_259], [zAr T 0 a1_258 (zFl m1f wy2_236) g1_254], [zAr T 0 a2_259 7 r2f], w2_234, z1_, wg0_] _ _ := G.re rfl
          refine z_put C G clX3 5 rfl 1 (by decide) m_fl_RX11_292 rfl rfl rfl (Nat.le_of_ble_eq_true rfl) dX11_fit_82 (fun H locs G => ?_)
          have G : zS T A s.heap s [z0_, wg1_, wwA, wt, [zO10 xo t im mk rd po co tr wa wb_ fi cd], [zO3 fi e0f i1 e2f s3_251 s4_252 s5_253 a1_258 a2_259], [zAr T 0 a1_258 (zFl m1f wy2_236) g1_254], [zAr T 0 a2_259 7 r2f], w2_234, z1_, wg0_] _ _ := G
          refine lv_aload_n hx hb dX11_fit_85 rfl (lv_at hl 2 rfl) ?_
          refine z_get C G clX11 4 rfl 9 (by decide) m_fl_RX11_65 rfl dX11_fit_86 ?_
          refine lv_iload_n hx hb dX11_fit_89 rfl (lv_at hl 4 rfl) ?_
          refine z_put C G clX3 5 rfl 2 (by decide) m_fl_RX11_295 rfl rfl rfl (Nat.le_of_ble_eq_true rfl) dX11_fit_90 (fun H locs G => ?_)
          have G : zS T A s.heap s [z0_, wg1_, wwA, wt, [zO10 xo t im mk rd po co tr wa wb_ fi cd], [zO3 fi e0f i1 i2 s3_251 s4_252 s5_253 a1_258 a2_259], [zAr T 0 a1_258 (zFl m1f wy2_236) g1_254], [zAr T 0 a2_259 7 r2f], w2_234, z1_, wg0_] _ _ := G
          refine lv_aload_n hx hb dX11_fit_93 rfl (lv_at hl 2 rfl) ?_
          refine z_get C G clX11 4 rfl 9 (by decide) m_fl_RX11_65 rfl dX11_fit_94 ?_
          refine lv_iconst (v := 1) hx hb dX11_fit_97 (by decide) ?_
          refine z_put C G clX3 5 rfl 0 (by decide) m_fl_RX11_109 rfl rfl rfl (Nat.le_of_ble_eq_true rfl) dX11_fit_98 (fun H locs G => ?_)
          have G : zS T A s.heap s [z0_, wg1_, wwA, wt, [zO10 xo t im mk rd po co tr wa wb_ fi cd], [zO3 fi 1 i1 i2 s3_251 s4_252 s5_253 a1_258 a2_259], [zAr T 0 a1_258 (zFl m1f wy2_236) g1_254], [zAr T 0 a2_259 7 r2f], w2_234, z1_, wg0_] _ _ := G
          refine lv_iconst (v := 1) hx hb dX11_fit_101 (by decide) ?_
          have hw_260 : bFit T fi 1 i1 i2 s3_251 s4_252 s5_253 g1_254 (zFl m1f wy2_236) r2f [zO3 fi 1 i1 i2 s3_251 s4_252 s5_253 a1_258 a2_259, zAr T 0 a1_258 (zFl m1f wy2_236) g1_254, zAr T 0 a2_259 7 r2f] := ⟨a1_258, a2_259, rfl⟩
          have G : zS T A s.heap s [z0_, wg1_, wwA, wt, [zO10 xo t im mk rd po co tr wa wb_ fi cd], [zO3 fi 1 i1 i2 s3_251 s4_252 s5_253 a1_258 a2_259, zAr T 0 a1_258 (zFl m1f wy2_236) g1_254, zAr T 0 a2_259 7 r2f], w2_234, z1_, wg0_] _ _ := G.re rfl
          have G := G.sub (bs' := [[zO10 xo t im mk rd po co tr wa wb_ fi cd], wt, z0_, z1_, wg0_, wg1_, wwA, w2_234, [zO3 fi 1 i1 i2 s3_251 s4_252 s5_253 a1_258 a2_259, zAr T 0 a1_258 (zFl m1f wy2_236) g1_254, zAr T 0 a2_259 7 r2f]]) [4, 3, 0, 7, 8, 1, 2, 6, 5] rfl
          exact z_back hQz_ (z_zret C hr hlocks G (Nat.le_of_ble_eq_true rfl) (by omega) dX11_fit_102 rfl ⟨laA, mdA, wyA, pc_A, f1A, f2A, f3A, f4A, f5A, f6A, n4A, wwA, l1, m2_235, wy2_236, pc2_237, g1_238, g2_239, f3B, g4_240, g5_241, g6_242, (zMk mdB n4B (zPl cr1_ inn1_ k11_)), w2_234, 1, i1, i2, s3_251, s4_252, s5_253, g1_254, (zFl m1f wy2_236), r2f, ([zO3 fi 1 i1 i2 s3_251 s4_252 s5_253 a1_258 a2_259, zAr T 0 a1_258 (zFl m1f wy2_236) g1_254, zAr T 0 a2_259 7 r2f]), rfl, hwwA, hmdA, hwmA, (zNA_n (by omega)).symm, hpwA, (fun q => q), hTbA, h_244, (Or.inr rfl), hwy9, hNAm.symm, (zMk_pw hpwB), (fun _ => h_246), (Or.inr h_247), hw_260, hNF.symm, hfw9, h39, (Or.inr ⟨rfl, by omega, by decide, rfl⟩), (fun _ => Or.inr ⟨by omega, h_246⟩)⟩)
        · have c_233n : e1f.toInt = i1.toInt := (fa_eq _ _).mp c_233
          refine lv_aload_n hx hb dX11_fit_51 rfl (lv_at hl 2 rfl) ?_
          refine z_get C G clX11 0 rfl 9 (by decide) m_fl_RX11_65 rfl dX11_fit_52 ?_
          refine z_get C G clX3 7 rfl 2 (by decide) m_fl_RX11_295 rfl dX11_fit_55 ?_
          refine lv_iload_n hx hb dX11_fit_58 rfl (lv_at hl 4 rfl) ?_
          refine lv_icmp_eq (tgt := 101) hx hb dX11_fit_59 (by decide) (fun c_261 => ?_) (fun c_261 => ?_)
          · have c_261n : e2f.toInt = i2.toInt := (fa_eq _ _).mp c_261
            refine lv_iconst (v := 1) hx hb dX11_fit_101 (by decide) ?_
            have hw_262 : bFit T fi e0f e1f e2f e3f e4f e5f r1f m1f r2f [zO3 fi e0f e1f e2f e3f e4f e5f a1_203 a2_204, zAr T 0 a1_203 m1f r1f, zAr T 0 a2_204 7 r2f] := ⟨a1_203, a2_204, rfl⟩
            have G : zS T A s.heap s [[zO10 xo t im mk rd po co tr wa wb_ fi cd], z0_, z1_, wg0_, wg1_, wwA, wwB, [zO3 fi e0f e1f e2f e3f e4f e5f a1_203 a2_204, zAr T 0 a1_203 m1f r1f, zAr T 0 a2_204 7 r2f], wt] _ _ := G.re rfl
            have G := G.sub (bs' := [[zO10 xo t im mk rd po co tr wa wb_ fi cd], wt, z0_, z1_, wg0_, wg1_, wwA, wwB, [zO3 fi e0f e1f e2f e3f e4f e5f a1_203 a2_204, zAr T 0 a1_203 m1f r1f, zAr T 0 a2_204 7 r2f]]) [0, 8, 1, 2, 3, 4, 5, 6, 7] rfl
            exact z_back hQz_ (z_zret C hr hlocks G (Nat.le_of_ble_eq_true rfl) (by omega) dX11_fit_102 rfl ⟨laA, mdA, wyA, pc_A, f1A, f2A, f3A, f4A, f5A, f6A, n4A, wwA, laB, mdB, wyB, pc_B, f1B, f2B, f3B, f4B, f5B, f6B, n4B, wwB, e0f, e1f, e2f, e3f, e4f, e5f, r1f, m1f, r2f, ([zO3 fi e0f e1f e2f e3f e4f e5f a1_203 a2_204, zAr T 0 a1_203 m1f r1f, zAr T 0 a2_204 7 r2f]), rfl, hwwA, hmdA, hwmA, (zNA_n (by omega)).symm, hpwA, (fun q => q), hTbA, hwwB, hmdB, hwmB, (zNA_n (by omega)).symm, hpwB, (fun q => q), hTbB, hw_262, (((zNF_n (c := (i1.toInt = 1 ∧ 1 < (fk 0).toInt ∧ (0 ≤ i2.toInt ∧ i2.toInt < (fk 2).toInt ∧ i2.toInt < 2) ∧ (e0f.toInt = 0 ∨ ¬ e1f.toInt = i1.toInt ∨ ¬ e2f.toInt = i2.toInt))) (by omega)).trans (zNF_n (by omega))).symm), hfw, hf3, (Or.inr ⟨rfl, by omega, (fun q => absurd (congrArg Int32.toInt q) (by show ¬ _ = (0 : Int); omega)), by omega⟩), hFI⟩)
          · have c_261n : ¬ e2f.toInt = i2.toInt := fun q => c_261 ((fa_eq _ _).mpr q)
            refine lv_aload_n hx hb dX11_fit_62 rfl (lv_at hl 2 rfl) ?_
            refine z_get C G clX11 0 rfl 9 (by decide) m_fl_RX11_65 rfl dX11_fit_63 ?_
            refine lv_aload_n hx hb dX11_fit_66 rfl (lv_at hl 2 rfl) ?_
            refine lv_iload_n hx hb dX11_fit_67 rfl (lv_at hl 3 rfl) ?_
            refine lv_aload_n hx hb dX11_fit_68 rfl (lv_at hl 1 rfl) ?_
            have hcF : (i1.toInt = 1 ∧ 1 < (fk 0).toInt ∧ (0 ≤ i2.toInt ∧ i2.toInt < (fk 2).toInt ∧ i2.toInt < 2) ∧ (e0f.toInt = 0 ∨ ¬ e1f.toInt = i1.toInt ∨ ¬ e2f.toInt = i2.toInt)) := by omega
            have hcN : ¬ (i1.toInt = 0 ∧ 0 < (fk 0).toInt ∧ (0 ≤ i2.toInt ∧ i2.toInt < (fk 2).toInt ∧ i2.toInt < 2) ∧ (e0f.toInt = 0 ∨ ¬ e1f.toInt = i1.toInt ∨ ¬ e2f.toInt = i2.toInt)) := by omega
            have hNAm : zNA (i1.toInt = 1 ∧ 1 < (fk 0).toInt ∧ (0 ≤ i2.toInt ∧ i2.toInt < (fk 2).toInt ∧ i2.toInt < 2) ∧ (e0f.toInt = 0 ∨ ¬ e1f.toInt = i1.toInt ∨ ¬ e2f.toInt = i2.toInt)) mdB n4B (zPl cr1_ inn1_ k11_) = zMk mdB n4B (zPl cr1_ inn1_ k11_) := zNA_y hcF
            have hNAo : zNA (i1.toInt = 0 ∧ 0 < (fk 0).toInt ∧ (0 ≤ i2.toInt ∧ i2.toInt < (fk 2).toInt ∧ i2.toInt < 2) ∧ (e0f.toInt = 0 ∨ ¬ e1f.toInt = i1.toInt ∨ ¬ e2f.toInt = i2.toInt)) mdA n4A (zPl cr0_ inn0_ k10_) = n4A := zNA_n hcN
            have hn9 : zMk mdB n4B (zPl cr1_ inn1_ k11_) ≤ 131072 := zPw_le (zMk_pw hpwB)
            refine z_Vq (bc := [[zO10 xo t im mk rd po co tr wa wb_ fi cd], wwB, z1_]) (br := [z0_, wg0_, wg1_, wwA, [zO3 fi e0f e1f e2f e3f e4f e5f a1_203 a2_204], [zAr T 0 a1_203 m1f r1f], [zAr T 0 a2_204 7 r2f], wt]) (As := [.int i1, .ref l1]) (rest := [.ref fi]) C G (c_f_waysInB l T xo t im mk rd po co tr wa wb_ fi cd i1 laB mdB wyB pc_B f1B f2B f3B f4B f5B f6B n4B wwB l1 cr1_ inn1_ k11_ k21_ k31_ k41_ z1_ hwwB hz1_ hI1_ hpwB hmdB (kaOk hI1_ hLq1).1 hTbB (by omega)) (kV_RX11_235 C.2.2.2.2 (Nat.le_of_ble_eq_true rfl) (Nat.le_of_ble_eq_true rfl)) [0, 6, 2] [0, 1, 3] rfl rfl (ci := 10) (qc := (RX11, TX11, 11)) rfl rfl (List.mem_flatten.mpr ⟨_, List.mem_of_getElem? (i := 0) rfl, List.mem_cons_self⟩) rfl rfl hl.1 dX11_fit_69 (Nat.le_of_ble_eq_true rfl) (by show _ + (6 * (zMk mdB n4B (zPl cr1_ inn1_ k11_) - n4B)) ≤ 6 * (zNA (i1.toInt = 0 ∧ 0 < (fk 0).toInt ∧ (0 ≤ i2.toInt ∧ i2.toInt < (fk 2).toInt ∧ i2.toInt < 2) ∧ (e0f.toInt = 0 ∨ ¬ e1f.toInt = i1.toInt ∨ ¬ e2f.toInt = i2.toInt)) mdA n4A (zPl cr0_ inn0_ k10_) - n4A) + 6 * (zNA (i1.toInt = 1 ∧ 1 < (fk 0).toInt ∧ (0 ≤ i2.toInt ∧ i2.toInt < (fk 2).toInt ∧ i2.toInt < 2) ∧ (e0f.toInt = 0 ∨ ¬ e1f.toInt = i1.toInt ∨ ¬ e2f.toInt = i2.toInt)) mdB n4B (zPl cr1_ inn1_ k11_) - n4B) + 2 * (zNF (i1.toInt = 1 ∧ 1 < (fk 0).toInt ∧ (0 ≤ i2.toInt ∧ i2.toInt < (fk 2).toInt ∧ i2.toInt < 2) ∧ (e0f.toInt = 0 ∨ ¬ e1f.toInt = i1.toInt ∨ ¬ e2f.toInt = i2.toInt)) (zNF (i1.toInt = 0 ∧ 0 < (fk 0).toInt ∧ (0 ≤ i2.toInt ∧ i2.toInt < (fk 2).toInt ∧ i2.toInt < 2) ∧ (e0f.toInt = 0 ∨ ¬ e1f.toInt = i1.toInt ∨ ¬ e2f.toInt = i2.toInt)) m1f (zMw mdA wyA cr0_ inn0_ k10_)) (zMw mdB wyB cr1_ inn1_ k11_) - m1f); omega) (fun r_277 b1 H locs hw G => ?_)
            refine zEx9 hw ?_
            intro w2_263 m2_264 wy2_265 pc2_266 g1_267 g2_268 g4_269 g5_270 g6_271
            refine zCu6 ?_
            intro hbs9 h_272 h_273 h_274 h_275 h_276
            clear hw
            subst hbs9
            have G : zS T A s.heap s [z0_, wg0_, wg1_, wwA, [zO3 fi e0f e1f e2f e3f e4f e5f a1_203 a2_204], [zAr T 0 a1_203 m1f r1f], [zAr T 0 a2_204 7 r2f], wt, [zO10 xo t im mk rd po co tr wa wb_ fi cd], w2_263, z1_] _ _ := G
            subst h_272
            have hwy9 : 0 ≤ wy2_265.toInt ∧ wy2_265.toInt ≤ 16384 := by have q9 := zWy_in (inn := inn1_) hI1_; rw [h_274]; exact ⟨by omega, q9.2⟩
            have hmw9 : wy2_265 = (zMw mdB wyB cr1_ inn1_ k11_) := by unfold zMw; by_cases q9 : mdB = 0 <;> first | (rw [if_pos q9]; exact h_274) | (rw [if_neg q9]; exact h_274.trans ((hTbB.resolve_left q9).1).symm)
            have hNF : zNF (i1.toInt = 1 ∧ 1 < (fk 0).toInt ∧ (0 ≤ i2.toInt ∧ i2.toInt < (fk 2).toInt ∧ i2.toInt < 2) ∧ (e0f.toInt = 0 ∨ ¬ e1f.toInt = i1.toInt ∨ ¬ e2f.toInt = i2.toInt)) (zNF (i1.toInt = 0 ∧ 0 < (fk 0).toInt ∧ (0 ≤ i2.toInt ∧ i2.toInt < (fk 2).toInt ∧ i2.toInt < 2) ∧ (e0f.toInt = 0 ∨ ¬ e1f.toInt = i1.toInt ∨ ¬ e2f.toInt = i2.toInt)) m1f (zMw mdA wyA cr0_ inn0_ k10_)) (zMw mdB wyB cr1_ inn1_ k11_) = zFl m1f wy2_265 := by rw [zNF_y (c := (i1.toInt = 1 ∧ 1 < (fk 0).toInt ∧ (0 ≤ i2.toInt ∧ i2.toInt < (fk 2).toInt ∧ i2.toInt < 2) ∧ (e0f.toInt = 0 ∨ ¬ e1f.toInt = i1.toInt ∨ ¬ e2f.toInt = i2.toInt))) hcF, zNF_n (c := (i1.toInt = 0 ∧ 0 < (fk 0).toInt ∧ (0 ≤ i2.toInt ∧ i2.toInt < (fk 2).toInt ∧ i2.toInt < 2) ∧ (e0f.toInt = 0 ∨ ¬ e1f.toInt = i1.toInt ∨ ¬ e2f.toInt = i2.toInt))) hcN, hmw9]
            have hfw9 := zFl_pw (wy := wy2_265) hfw
            refine lv_aload hx hb dX11_fit_72 (lv_at hl 0 rfl) ?_
            have hw_278 : bFit T fi e0f e1f e2f e3f e4f e5f r1f m1f r2f [zO3 fi e0f e1f e2f e3f e4f e5f a1_203 a2_204, zAr T 0 a1_203 m1f r1f, zAr T 0 a2_204 7 r2f] := ⟨a1_203, a2_204, rfl⟩
            have G : zS T A s.heap s [z0_, wg0_, wg1_, wwA, [zO3 fi e0f e1f e2f e3f e4f e5f a1_203 a2_204, zAr T 0 a1_203 m1f r1f, zAr T 0 a2_204 7 r2f], wt, [zO10 xo t im mk rd po co tr wa wb_ fi cd], w2_263, z1_] _ _ := G.re rfl
            refine z_Vv (bc := [[zO3 fi e0f e1f e2f e3f e4f e5f a1_203 a2_204, zAr T 0 a1_203 m1f r1f, zAr T 0 a2_204 7 r2f], w2_263, z1_, wg0_]) (br := [z0_, wg1_, wwA, wt, [zO10 xo t im mk rd po co tr wa wb_ fi cd]]) (As := [.ref wb_, .ref g0]) (rest := []) C G (c_find l T fi e0f e1f e2f e3f e4f e5f r1f m1f r2f ([zO3 fi e0f e1f e2f e3f e4f e5f a1_203 a2_204, zAr T 0 a1_203 m1f r1f, zAr T 0 a2_204 7 r2f]) wb_ l1 m2_264 wy2_265 pc2_266 g1_267 g2_268 f3B g4_269 g5_270 g6_271 (zMk mdB n4B (zPl cr1_ inn1_ k11_)) w2_263 cr1_ inn1_ k11_ k21_ k31_ k41_ z1_ g0 gg0_ q10_ q20_ wg0_ hw_278 h_273 hz1_ hg0_ hn9 hfw hwy9) (kV_RX11_298 C.2.2.2.2 (Nat.le_of_ble_eq_true rfl) (Nat.le_of_ble_eq_true rfl)) [4, 7, 8, 1] [1, 2, 2, 0] rfl rfl (ci := 3) (qc := (RX3, TX3, 8)) rfl rfl (List.mem_flatten.mpr ⟨_, List.mem_of_getElem? (i := 0) rfl, (bFit_mem hw_278).choose_spec⟩) rfl rfl hl.1 dX11_fit_74 (Nat.le_of_ble_eq_true rfl) (by show _ + (2 * (zFl m1f wy2_265 - m1f)) ≤ 6 * (zNA (i1.toInt = 0 ∧ 0 < (fk 0).toInt ∧ (0 ≤ i2.toInt ∧ i2.toInt < (fk 2).toInt ∧ i2.toInt < 2) ∧ (e0f.toInt = 0 ∨ ¬ e1f.toInt = i1.toInt ∨ ¬ e2f.toInt = i2.toInt)) mdA n4A (zPl cr0_ inn0_ k10_) - n4A) + 6 * (zNA (i1.toInt = 1 ∧ 1 < (fk 0).toInt ∧ (0 ≤ i2.toInt ∧ i2.toInt < (fk 2).toInt ∧ i2.toInt < 2) ∧ (e0f.toInt = 0 ∨ ¬ e1f.toInt = i1.toInt ∨ ¬ e2f.toInt = i2.toInt)) mdB n4B (zPl cr1_ inn1_ k11_) - n4B) + 2 * (zNF (i1.toInt = 1 ∧ 1 < (fk 0).toInt ∧ (0 ≤ i2.toInt ∧ i2.toInt < (fk 2).toInt ∧ i2.toInt < 2) ∧ (e0f.toInt = 0 ∨ ¬ e1f.toInt = i1.toInt ∨ ¬ e2f.toInt = i2.toInt)) (zNF (i1.toInt = 0 ∧ 0 < (fk 0).toInt ∧ (0 ≤ i2.toInt ∧ i2.toInt < (fk 2).toInt ∧ i2.toInt < 2) ∧ (e0f.toInt = 0 ∨ ¬ e1f.toInt = i1.toInt ∨ ¬ e2f.toInt = i2.toInt)) m1f (zMw mdA wyA cr0_ inn0_ k10_)) (zMw mdB wyB cr1_ inn1_ k11_) - m1f); omega) (fun b1 H locs hw G => ?_)
            refine zEx5 hw ?_
            intro w2_279 s3_280 s4_281 s5_282 g1_283
            refine zCu3 ?_
            intro hbs9 h_284 h_285
            clear hw
            subst hbs9
            have G : zS T A s.heap s [z0_, wg1_, wwA, wt, [zO10 xo t im mk rd po co tr wa wb_ fi cd], w2_279, w2_263, z1_, wg0_] _ _ := G
            have h39 := h_285
            refine lv_aload_n hx hb dX11_fit_77 rfl (lv_at hl 2 rfl) ?_
            refine z_get C G clX11 4 rfl 9 (by decide) m_fl_RX11_65 rfl dX11_fit_78 ?_
            refine lv_iload_n hx hb dX11_fit_81 rfl (lv_at hl 3 rfl) ?_
            refine zEx2 h_284 ?_
            intro a1_287 a2_288 hbs9
            clear h_284
            subst hbs9
            have G : zS T A s.heap s [z0_, wg1_, wwA, wt, [zO10 xo t im mk rd po co tr wa wb_ fi cd], [zO3 fi e0f e1f e2f s3_280 s4_281 s5_282 a1_287 a2_288], [zAr T 0 a1_287 (zFl m1f wy2_265) g1_283], [zAr T 0 a2_288 7 r2f], w2_263, z1_, wg0_] _ _ := G.re rfl
            refine z_put C G clX3 5 rfl 1 (by decide) m_fl_RX11_292 rfl rfl rfl (Nat.le_of_ble_eq_true rfl) dX11_fit_82 (fun H locs G => ?_)
            have G : zS T A s.heap s [z0_, wg1_, wwA, wt, [zO10 xo t im mk rd po co tr wa wb_ fi cd], [zO3 fi e0f i1 e2f s3_280 s4_281 s5_282 a1_287 a2_288], [zAr T 0 a1_287 (zFl m1f wy2_265) g1_283], [zAr T 0 a2_288 7 r2f], w2_263, z1_, wg0_] _ _ := G
            refine lv_aload_n hx hb dX11_fit_85 rfl (lv_at hl 2 rfl) ?_
            refine z_get C G clX11 4 rfl 9 (by decide) m_fl_RX11_65 rfl dX11_fit_86 ?_
            refine lv_iload_n hx hb dX11_fit_89 rfl (lv_at hl 4 rfl) ?_
            refine z_put C G clX3 5 rfl 2 (by decide) m_fl_RX11_295 rfl rfl rfl (Nat.le_of_ble_eq_true rfl) dX11_fit_90 (fun H locs G => ?_)
            have G : zS T A s.heap s [z0_, wg1_, wwA, wt, [zO10 xo t im mk rd po co tr wa wb_ fi cd], [zO3 fi e0f i1 i2 s3_280 s4_281 s5_282 a1_287 a2_288], [zAr T 0 a1_287 (zFl m1f wy2_265) g1_283], [zAr T 0 a2_288 7 r2f], w2_263, z1_, wg0_] _ _ := G
            refine lv_aload_n hx hb dX11_fit_93 rfl (lv_at hl 2 rfl) ?_
            refine z_get C G clX11 4 rfl 9 (by decide) m_fl_RX11_65 rfl dX11_fit_94 ?_
            refine lv_iconst (v := 1) hx hb dX11_fit_97 (by decide) ?_
            refine z_put C G clX3 5 rfl 0 (by decide) m_fl_RX11_109 rfl rfl rfl (Nat.le_of_ble_eq_true rfl) dX11_fit_98 (fun H locs G => ?_)
            have G : zS T A s.heap s [z0_, wg1_, wwA, wt, [zO10 xo t im mk rd po co tr wa wb_ fi cd], [zO3 fi 1 i1 i2 s3_280 s4_281 s5_282 a1_287 a2_288], [zAr T 0 a1_287 (zFl m1f wy2_265) g1_283], [zAr T 0 a2_288 7 r2f], w2_263, z1_, wg0_] _ _ := G
            refine lv_iconst (v := 1) hx hb dX11_fit_101 (by decide) ?_
            have hw_289 : bFit T fi 1 i1 i2 s3_280 s4_281 s5_282 g1_283 (zFl m1f wy2_265) r2f [zO3 fi 1 i1 i2 s3_280 s4_281 s5_282 a1_287 a2_288, zAr T 0 a1_287 (zFl m1f wy2_265) g1_283, zAr T 0 a2_288 7 r2f] := ⟨a1_287, a2_288, rfl⟩
            have G : zS T A s.heap s [z0_, wg1_, wwA, wt, [zO10 xo t im mk rd po co tr wa wb_ fi cd], [zO3 fi 1 i1 i2 s3_280 s4_281 s5_282 a1_287 a2_288, zAr T 0 a1_287 (zFl m1f wy2_265) g1_283, zAr T 0 a2_288 7 r2f], w2_263, z1_, wg0_] _ _ := G.re rfl
            have G := G.sub (bs' := [[zO10 xo t im mk rd po co tr wa wb_ fi cd], wt, z0_, z1_, wg0_, wg1_, wwA, w2_263, [zO3 fi 1 i1 i2 s3_280 s4_281 s5_282 a1_287 a2_288, zAr T 0 a1_287 (zFl m1f wy2_265) g1_283, zAr T 0 a2_288 7 r2f]]) [4, 3, 0, 7, 8, 1, 2, 6, 5] rfl
            exact z_back hQz_ (z_zret C hr hlocks G (Nat.le_of_ble_eq_true rfl) (by omega) dX11_fit_102 rfl ⟨laA, mdA, wyA, pc_A, f1A, f2A, f3A, f4A, f5A, f6A, n4A, wwA, l1, m2_264, wy2_265, pc2_266, g1_267, g2_268, f3B, g4_269, g5_270, g6_271, (zMk mdB n4B (zPl cr1_ inn1_ k11_)), w2_263, 1, i1, i2, s3_280, s4_281, s5_282, g1_283, (zFl m1f wy2_265), r2f, ([zO3 fi 1 i1 i2 s3_280 s4_281 s5_282 a1_287 a2_288, zAr T 0 a1_287 (zFl m1f wy2_265) g1_283, zAr T 0 a2_288 7 r2f]), rfl, hwwA, hmdA, hwmA, (zNA_n (by omega)).symm, hpwA, (fun q => q), hTbA, h_273, (Or.inr rfl), hwy9, hNAm.symm, (zMk_pw hpwB), (fun _ => h_275), (Or.inr h_276), hw_289, hNF.symm, hfw9, h39, (Or.inr ⟨rfl, by omega, by decide, rfl⟩), (fun _ => Or.inr ⟨by omega, h_275⟩)⟩)
    · have h_201 : i2.toInt = 1 := h_201
      have h_202 : 1 < (fk 2).toInt := h_202
      refine lv_astore (lv' := [(4, .ref g1), (3, .ref l1), (0, .ref xo), (1, .int i1), (2, .int i2)]) hx hb dX11_fit_17 hl (by decide) (zLvf_h rfl) (fun ls hl => ?_)
      refine lv_aload_n hx hb dX11_fit_19 rfl (lv_at hl 1 rfl) ?_
      refine lv_ifnull hx hb dX11_fit_20 ?_
      refine lv_aload hx hb dX11_fit_23 (lv_at hl 0 rfl) ?_
      refine lv_ifnonnull (tgt := 30) hx hb dX11_fit_25 (by decide) ?_
      refine lv_aload_n hx hb dX11_fit_30 rfl (lv_at hl 2 rfl) ?_
      refine z_get C G clX11 0 rfl 9 (by decide) m_fl_RX11_65 rfl dX11_fit_31 ?_
      refine zEx2 hwff ?_
      intro a1_290 a2_291 hbs9
      clear hwff
      subst hbs9
      have G : zS T A s.heap s [[zO10 xo t im mk rd po co tr wa wb_ fi cd], z0_, z1_, wg0_, wg1_, wwA, wwB, [zO3 fi e0f e1f e2f e3f e4f e5f a1_290 a2_291], [zAr T 0 a1_290 m1f r1f], [zAr T 0 a2_291 7 r2f], wt] _ _ := G.re rfl
      refine z_get C G clX3 7 rfl 0 (by decide) m_fl_RX11_109 rfl dX11_fit_34 ?_
      refine lv_if_eq (tgt := 62) hx hb dX11_fit_37 (by decide) (fun c_292 => ?_) (fun c_292 => ?_)
      · have c_292n : e0f.toInt = (0 : Int) := (fa_eq _ _).mp c_292
        refine lv_aload_n hx hb dX11_fit_62 rfl (lv_at hl 2 rfl) ?_
        refine z_get C G clX11 0 rfl 9 (by decide) m_fl_RX11_65 rfl dX11_fit_63 ?_
        refine lv_aload_n hx hb dX11_fit_66 rfl (lv_at hl 2 rfl) ?_
        refine lv_iload_n hx hb dX11_fit_67 rfl (lv_at hl 3 rfl) ?_
        refine lv_aload_n hx hb dX11_fit_68 rfl (lv_at hl 1 rfl) ?_
        have hcF : (i1.toInt = 1 ∧ 1 < (fk 0).toInt ∧ (0 ≤ i2.toInt ∧ i2.toInt < (fk 2).toInt ∧ i2.toInt < 2) ∧ (e0f.toInt = 0 ∨ ¬ e1f.toInt = i1.toInt ∨ ¬ e2f.toInt = i2.toInt)) := by omega
        have hcN : ¬ (i1.toInt = 0 ∧ 0 < (fk 0).toInt ∧ (0 ≤ i2.toInt ∧ i2.toInt < (fk 2).toInt ∧ i2.toInt < 2) ∧ (e0f.toInt = 0 ∨ ¬ e1f.toInt = i1.toInt ∨ ¬ e2f.toInt = i2.toInt)) := by omega
        have hNAm : zNA (i1.toInt = 1 ∧ 1 < (fk 0).toInt ∧ (0 ≤ i2.toInt ∧ i2.toInt < (fk 2).toInt ∧ i2.toInt < 2) ∧ (e0f.toInt = 0 ∨ ¬ e1f.toInt = i1.toInt ∨ ¬ e2f.toInt = i2.toInt)) mdB n4B (zPl cr1_ inn1_ k11_) = zMk mdB n4B (zPl cr1_ inn1_ k11_) := zNA_y hcF
        have hNAo : zNA (i1.toInt = 0 ∧ 0 < (fk 0).toInt ∧ (0 ≤ i2.toInt ∧ i2.toInt < (fk 2).toInt ∧ i2.toInt < 2) ∧ (e0f.toInt = 0 ∨ ¬ e1f.toInt = i1.toInt ∨ ¬ e2f.toInt = i2.toInt)) mdA n4A (zPl cr0_ inn0_ k10_) = n4A := zNA_n hcN
        have hn9 : zMk mdB n4B (zPl cr1_ inn1_ k11_) ≤ 131072 := zPw_le (zMk_pw hpwB)
        refine z_Vq (bc := [[zO10 xo t im mk rd po co tr wa wb_ fi cd], wwB, z1_]) (br := [z0_, wg0_, wg1_, wwA, [zO3 fi e0f e1f e2f e3f e4f e5f a1_290 a2_291], [zAr T 0 a1_290 m1f r1f], [zAr T 0 a2_291 7 r2f], wt]) (As := [.int i1, .ref l1]) (rest := [.ref fi]) C G (c_f_waysInB l T xo t im mk rd po co tr wa wb_ fi cd i1 laB mdB wyB pc_B f1B f2B f3B f4B f5B f6B n4B wwB l1 cr1_ inn1_ k11_ k21_ k31_ k41_ z1_ hwwB hz1_ hI1_ hpwB hmdB (kaOk hI1_ hLq1).1 hTbB (by omega)) (kV_RX11_235 C.2.2.2.2 (Nat.le_of_ble_eq_true rfl) (Nat.le_of_ble_eq_true rfl)) [0, 6, 2] [0, 1, 3] rfl rfl (ci := 10) (qc := (RX11, TX11, 11)) rfl rfl (List.mem_flatten.mpr ⟨_, List.mem_of_getElem? (i := 0) rfl, List.mem_cons_self⟩) rfl rfl hl.1 dX11_fit_69 (Nat.le_of_ble_eq_true rfl) (by show _ + (6 * (zMk mdB n4B (zPl cr1_ inn1_ k11_) - n4B)) ≤ 6 * (zNA (i1.toInt = 0 ∧ 0 < (fk 0).toInt ∧ (0 ≤ i2.toInt ∧ i2.toInt < (fk 2).toInt ∧ i2.toInt < 2) ∧ (e0f.toInt = 0 ∨ ¬ e1f.toInt = i1.toInt ∨ ¬ e2f.toInt = i2.toInt)) mdA n4A (zPl cr0_ inn0_ k10_) - n4A) + 6 * (zNA (i1.toInt = 1 ∧ 1 < (fk 0).toInt ∧ (0 ≤ i2.toInt ∧ i2.toInt < (fk 2).toInt ∧ i2.toInt < 2) ∧ (e0f.toInt = 0 ∨ ¬ e1f.toInt = i1.toInt ∨ ¬ e2f.toInt = i2.toInt)) mdB n4B (zPl cr1_ inn1_ k11_) - n4B) + 2 * (zNF (i1.toInt = 1 ∧ 1 < (fk 0).toInt ∧ (0 ≤ i2.toInt ∧ i2.toInt < (fk 2).toInt ∧ i2.toInt < 2) ∧ (e0f.toInt = 0 ∨ ¬ e1f.toInt = i1.toInt ∨ ¬ e2f.toInt = i2.toInt)) (zNF (i1.toInt = 0 ∧ 0 < (fk 0).toInt ∧ (0 ≤ i2.toInt ∧ i2.toInt < (fk 2).toInt ∧ i2.toInt < 2) ∧ (e0f.toInt = 0 ∨ ¬ e1f.toInt = i1.toInt ∨ ¬ e2f.toInt = i2.toInt)) m1f (zMw mdA wyA cr0_ inn0_ k10_)) (zMw mdB wyB cr1_ inn1_ k11_) - m1f); omega) (fun r_307 b1 H locs hw G => ?_)
        refine zEx9 hw ?_
        intro w2_293 m2_294 wy2_295 pc2_296 g1_297 g2_298 g4_299 g5_300 g6_301
        refine zCu6 ?_
        intro hbs9 h_302 h_303 h_304 h_305 h_306
        clear hw
        subst hbs9
        have G : zS T A s.heap s [z0_, wg0_, wg1_, wwA, [zO3 fi e0f e1f e2f e3f e4f e5f a1_290 a2_291], [zAr T 0 a1_290 m1f r1f], [zAr T 0 a2_291 7 r2f], wt, [zO10 xo t im mk rd po co tr wa wb_ fi cd], w2_293, z1_] _ _ := G
        subst h_302
        have hwy9 : 0 ≤ wy2_295.toInt ∧ wy2_295.toInt ≤ 16384 := by have q9 := zWy_in (inn := inn1_) hI1_; rw [h_304]; exact ⟨by omega, q9.2⟩
        have hmw9 : wy2_295 = (zMw mdB wyB cr1_ inn1_ k11_) := by unfold zMw; by_cases q9 : mdB = 0 <;> first | (rw [if_pos q9]; exact h_304) | (rw [if_neg q9]; exact h_304.trans ((hTbB.resolve_left q9).1).symm)
        have hNF : zNF (i1.toInt = 1 ∧ 1 < (fk 0).toInt ∧ (0 ≤ i2.toInt ∧ i2.toInt < (fk 2).toInt ∧ i2.toInt < 2) ∧ (e0f.toInt = 0 ∨ ¬ e1f.toInt = i1.toInt ∨ ¬ e2f.toInt = i2.toInt)) (zNF (i1.toInt = 0 ∧ 0 < (fk 0).toInt ∧ (0 ≤ i2.toInt ∧ i2.toInt < (fk 2).toInt ∧ i2.toInt < 2) ∧ (e0f.toInt = 0 ∨ ¬ e1f.toInt = i1.toInt ∨ ¬ e2f.toInt = i2.toInt)) m1f (zMw mdA wyA cr0_ inn0_ k10_)) (zMw mdB wyB cr1_ inn1_ k11_) = zFl m1f wy2_295 := by rw [zNF_y (c := (i1.toInt = 1 ∧ 1 < (fk 0).toInt ∧ (0 ≤ i2.toInt ∧ i2.toInt < (fk 2).toInt ∧ i2.toInt < 2) ∧ (e0f.toInt = 0 ∨ ¬ e1f.toInt = i1.toInt ∨ ¬ e2f.toInt = i2.toInt))) hcF, zNF_n (c := (i1.toInt = 0 ∧ 0 < (fk 0).toInt ∧ (0 ≤ i2.toInt ∧ i2.toInt < (fk 2).toInt ∧ i2.toInt < 2) ∧ (e0f.toInt = 0 ∨ ¬ e1f.toInt = i1.toInt ∨ ¬ e2f.toInt = i2.toInt))) hcN, hmw9]
        have hfw9 := zFl_pw (wy := wy2_295) hfw
        refine lv_aload hx hb dX11_fit_72 (lv_at hl 0 rfl) ?_
        have hw_308 : bFit T fi e0f e1f e2f e3f e4f e5f r1f m1f r2f [zO3 fi e0f e1f e2f e3f e4f e5f a1_290 a2_291, zAr T 0 a1_290 m1f r1f, zAr T 0 a2_291 7 r2f] := ⟨a1_290, a2_291, rfl⟩
        have G : zS T A s.heap s [z0_, wg0_, wg1_, wwA, [zO3 fi e0f e1f e2f e3f e4f e5f a1_290 a2_291, zAr T 0 a1_290 m1f r1f, zAr T 0 a2_291 7 r2f], wt, [zO10 xo t im mk rd po co tr wa wb_ fi cd], w2_293, z1_] _ _ := G.re rfl
        refine z_Vv (bc := [[zO3 fi e0f e1f e2f e3f e4f e5f a1_290 a2_291, zAr T 0 a1_290 m1f r1f, zAr T 0 a2_291 7 r2f], w2_293, z1_, wg1_]) (br := [z0_, wg0_, wwA, wt, [zO10 xo t im mk rd po co tr wa wb_ fi cd]]) (As := [.ref wb_, .ref g1]) (rest := []) C G (c_find l T fi e0f e1f e2f e3f e4f e5f r1f m1f r2f ([zO3 fi e0f e1f e2f e3f e4f e5f a1_290 a2_291, zAr T 0 a1_290 m1f r1f, zAr T 0 a2_291 7 r2f]) wb_ l1 m2_294 wy2_295 pc2_296 g1_297 g2_298 f3B g4_299 g5_300 g6_301 (zMk mdB n4B (zPl cr1_ inn1_ k11_)) w2_293 cr1_ inn1_ k11_ k21_ k31_ k41_ z1_ g1 gg1_ q11_ q21_ wg1_ hw_308 h_303 hz1_ hg1_ hn9 hfw hwy9) (kV_RX11_298 C.2.2.2.2 (Nat.le_of_ble_eq_true rfl) (Nat.le_of_ble_eq_true rfl)) [4, 7, 8, 2] [2, 1, 2, 0] rfl rfl (ci := 3) (qc := (RX3, TX3, 8)) rfl rfl (List.mem_flatten.mpr ⟨_, List.mem_of_getElem? (i := 0) rfl, (bFit_mem hw_308).choose_spec⟩) rfl rfl hl.1 dX11_fit_74 (Nat.le_of_ble_eq_true rfl) (by show _ + (2 * (zFl m1f wy2_295 - m1f)) ≤ 6 * (zNA (i1.toInt = 0 ∧ 0 < (fk 0).toInt ∧ (0 ≤ i2.toInt ∧ i2.toInt < (fk 2).toInt ∧ i2.toInt < 2) ∧ (e0f.toInt = 0 ∨ ¬ e1f.toInt = i1.toInt ∨ ¬ e2f.toInt = i2.toInt)) mdA n4A (zPl cr0_ inn0_ k10_) - n4A) + 6 * (zNA (i1.toInt = 1 ∧ 1 < (fk 0).toInt ∧ (0 ≤ i2.toInt ∧ i2.toInt < (fk 2).toInt ∧ i2.toInt < 2) ∧ (e0f.toInt = 0 ∨ ¬ e1f.toInt = i1.toInt ∨ ¬ e2f.toInt = i2.toInt)) mdB n4B (zPl cr1_ inn1_ k11_) - n4B) + 2 * (zNF (i1.toInt = 1 ∧ 1 < (fk 0).toInt ∧ (0 ≤ i2.toInt ∧ i2.toInt < (fk 2).toInt ∧ i2.toInt < 2) ∧ (e0f.toInt = 0 ∨ ¬ e1f.toInt = i1.toInt ∨ ¬ e2f.toInt = i2.toInt)) (zNF (i1.toInt = 0 ∧ 0 < (fk 0).toInt ∧ (0 ≤ i2.toInt ∧ i2.toInt < (fk 2).toInt ∧ i2.toInt < 2) ∧ (e0f.toInt = 0 ∨ ¬ e1f.toInt = i1.toInt ∨ ¬ e2f.toInt = i2.toInt)) m1f (zMw mdA wyA cr0_ inn0_ k10_)) (zMw mdB wyB cr1_ inn1_ k11_) - m1f); omega) (fun b1 H locs hw G => ?_)
        refine zEx5 hw ?_
        intro w2_309 s3_310 s4_311 s5_312 g1_313
        refine zCu3 ?_
        intro hbs9 h_314 h_315
        clear hw
        subst hbs9
        have G : zS T A s.heap s [z0_, wg0_, wwA, wt, [zO10 xo t im mk rd po co tr wa wb_ fi cd], w2_309, w2_293, z1_, wg1_] _ _ := G
        have h39 := h_315
        refine lv_aload_n hx hb dX11_fit_77 rfl (lv_at hl 2 rfl) ?_
        refine z_get C G clX11 4 rfl 9 (by decide) m_fl_RX11_65 rfl dX11_fit_78 ?_
        refine lv_iload_n hx hb dX11_fit_81 rfl (lv_at hl 3 rfl) ?_
        refine zEx2 h_314 ?_
        intro a1_317 a2_318 hbs9
        clear h_314
        subst hbs9
        have G : zS T A s.heap s [z0_, wg0_, wwA, wt, [zO10 xo t im mk rd po co tr wa wb_ fi cd], [zO3 fi e0f e1f e2f s3_310 s4_311 s5_312 a1_317 a2_318], [zAr T 0 a1_317 (zFl m1f wy2_295) g1_313], [zAr T 0 a2_318 7 r2f], w2_293, z1_, wg1_] _ _ := G.re rfl
        refine z_put C G clX3 5 rfl 1 (by decide) m_fl_RX11_292 rfl rfl rfl (Nat.le_of_ble_eq_true rfl) dX11_fit_82 (fun H locs G => ?_)
        have G : zS T A s.heap s [z0_, wg0_, wwA, wt, [zO10 xo t im mk rd po co tr wa wb_ fi cd], [zO3 fi e0f i1 e2f s3_310 s4_311 s5_312 a1_317 a2_318], [zAr T 0 a1_317 (zFl m1f wy2_295) g1_313], [zAr T 0 a2_318 7 r2f], w2_293, z1_, wg1_] _ _ := G
        refine lv_aload_n hx hb dX11_fit_85 rfl (lv_at hl 2 rfl) ?_
        refine z_get C G clX11 4 rfl 9 (by decide) m_fl_RX11_65 rfl dX11_fit_86 ?_
        refine lv_iload_n hx hb dX11_fit_89 rfl (lv_at hl 4 rfl) ?_
        refine z_put C G clX3 5 rfl 2 (by decide) m_fl_RX11_295 rfl rfl rfl (Nat.le_of_ble_eq_true rfl) dX11_fit_90 (fun H locs G => ?_)
        have G : zS T A s.heap s [z0_, wg0_, wwA, wt, [zO10 xo t im mk rd po co tr wa wb_ fi cd], [zO3 fi e0f i1 i2 s3_310 s4_311 s5_312 a1_317 a2_318], [zAr T 0 a1_317 (zFl m1f wy2_295) g1_313], [zAr T 0 a2_318 7 r2f], w2_293, z1_, wg1_] _ _ := G
        refine lv_aload_n hx hb dX11_fit_93 rfl (lv_at hl 2 rfl) ?_
        refine z_get C G clX11 4 rfl 9 (by decide) m_fl_RX11_65 rfl dX11_fit_94 ?_
        refine lv_iconst (v := 1) hx hb dX11_fit_97 (by decide) ?_
        refine z_put C G clX3 5 rfl 0 (by decide) m_fl_RX11_109 rfl rfl rfl (Nat.le_of_ble_eq_true rfl) dX11_fit_98 (fun H locs G => ?_)
        have G : zS T A s.heap s [z0_, wg0_, wwA, wt, [zO10 xo t im mk rd po co tr wa wb_ fi cd], [zO3 fi 1 i1 i2 s3_310 s4_311 s5_312 a1_317 a2_318], [zAr T 0 a1_317 (zFl m1f wy2_295) g1_313], [zAr T 0 a2_318 7 r2f], w2_293, z1_, wg1_] _ _ := G
        refine lv_iconst (v := 1) hx hb dX11_fit_101 (by decide) ?_
        have hw_319 : bFit T fi 1 i1 i2 s3_310 s4_311 s5_312 g1_313 (zFl m1f wy2_295) r2f [zO3 fi 1 i1 i2 s3_310 s4_311 s5_312 a1_317 a2_318, zAr T 0 a1_317 (zFl m1f wy2_295) g1_313, zAr T 0 a2_318 7 r2f] := ⟨a1_317, a2_318, rfl⟩
        have G : zS T A s.heap s [z0_, wg0_, wwA, wt, [zO10 xo t im mk rd po co tr wa wb_ fi cd], [zO3 fi 1 i1 i2 s3_310 s4_311 s5_312 a1_317 a2_318, zAr T 0 a1_317 (zFl m1f wy2_295) g1_313, zAr T 0 a2_318 7 r2f], w2_293, z1_, wg1_] _ _ := G.re rfl
        have G := G.sub (bs' := [[zO10 xo t im mk rd po co tr wa wb_ fi cd], wt, z0_, z1_, wg0_, wg1_, wwA, w2_293, [zO3 fi 1 i1 i2 s3_310 s4_311 s5_312 a1_317 a2_318, zAr T 0 a1_317 (zFl m1f wy2_295) g1_313, zAr T 0 a2_318 7 r2f]]) [4, 3, 0, 7, 1, 8, 2, 6, 5] rfl
        exact z_back hQz_ (z_zret C hr hlocks G (Nat.le_of_ble_eq_true rfl) (by omega) dX11_fit_102 rfl ⟨laA, mdA, wyA, pc_A, f1A, f2A, f3A, f4A, f5A, f6A, n4A, wwA, l1, m2_294, wy2_295, pc2_296, g1_297, g2_298, f3B, g4_299, g5_300, g6_301, (zMk mdB n4B (zPl cr1_ inn1_ k11_)), w2_293, 1, i1, i2, s3_310, s4_311, s5_312, g1_313, (zFl m1f wy2_295), r2f, ([zO3 fi 1 i1 i2 s3_310 s4_311 s5_312 a1_317 a2_318, zAr T 0 a1_317 (zFl m1f wy2_295) g1_313, zAr T 0 a2_318 7 r2f]), rfl, hwwA, hmdA, hwmA, (zNA_n (by omega)).symm, hpwA, (fun q => q), hTbA, h_303, (Or.inr rfl), hwy9, hNAm.symm, (zMk_pw hpwB), (fun _ => h_305), (Or.inr h_306), hw_319, hNF.symm, hfw9, h39, (Or.inr ⟨rfl, by omega, by decide, rfl⟩), (fun _ => Or.inr ⟨by omega, h_305⟩)⟩)
      · have c_292n : ¬ e0f.toInt = (0 : Int) := fun q => c_292 ((fa_eq _ _).mpr q)
        refine lv_aload_n hx hb dX11_fit_40 rfl (lv_at hl 2 rfl) ?_
        refine z_get C G clX11 0 rfl 9 (by decide) m_fl_RX11_65 rfl dX11_fit_41 ?_
        refine z_get C G clX3 7 rfl 1 (by decide) m_fl_RX11_292 rfl dX11_fit_44 ?_
        refine lv_iload_n hx hb dX11_fit_47 rfl (lv_at hl 3 rfl) ?_
        refine lv_icmp_ne (tgt := 62) hx hb dX11_fit_48 (by decide) (fun c_320 => ?_) (fun c_320 => ?_)
        · have c_320n : ¬ e1f.toInt = i1.toInt := fun q => c_320 ((fa_eq _ _).mpr q)
          refine lv_aload_n hx hb dX11_fit_62 rfl (lv_at hl 2 rfl) ?_
          refine z_get C G clX11 0 rfl 9 (by decide) m_fl_RX11_65 rfl dX11_fit_63 ?_
          refine lv_aload_n hx hb dX11_fit_66 rfl (lv_at hl 2 rfl) ?_
          refine lv_iload_n hx hb dX11_fit_67 rfl (lv_at hl 3 rfl) ?_
          refine lv_aload_n hx hb dX11_fit_68 rfl (lv_at hl 1 rfl) ?_
          have hcF : (i1.toInt = 1 ∧ 1 < (fk 0).toInt ∧ (0 ≤ i2.toInt ∧ i2.toInt < (fk 2).toInt ∧ i2.toInt < 2) ∧ (e0f.toInt = 0 ∨ ¬ e1f.toInt = i1.toInt ∨ ¬ e2f.toInt = i2.toInt)) := by omega
          have hcN : ¬ (i1.toInt = 0 ∧ 0 < (fk 0).toInt ∧ (0 ≤ i2.toInt ∧ i2.toInt < (fk 2).toInt ∧ i2.toInt < 2) ∧ (e0f.toInt = 0 ∨ ¬ e1f.toInt = i1.toInt ∨ ¬ e2f.toInt = i2.toInt)) := by omega
          have hNAm : zNA (i1.toInt = 1 ∧ 1 < (fk 0).toInt ∧ (0 ≤ i2.toInt ∧ i2.toInt < (fk 2).toInt ∧ i2.toInt < 2) ∧ (e0f.toInt = 0 ∨ ¬ e1f.toInt = i1.toInt ∨ ¬ e2f.toInt = i2.toInt)) mdB n4B (zPl cr1_ inn1_ k11_) = zMk mdB n4B (zPl cr1_ inn1_ k11_) := zNA_y hcF
          have hNAo : zNA (i1.toInt = 0 ∧ 0 < (fk 0).toInt ∧ (0 ≤ i2.toInt ∧ i2.toInt < (fk 2).toInt ∧ i2.toInt < 2) ∧ (e0f.toInt = 0 ∨ ¬ e1f.toInt = i1.toInt ∨ ¬ e2f.toInt = i2.toInt)) mdA n4A (zPl cr0_ inn0_ k10_) = n4A := zNA_n hcN
          have hn9 : zMk mdB n4B (zPl cr1_ inn1_ k11_) ≤ 131072 := zPw_le (zMk_pw hpwB)
          refine z_Vq (bc := [[zO10 xo t im mk rd po co tr wa wb_ fi cd], wwB, z1_]) (br := [z0_, wg0_, wg1_, wwA, [zO3 fi e0f e1f e2f e3f e4f e5f a1_290 a2_291], [zAr T 0 a1_290 m1f r1f], [zAr T 0 a2_291 7 r2f], wt]) (As := [.int i1, .ref l1]) (rest := [.ref fi]) C G (c_f_waysInB l T xo t im mk rd po co tr wa wb_ fi cd i1 laB mdB wyB pc_B f1B f2B f3B f4B f5B f6B n4B wwB l1 cr1_ inn1_ k11_ k21_ k31_ k41_ z1_ hwwB hz1_ hI1_ hpwB hmdB (kaOk hI1_ hLq1).1 hTbB (by omega)) (kV_RX11_235 C.2.2.2.2 (Nat.le_of_ble_eq_true rfl) (Nat.le_of_ble_eq_true rfl)) [0, 6, 2] [0, 1, 3] rfl rfl (ci := 10) (qc := (RX11, TX11, 11)) rfl rfl (List.mem_flatten.mpr ⟨_, List.mem_of_getElem? (i := 0) rfl, List.mem_cons_self⟩) rfl rfl hl.1 dX11_fit_69 (Nat.le_of_ble_eq_true rfl) (by show _ + (6 * (zMk mdB n4B (zPl cr1_ inn1_ k11_) - n4B)) ≤ 6 * (zNA (i1.toInt = 0 ∧ 0 < (fk 0).toInt ∧ (0 ≤ i2.toInt ∧ i2.toInt < (fk 2).toInt ∧ i2.toInt < 2) ∧ (e0f.toInt = 0 ∨ ¬ e1f.toInt = i1.toInt ∨ ¬ e2f.toInt = i2.toInt)) mdA n4A (zPl cr0_ inn0_ k10_) - n4A) + 6 * (zNA (i1.toInt = 1 ∧ 1 < (fk 0).toInt ∧ (0 ≤ i2.toInt ∧ i2.toInt < (fk 2).toInt ∧ i2.toInt < 2) ∧ (e0f.toInt = 0 ∨ ¬ e1f.toInt = i1.toInt ∨ ¬ e2f.toInt = i2.toInt)) mdB n4B (zPl cr1_ inn1_ k11_) - n4B) + 2 * (zNF (i1.toInt = 1 ∧ 1 < (fk 0).toInt ∧ (0 ≤ i2.toInt ∧ i2.toInt < (fk 2).toInt ∧ i2.toInt < 2) ∧ (e0f.toInt = 0 ∨ ¬ e1f.toInt = i1.toInt ∨ ¬ e2f.toInt = i2.toInt)) (zNF (i1.toInt = 0 ∧ 0 < (fk 0).toInt ∧ (0 ≤ i2.toInt ∧ i2.toInt < (fk 2).toInt ∧ i2.toInt < 2) ∧ (e0f.toInt = 0 ∨ ¬ e1f.toInt = i1.toInt ∨ ¬ e2f.toInt = i2.toInt)) m1f (zMw mdA wyA cr0_ inn0_ k10_)) (zMw mdB wyB cr1_ inn1_ k11_) - m1f); omega) (fun r_335 b1 H locs hw G => ?_)
          refine zEx9 hw ?_
          intro w2_321 m2_322 wy2_323 pc2_324 g1_325 g2_326 g4_327 g5_328 g6_329
          refine zCu6 ?_
          intro hbs9 h_330 h_331 h_332 h_333 h_334
          clear hw
          subst hbs9
          have G : zS T A s.heap s [z0_, wg0_, wg1_, wwA, [zO3 fi e0f e1f e2f e3f e4f e5f a1_290 a2_291], [zAr T 0 a1_290 m1f r1f], [zAr T 0 a2_291 7 r2f], wt, [zO10 xo t im mk rd po co tr wa wb_ fi cd], w2_321, z1_] _ _ := G
          subst h_330
          have hwy9 : 0 ≤ wy2_323.toInt ∧ wy2_323.toInt ≤ 16384 := by have q9 := zWy_in (inn := inn1_) hI1_; rw [h_332]; exact ⟨by omega, q9.2⟩
          have hmw9 : wy2_323 = (zMw mdB wyB cr1_ inn1_ k11_) := by unfold zMw; by_cases q9 : mdB = 0 <;> first | (rw [if_pos q9]; exact h_332) | (rw [if_neg q9]; exact h_332.trans ((hTbB.resolve_left q9).1).symm)
          have hNF : zNF (i1.toInt = 1 ∧ 1 < (fk 0).toInt ∧ (0 ≤ i2.toInt ∧ i2.toInt < (fk 2).toInt ∧ i2.toInt < 2) ∧ (e0f.toInt = 0 ∨ ¬ e1f.toInt = i1.toInt ∨ ¬ e2f.toInt = i2.toInt)) (zNF (i1.toInt = 0 ∧ 0 < (fk 0).toInt ∧ (0 ≤ i2.toInt ∧ i2.toInt < (fk 2).toInt ∧ i2.toInt < 2) ∧ (e0f.toInt = 0 ∨ ¬ e1f.toInt = i1.toInt ∨ ¬ e2f.toInt = i2.toInt)) m1f (zMw mdA wyA cr0_ inn0_ k10_)) (zMw mdB wyB cr1_ inn1_ k11_) = zFl m1f wy2_323 := by rw [zNF_y (c := (i1.toInt = 1 ∧ 1 < (fk 0).toInt ∧ (0 ≤ i2.toInt ∧ i2.toInt < (fk 2).toInt ∧ i2.toInt < 2) ∧ (e0f.toInt = 0 ∨ ¬ e1f.toInt = i1.toInt ∨ ¬ e2f.toInt = i2.toInt))) hcF, zNF_n (c := (i1.toInt = 0 ∧ 0 < (fk 0).toInt ∧ (0 ≤ i2.toInt ∧ i2.toInt < (fk 2).toInt ∧ i2.toInt < 2) ∧ (e0f.toInt = 0 ∨ ¬ e1f.toInt = i1.toInt ∨ ¬ e2f.toInt = i2.toInt))) hcN, hmw9]
          have hfw9 := zFl_pw (wy := wy2_323) hfw
          refine lv_aload hx hb dX11_fit_72 (lv_at hl 0 rfl) ?_
          have hw_336 : bFit T fi e0f e1f e2f e3f e4f e5f r1f m1f r2f [zO3 fi e0f e1f e2f e3f e4f e5f a1_290 a2_291, zAr T 0 a1_290 m1f r1f, zAr T 0 a2_291 7 r2f] := ⟨a1_290, a2_291, rfl⟩
          have G : zS T A s.heap s [z0_, wg0_, wg1_, wwA, [zO3 fi e0f e1f e2f e3f e4f e5f a1_290 a2_291, zAr T 0 a1_290 m1f r1f, zAr T 0 a2_291 7 r2f], wt, [zO10 xo t im mk rd po co tr wa wb_ fi cd], w2_321, z1_] _ _ := G.re rfl
          refine z_Vv (bc := [[zO3 fi e0f e1f e2f e3f e4f e5f a1_290 a2_291, zAr T 0 a1_290 m1f r1f, zAr T 0 a2_291 7 r2f], w2_321, z1_, wg1_]) (br := [z0_, wg0_, wwA, wt, [zO10 xo t im mk rd po co tr wa wb_ fi cd]]) (As := [.ref wb_, .ref g1]) (rest := []) C G (c_find l T fi e0f e1f e2f e3f e4f e5f r1f m1f r2f ([zO3 fi e0f e1f e2f e3f e4f e5f a1_290 a2_291, zAr T 0 a1_290 m1f r1f, zAr T 0 a2_291 7 r2f]) wb_ l1 m2_322 wy2_323 pc2_324 g1_325 g2_326 f3B g4_327 g5_328 g6_329 (zMk mdB n4B (zPl cr1_ inn1_ k11_)) w2_321 cr1_ inn1_ k11_ k21_ k31_ k41_ z1_ g1 gg1_ q11_ q21_ wg1_ hw_336 h_331 hz1_ hg1_ hn9 hfw hwy9) (kV_RX11_298 C.2.2.2.2 (Nat.le_of_ble_eq_true rfl) (Nat.le_of_ble_eq_true rfl)) [4, 7, 8, 2] [2, 1, 2, 0] rfl rfl (ci := 3) (qc := (RX3, TX3, 8)) rfl rfl (List.mem_flatten.mpr ⟨_, List.mem_of_getElem? (i := 0) rfl, (bFit_mem hw_336).choose_spec⟩) rfl rfl hl.1 dX11_fit_74 (Nat.le_of_ble_eq_true rfl) (by show _ + (2 * (zFl m1f wy2_323 - m1f)) ≤ 6 * (zNA (i1.toInt = 0 ∧ 0 < (fk 0).toInt ∧ (0 ≤ i2.toInt ∧ i2.toInt < (fk 2).toInt ∧ i2.toInt < 2) ∧ (e0f.toInt = 0 ∨ ¬ e1f.toInt = i1.toInt ∨ ¬ e2f.toInt = i2.toInt)) mdA n4A (zPl cr0_ inn0_ k10_) - n4A) + 6 * (zNA (i1.toInt = 1 ∧ 1 < (fk 0).toInt ∧ (0 ≤ i2.toInt ∧ i2.toInt < (fk 2).toInt ∧ i2.toInt < 2) ∧ (e0f.toInt = 0 ∨ ¬ e1f.toInt = i1.toInt ∨ ¬ e2f.toInt = i2.toInt)) mdB n4B (zPl cr1_ inn1_ k11_) - n4B) + 2 * (zNF (i1.toInt = 1 ∧ 1 < (fk 0).toInt ∧ (0 ≤ i2.toInt ∧ i2.toInt < (fk 2).toInt ∧ i2.toInt < 2) ∧ (e0f.toInt = 0 ∨ ¬ e1f.toInt = i1.toInt ∨ ¬ e2f.toInt = i2.toInt)) (zNF (i1.toInt = 0 ∧ 0 < (fk 0).toInt ∧ (0 ≤ i2.toInt ∧ i2.toInt < (fk 2).toInt ∧ i2.toInt < 2) ∧ (e0f.toInt = 0 ∨ ¬ e1f.toInt = i1.toInt ∨ ¬ e2f.toInt = i2.toInt)) m1f (zMw mdA wyA cr0_ inn0_ k10_)) (zMw mdB wyB cr1_ inn1_ k11_) - m1f); omega) (fun b1 H locs hw G => ?_)
          refine zEx5 hw ?_
          intro w2_337 s3_338 s4_339 s5_340 g1_341
          refine zCu3 ?_
          intro hbs9 h_342 h_343
          clear hw
          subst hbs9
          have G : zS T A s.heap s [z0_, wg0_, wwA, wt, [zO10 xo t im mk rd po co tr wa wb_ fi cd], w2_337, w2_321, z1_, wg1_] _ _ := G
          have h39 := h_343
          refine lv_aload_n hx hb dX11_fit_77 rfl (lv_at hl 2 rfl) ?_
          refine z_get C G clX11 4 rfl 9 (by decide) m_fl_RX11_65 rfl dX11_fit_78 ?_
          refine lv_iload_n hx hb dX11_fit_81 rfl (lv_at hl 3 rfl) ?_
          refine zEx2 h_342 ?_
          intro a1_345 a2_346 hbs9
          clear h_342
          subst hbs9
          have G : zS T A s.heap s [z0_, wg0_, wwA, wt, [zO10 xo t im mk rd po co tr wa wb_ fi cd], [zO3 fi e0f e1f e2f s3_338 s4_339 s5_340 a1_345 a2_346], [zAr T 0 a1_345 (zFl m1f wy2_323) g1_341], [zAr T 0 a2_346 7 r2f], w2_321, z1_, wg1_] _ _ := G.re rfl
          refine z_put C G clX3 5 rfl 1 (by decide) m_fl_RX11_292 rfl rfl rfl (Nat.le_of_ble_eq_true rfl) dX11_fit_82 (fun H locs G => ?_)
          have G : zS T A s.heap s [z0_, wg0_, wwA, wt, [zO10 xo t im mk rd po co tr wa wb_ fi cd], [zO3 fi e0f i1 e2f s3_338 s4_339 s5_340 a1_345 a2_346], [zAr T 0 a1_345 (zFl m1f wy2_323) g1_341], [zAr T 0 a2_346 7 r2f], w2_321, z1_, wg1_] _ _ := G
          refine lv_aload_n hx hb dX11_fit_85 rfl (lv_at hl 2 rfl) ?_
          refine z_get C G clX11 4 rfl 9 (by decide) m_fl_RX11_65 rfl dX11_fit_86 ?_
          refine lv_iload_n hx hb dX11_fit_89 rfl (lv_at hl 4 rfl) ?_
          refine z_put C G clX3 5 rfl 2 (by decide) m_fl_RX11_295 rfl rfl rfl (Nat.le_of_ble_eq_true rfl) dX11_fit_90 (fun H locs G => ?_)
          have G : zS T A s.heap s [z0_, wg0_, wwA, wt, [zO10 xo t im mk rd po co tr wa wb_ fi cd], [zO3 fi e0f i1 i2 s3_338 s4_339 s5_340 a1_345 a2_346], [zAr T 0 a1_345 (zFl m1f wy2_323) g1_341], [zAr T 0 a2_346 7 r2f], w2_321, z1_, wg1_] _ _ := G
          refine lv_aload_n hx hb dX11_fit_93 rfl (lv_at hl 2 rfl) ?_
          refine z_get C G clX11 4 rfl 9 (by decide) m_fl_RX11_65 rfl dX11_fit_94 ?_
          refine lv_iconst (v := 1) hx hb dX11_fit_97 (by decide) ?_
          refine z_put C G clX3 5 rfl 0 (by decide) m_fl_RX11_109 rfl rfl rfl (Nat.le_of_ble_eq_true rfl) dX11_fit_98 (fun H locs G => ?_)
          have G : zS T A s.heap s [z0_, wg0_, wwA, wt, [zO10 xo t im mk rd po co tr wa wb_ fi cd], [zO3 fi 1 i1 i2 s3_338 s4_339 s5_340 a1_345 a2_346], [zAr T 0 a1_345 (zFl m1f wy2_323) g1_341], [zAr T 0 a2_346 7 r2f], w2_321, z1_, wg1_] _ _ := G
          refine lv_iconst (v := 1) hx hb dX11_fit_101 (by decide) ?_
          have hw_347 : bFit T fi 1 i1 i2 s3_338 s4_339 s5_340 g1_341 (zFl m1f wy2_323) r2f [zO3 fi 1 i1 i2 s3_338 s4_339 s5_340 a1_345 a2_346, zAr T 0 a1_345 (zFl m1f wy2_323) g1_341, zAr T 0 a2_346 7 r2f] := ⟨a1_345, a2_346, rfl⟩
          have G : zS T A s.heap s [z0_, wg0_, wwA, wt, [zO10 xo t im mk rd po co tr wa wb_ fi cd], [zO3 fi 1 i1 i2 s3_338 s4_339 s5_340 a1_345 a2_346, zAr T 0 a1_345 (zFl m1f wy2_323) g1_341, zAr T 0 a2_346 7 r2f], w2_321, z1_, wg1_] _ _ := G.re rfl
          have G := G.sub (bs' := [[zO10 xo t im mk rd po co tr wa wb_ fi cd], wt, z0_, z1_, wg0_, wg1_, wwA, w2_321, [zO3 fi 1 i1 i2 s3_338 s4_339 s5_340 a1_345 a2_346, zAr T 0 a1_345 (zFl m1f wy2_323) g1_341, zAr T 0 a2_346 7 r2f]]) [4, 3, 0, 7, 1, 8, 2, 6, 5] rfl
          exact z_back hQz_ (z_zret C hr hlocks G (Nat.le_of_ble_eq_true rfl) (by omega) dX11_fit_102 rfl ⟨laA, mdA, wyA, pc_A, f1A, f2A, f3A, f4A, f5A, f6A, n4A, wwA, l1, m2_322, wy2_323, pc2_324, g1_325, g2_326, f3B, g4_327, g5_328, g6_329, (zMk mdB n4B (zPl cr1_ inn1_ k11_)), w2_321, 1, i1, i2, s3_338, s4_339, s5_340, g1_341, (zFl m1f wy2_323), r2f, ([zO3 fi 1 i1 i2 s3_338 s4_339 s5_340 a1_345 a2_346, zAr T 0 a1_345 (zFl m1f wy2_323) g1_341, zAr T 0 a2_346 7 r2f]), rfl, hwwA, hmdA, hwmA, (zNA_n (by omega)).symm, hpwA, (fun q => q), hTbA, h_331, (Or.inr rfl), hwy9, hNAm.symm, (zMk_pw hpwB), (fun _ => h_333), (Or.inr h_334), hw_347, hNF.symm, hfw9, h39, (Or.inr ⟨rfl, by omega, by decide, rfl⟩), (fun _ => Or.inr ⟨by omega, h_333⟩)⟩)
        · have c_320n : e1f.toInt = i1.toInt := (fa_eq _ _).mp c_320
          refine lv_aload_n hx hb dX11_fit_51 rfl (lv_at hl 2 rfl) ?_
          refine z_get C G clX11 0 rfl 9 (by decide) m_fl_RX11_65 rfl dX11_fit_52 ?_
          refine z_get C G clX3 7 rfl 2 (by decide) m_fl_RX11_295 rfl dX11_fit_55 ?_
          refine lv_iload_n hx hb dX11_fit_58 rfl (lv_at hl 4 rfl) ?_
          refine lv_icmp_eq (tgt := 101) hx hb dX11_fit_59 (by decide) (fun c_348 => ?_) (fun c_348 => ?_)
          · have c_348n : e2f.toInt = i2.toInt := (fa_eq _ _).mp c_348
            refine lv_iconst (v := 1) hx hb dX11_fit_101 (by decide) ?_
            have hw_349 : bFit T fi e0f e1f e2f e3f e4f e5f r1f m1f r2f [zO3 fi e0f e1f e2f e3f e4f e5f a1_290 a2_291, zAr T 0 a1_290 m1f r1f, zAr T 0 a2_291 7 r2f] := ⟨a1_290, a2_291, rfl⟩
            have G : zS T A s.heap s [[zO10 xo t im mk rd po co tr wa wb_ fi cd], z0_, z1_, wg0_, wg1_, wwA, wwB, [zO3 fi e0f e1f e2f e3f e4f e5f a1_290 a2_291, zAr T 0 a1_290 m1f r1f, zAr T 0 a2_291 7 r2f], wt] _ _ := G.re rfl
            have G := G.sub (bs' := [[zO10 xo t im mk rd po co tr wa wb_ fi cd], wt, z0_, z1_, wg0_, wg1_, wwA, wwB, [zO3 fi e0f e1f e2f e3f e4f e5f a1_290 a2_291, zAr T 0 a1_290 m1f r1f, zAr T 0 a2_291 7 r2f]]) [0, 8, 1, 2, 3, 4, 5, 6, 7] rfl
            exact z_back hQz_ (z_zret C hr hlocks G (Nat.le_of_ble_eq_true rfl) (by omega) dX11_fit_102 rfl ⟨laA, mdA, wyA, pc_A, f1A, f2A, f3A, f4A, f5A, f6A, n4A, wwA, laB, mdB, wyB, pc_B, f1B, f2B, f3B, f4B, f5B, f6B, n4B, wwB, e0f, e1f, e2f, e3f, e4f, e5f, r1f, m1f, r2f, ([zO3 fi e0f e1f e2f e3f e4f e5f a1_290 a2_291, zAr T 0 a1_290 m1f r1f, zAr T 0 a2_291 7 r2f]), rfl, hwwA, hmdA, hwmA, (zNA_n (by omega)).symm, hpwA, (fun q => q), hTbA, hwwB, hmdB, hwmB, (zNA_n (by omega)).symm, hpwB, (fun q => q), hTbB, hw_349, (((zNF_n (c := (i1.toInt = 1 ∧ 1 < (fk 0).toInt ∧ (0 ≤ i2.toInt ∧ i2.toInt < (fk 2).toInt ∧ i2.toInt < 2) ∧ (e0f.toInt = 0 ∨ ¬ e1f.toInt = i1.toInt ∨ ¬ e2f.toInt = i2.toInt))) (by omega)).trans (zNF_n (by omega))).symm), hfw, hf3, (Or.inr ⟨rfl, by omega, (fun q => absurd (congrArg Int32.toInt q) (by show ¬ _ = (0 : Int); omega)), by omega⟩), hFI⟩)
          · have c_348n : ¬ e2f.toInt = i2.toInt := fun q => c_348 ((fa_eq _ _).mpr q)
            refine lv_aload_n hx hb dX11_fit_62 rfl (lv_at hl 2 rfl) ?_
            refine z_get C G clX11 0 rfl 9 (by decide) m_fl_RX11_65 rfl dX11_fit_63 ?_
            refine lv_aload_n hx hb dX11_fit_66 rfl (lv_at hl 2 rfl) ?_
            refine lv_iload_n hx hb dX11_fit_67 rfl (lv_at hl 3 rfl) ?_
            refine lv_aload_n hx hb dX11_fit_68 rfl (lv_at hl 1 rfl) ?_
            have hcF : (i1.toInt = 1 ∧ 1 < (fk 0).toInt ∧ (0 ≤ i2.toInt ∧ i2.toInt < (fk 2).toInt ∧ i2.toInt < 2) ∧ (e0f.toInt = 0 ∨ ¬ e1f.toInt = i1.toInt ∨ ¬ e2f.toInt = i2.toInt)) := by omega
            have hcN : ¬ (i1.toInt = 0 ∧ 0 < (fk 0).toInt ∧ (0 ≤ i2.toInt ∧ i2.toInt < (fk 2).toInt ∧ i2.toInt < 2) ∧ (e0f.toInt = 0 ∨ ¬ e1f.toInt = i1.toInt ∨ ¬ e2f.toInt = i2.toInt)) := by omega
            have hNAm : zNA (i1.toInt = 1 ∧ 1 < (fk 0).toInt ∧ (0 ≤ i2.toInt ∧ i2.toInt < (fk 2).toInt ∧ i2.toInt < 2) ∧ (e0f.toInt = 0 ∨ ¬ e1f.toInt = i1.toInt ∨ ¬ e2f.toInt = i2.toInt)) mdB n4B (zPl cr1_ inn1_ k11_) = zMk mdB n4B (zPl cr1_ inn1_ k11_) := zNA_y hcF
            have hNAo : zNA (i1.toInt = 0 ∧ 0 < (fk 0).toInt ∧ (0 ≤ i2.toInt ∧ i2.toInt < (fk 2).toInt ∧ i2.toInt < 2) ∧ (e0f.toInt = 0 ∨ ¬ e1f.toInt = i1.toInt ∨ ¬ e2f.toInt = i2.toInt)) mdA n4A (zPl cr0_ inn0_ k10_) = n4A := zNA_n hcN
            have hn9 : zMk mdB n4B (zPl cr1_ inn1_ k11_) ≤ 131072 := zPw_le (zMk_pw hpwB)
            refine z_Vq (bc := [[zO10 xo t im mk rd po co tr wa wb_ fi cd], wwB, z1_]) (br := [z0_, wg0_, wg1_, wwA, [zO3 fi e0f e1f e2f e3f e4f e5f a1_290 a2_291], [zAr T 0 a1_290 m1f r1f], [zAr T 0 a2_291 7 r2f], wt]) (As := [.int i1, .ref l1]) (rest := [.ref fi]) C G (c_f_waysInB l T xo t im mk rd po co tr wa wb_ fi cd i1 laB mdB wyB pc_B f1B f2B f3B f4B f5B f6B n4B wwB l1 cr1_ inn1_ k11_ k21_ k31_ k41_ z1_ hwwB hz1_ hI1_ hpwB hmdB (kaOk hI1_ hLq1).1 hTbB (by omega)) (kV_RX11_235 C.2.2.2.2 (Nat.le_of_ble_eq_true rfl) (Nat.le_of_ble_eq_true rfl)) [0, 6, 2] [0, 1, 3] rfl rfl (ci := 10) (qc := (RX11, TX11, 11)) rfl rfl (List.mem_flatten.mpr ⟨_, List.mem_of_getElem? (i := 0) rfl, List.mem_cons_self⟩) rfl rfl hl.1 dX11_fit_69 (Nat.le_of_ble_eq_true rfl) (by show _ + (6 * (zMk mdB n4B (zPl cr1_ inn1_ k11_) - n4B)) ≤ 6 * (zNA (i1.toInt = 0 ∧ 0 < (fk 0).toInt ∧ (0 ≤ i2.toInt ∧ i2.toInt < (fk 2).toInt ∧ i2.toInt < 2) ∧ (e0f.toInt = 0 ∨ ¬ e1f.toInt = i1.toInt ∨ ¬ e2f.toInt = i2.toInt)) mdA n4A (zPl cr0_ inn0_ k10_) - n4A) + 6 * (zNA (i1.toInt = 1 ∧ 1 < (fk 0).toInt ∧ (0 ≤ i2.toInt ∧ i2.toInt < (fk 2).toInt ∧ i2.toInt < 2) ∧ (e0f.toInt = 0 ∨ ¬ e1f.toInt = i1.toInt ∨ ¬ e2f.toInt = i2.toInt)) mdB n4B (zPl cr1_ inn1_ k11_) - n4B) + 2 * (zNF (i1.toInt = 1 ∧ 1 < (fk 0).toInt ∧ (0 ≤ i2.toInt ∧ i2.toInt < (fk 2).toInt ∧ i2.toInt < 2) ∧ (e0f.toInt = 0 ∨ ¬ e1f.toInt = i1.toInt ∨ ¬ e2f.toInt = i2.toInt)) (zNF (i1.toInt = 0 ∧ 0 < (fk 0).toInt ∧ (0 ≤ i2.toInt ∧ i2.toInt < (fk 2).toInt ∧ i2.toInt < 2) ∧ (e0f.toInt = 0 ∨ ¬ e1f.toInt = i1.toInt ∨ ¬ e2f.toInt = i2.toInt)) m1f (zMw mdA wyA cr0_ inn0_ k10_)) (zMw mdB wyB cr1_ inn1_ k11_) - m1f); omega) (fun r_364 b1 H locs hw G => ?_)
            refine zEx9 hw ?_
            intro w2_350 m2_351 wy2_352 pc2_353 g1_354 g2_355 g4_356 g5_357 g6_358
            refine zCu6 ?_
            intro hbs9 h_359 h_360 h_361 h_362 h_363
            clear hw
            subst hbs9
            have G : zS T A s.heap s [z0_, wg0_, wg1_, wwA, [zO3 fi e0f e1f e2f e3f e4f e5f a1_290 a2_291], [zAr T 0 a1_290 m1f r1f], [zAr T 0 a2_291 7 r2f], wt, [zO10 xo t im mk rd po co tr wa wb_ fi cd], w2_350, z1_] _ _ := G
            subst h_359
            have hwy9 : 0 ≤ wy2_352.toInt ∧ wy2_352.toInt ≤ 16384 := by have q9 := zWy_in (inn := inn1_) hI1_; rw [h_361]; exact ⟨by omega, q9.2⟩
            have hmw9 : wy2_352 = (zMw mdB wyB cr1_ inn1_ k11_) := by unfold zMw; by_cases q9 : mdB = 0 <;> first | (rw [if_pos q9]; exact h_361) | (rw [if_neg q9]; exact h_361.trans ((hTbB.resolve_left q9).1).symm)
            have hNF : zNF (i1.toInt = 1 ∧ 1 < (fk 0).toInt ∧ (0 ≤ i2.toInt ∧ i2.toInt < (fk 2).toInt ∧ i2.toInt < 2) ∧ (e0f.toInt = 0 ∨ ¬ e1f.toInt = i1.toInt ∨ ¬ e2f.toInt = i2.toInt)) (zNF (i1.toInt = 0 ∧ 0 < (fk 0).toInt ∧ (0 ≤ i2.toInt ∧ i2.toInt < (fk 2).toInt ∧ i2.toInt < 2) ∧ (e0f.toInt = 0 ∨ ¬ e1f.toInt = i1.toInt ∨ ¬ e2f.toInt = i2.toInt)) m1f (zMw mdA wyA cr0_ inn0_ k10_)) (zMw mdB wyB cr1_ inn1_ k11_) = zFl m1f wy2_352 := by rw [zNF_y (c := (i1.toInt = 1 ∧ 1 < (fk 0).toInt ∧ (0 ≤ i2.toInt ∧ i2.toInt < (fk 2).toInt ∧ i2.toInt < 2) ∧ (e0f.toInt = 0 ∨ ¬ e1f.toInt = i1.toInt ∨ ¬ e2f.toInt = i2.toInt))) hcF, zNF_n (c := (i1.toInt = 0 ∧ 0 < (fk 0).toInt ∧ (0 ≤ i2.toInt ∧ i2.toInt < (fk 2).toInt ∧ i2.toInt < 2) ∧ (e0f.toInt = 0 ∨ ¬ e1f.toInt = i1.toInt ∨ ¬ e2f.toInt = i2.toInt))) hcN, hmw9]
            have hfw9 := zFl_pw (wy := wy2_352) hfw
            refine lv_aload hx hb dX11_fit_72 (lv_at hl 0 rfl) ?_
            have hw_365 : bFit T fi e0f e1f e2f e3f e4f e5f r1f m1f r2f [zO3 fi e0f e1f e2f e3f e4f e5f a1_290 a2_291, zAr T 0 a1_290 m1f r1f, zAr T 0 a2_291 7 r2f] := ⟨a1_290, a2_291, rfl⟩
            have G : zS T A s.heap s [z0_, wg0_, wg1_, wwA, [zO3 fi e0f e1f e2f e3f e4f e5f a1_290 a2_291, zAr T 0 a1_290 m1f r1f, zAr T 0 a2_291 7 r2f], wt, [zO10 xo t im mk rd po co tr wa wb_ fi cd], w2_350, z1_] _ _ := G.re rfl
            refine z_Vv (bc := [[zO3 fi e0f e1f e2f e3f e4f e5f a1_290 a2_291, zAr T 0 a1_290 m1f r1f, zAr T 0 a2_291 7 r2f], w2_350, z1_, wg1_]) (br := [z0_, wg0_, wwA, wt, [zO10 xo t im mk rd po co tr wa wb_ fi cd]]) (As := [.ref wb_, .ref g1]) (rest := []) C G (c_find l T fi e0f e1f e2f e3f e4f e5f r1f m1f r2f ([zO3 fi e0f e1f e2f e3f e4f e5f a1_290 a2_291, zAr T 0 a1_290 m1f r1f, zAr T 0 a2_291 7 r2f]) wb_ l1 m2_351 wy2_352 pc2_353 g1_354 g2_355 f3B g4_356 g5_357 g6_358 (zMk mdB n4B (zPl cr1_ inn1_ k11_)) w2_350 cr1_ inn1_ k11_ k21_ k31_ k41_ z1_ g1 gg1_ q11_ q21_ wg1_ hw_365 h_360 hz1_ hg1_ hn9 hfw hwy9) (kV_RX11_298 C.2.2.2.2 (Nat.le_of_ble_eq_true rfl) (Nat.le_of_ble_eq_true rfl)) [4, 7, 8, 2] [2, 1, 2, 0] rfl rfl (ci := 3) (qc := (RX3, TX3, 8)) rfl rfl (List.mem_flatten.mpr ⟨_, List.mem_of_getElem? (i := 0) rfl, (bFit_mem hw_365).choose_spec⟩) rfl rfl hl.1 dX11_fit_74 (Nat.le_of_ble_eq_true rfl) (by show _ + (2 * (zFl m1f wy2_352 - m1f)) ≤ 6 * (zNA (i1.toInt = 0 ∧ 0 < (fk 0).toInt ∧ (0 ≤ i2.toInt ∧ i2.toInt < (fk 2).toInt ∧ i2.toInt < 2) ∧ (e0f.toInt = 0 ∨ ¬ e1f.toInt = i1.toInt ∨ ¬ e2f.toInt = i2.toInt)) mdA n4A (zPl cr0_ inn0_ k10_) - n4A) + 6 * (zNA (i1.toInt = 1 ∧ 1 < (fk 0).toInt ∧ (0 ≤ i2.toInt ∧ i2.toInt < (fk 2).toInt ∧ i2.toInt < 2) ∧ (e0f.toInt = 0 ∨ ¬ e1f.toInt = i1.toInt ∨ ¬ e2f.toInt = i2.toInt)) mdB n4B (zPl cr1_ inn1_ k11_) - n4B) + 2 * (zNF (i1.toInt = 1 ∧ 1 < (fk 0).toInt ∧ (0 ≤ i2.toInt ∧ i2.toInt < (fk 2).toInt ∧ i2.toInt < 2) ∧ (e0f.toInt = 0 ∨ ¬ e1f.toInt = i1.toInt ∨ ¬ e2f.toInt = i2.toInt)) (zNF (i1.toInt = 0 ∧ 0 < (fk 0).toInt ∧ (0 ≤ i2.toInt ∧ i2.toInt < (fk 2).toInt ∧ i2.toInt < 2) ∧ (e0f.toInt = 0 ∨ ¬ e1f.toInt = i1.toInt ∨ ¬ e2f.toInt = i2.toInt)) m1f (zMw mdA wyA cr0_ inn0_ k10_)) (zMw mdB wyB cr1_ inn1_ k11_) - m1f); omega) (fun b1 H locs hw G => ?_)
            refine zEx5 hw ?_
            intro w2_366 s3_367 s4_368 s5_369 g1_370
            refine zCu3 ?_
            intro hbs9 h_371 h_372
            clear hw
            subst hbs9
            have G : zS T A s.heap s [z0_, wg0_, wwA, wt, [zO10 xo t im mk rd po co tr wa wb_ fi cd], w2_366, w2_350, z1_, wg1_] _ _ := G
            have h39 := h_372
            refine lv_aload_n hx hb dX11_fit_77 rfl (lv_at hl 2 rfl) ?_
            refine z_get C G clX11 4 rfl 9 (by decide) m_fl_RX11_65 rfl dX11_fit_78 ?_
            refine lv_iload_n hx hb dX11_fit_81 rfl (lv_at hl 3 rfl) ?_
            refine zEx2 h_371 ?_
            intro a1_374 a2_375 hbs9
            clear h_371
            subst hbs9
            have G : zS T A s.heap s [z0_, wg0_, wwA, wt, [zO10 xo t im mk rd po co tr wa wb_ fi cd], [zO3 fi e0f e1f e2f s3_367 s4_368 s5_369 a1_374 a2_375], [zAr T 0 a1_374 (zFl m1f wy2_352) g1_370], [zAr T 0 a2_375 7 r2f], w2_350, z1_, wg1_] _ _ := G.re rfl
            refine z_put C G clX3 5 rfl 1 (by decide) m_fl_RX11_292 rfl rfl rfl (Nat.le_of_ble_eq_true rfl) dX11_fit_82 (fun H locs G => ?_)
            have G : zS T A s.heap s [z0_, wg0_, wwA, wt, [zO10 xo t im mk rd po co tr wa wb_ fi cd], [zO3 fi e0f i1 e2f s3_367 s4_368 s5_369 a1_374 a2_375], [zAr T 0 a1_374 (zFl m1f wy2_352) g1_370], [zAr T 0 a2_375 7 r2f], w2_350, z1_, wg1_] _ _ := G
            refine lv_aload_n hx hb dX11_fit_85 rfl (lv_at hl 2 rfl) ?_
            refine z_get C G clX11 4 rfl 9 (by decide) m_fl_RX11_65 rfl dX11_fit_86 ?_
            refine lv_iload_n hx hb dX11_fit_89 rfl (lv_at hl 4 rfl) ?_
            refine z_put C G clX3 5 rfl 2 (by decide) m_fl_RX11_295 rfl rfl rfl (Nat.le_of_ble_eq_true rfl) dX11_fit_90 (fun H locs G => ?_)
            have G : zS T A s.heap s [z0_, wg0_, wwA, wt, [zO10 xo t im mk rd po co tr wa wb_ fi cd], [zO3 fi e0f i1 i2 s3_367 s4_368 s5_369 a1_374 a2_375], [zAr T 0 a1_374 (zFl m1f wy2_352) g1_370], [zAr T 0 a2_375 7 r2f], w2_350, z1_, wg1_] _ _ := G
            refine lv_aload_n hx hb dX11_fit_93 rfl (lv_at hl 2 rfl) ?_
            refine z_get C G clX11 4 rfl 9 (by decide) m_fl_RX11_65 rfl dX11_fit_94 ?_
            refine lv_iconst (v := 1) hx hb dX11_fit_97 (by decide) ?_
            refine z_put C G clX3 5 rfl 0 (by decide) m_fl_RX11_109 rfl rfl rfl (Nat.le_of_ble_eq_true rfl) dX11_fit_98 (fun H locs G => ?_)
            have G : zS T A s.heap s [z0_, wg0_, wwA, wt, [zO10 xo t im mk rd po co tr wa wb_ fi cd], [zO3 fi 1 i1 i2 s3_367 s4_368 s5_369 a1_374 a2_375], [zAr T 0 a1_374 (zFl m1f wy2_352) g1_370], [zAr T 0 a2_375 7 r2f], w2_350, z1_, wg1_] _ _ := G
            refine lv_iconst (v := 1) hx hb dX11_fit_101 (by decide) ?_
            have hw_376 : bFit T fi 1 i1 i2 s3_367 s4_368 s5_369 g1_370 (zFl m1f wy2_352) r2f [zO3 fi 1 i1 i2 s3_367 s4_368 s5_369 a1_374 a2_375, zAr T 0 a1_374 (zFl m1f wy2_352) g1_370, zAr T 0 a2_375 7 r2f] := ⟨a1_374, a2_375, rfl⟩
            have G : zS T A s.heap s [z0_, wg0_, wwA, wt, [zO10 xo t im mk rd po co tr wa wb_ fi cd], [zO3 fi 1 i1 i2 s3_367 s4_368 s5_369 a1_374 a2_375, zAr T 0 a1_374 (zFl m1f wy2_352) g1_370, zAr T 0 a2_375 7 r2f], w2_350, z1_, wg1_] _ _ := G.re rfl
            have G := G.sub (bs' := [[zO10 xo t im mk rd po co tr wa wb_ fi cd], wt, z0_, z1_, wg0_, wg1_, wwA, w2_350, [zO3 fi 1 i1 i2 s3_367 s4_368 s5_369 a1_374 a2_375, zAr T 0 a1_374 (zFl m1f wy2_352) g1_370, zAr T 0 a2_375 7 r2f]]) [4, 3, 0, 7, 1, 8, 2, 6, 5] rfl
            exact z_back hQz_ (z_zret C hr hlocks G (Nat.le_of_ble_eq_true rfl) (by omega) dX11_fit_102 rfl ⟨laA, mdA, wyA, pc_A, f1A, f2A, f3A, f4A, f5A, f6A, n4A, wwA, l1, m2_351, wy2_352, pc2_353, g1_354, g2_355, f3B, g4_356, g5_357, g6_358, (zMk mdB n4B (zPl cr1_ inn1_ k11_)), w2_350, 1, i1, i2, s3_367, s4_368, s5_369, g1_370, (zFl m1f wy2_352), r2f, ([zO3 fi 1 i1 i2 s3_367 s4_368 s5_369 a1_374 a2_375, zAr T 0 a1_374 (zFl m1f wy2_352) g1_370, zAr T 0 a2_375 7 r2f]), rfl, hwwA, hmdA, hwmA, (zNA_n (by omega)).symm, hpwA, (fun q => q), hTbA, h_360, (Or.inr rfl), hwy9, hNAm.symm, (zMk_pw hpwB), (fun _ => h_362), (Or.inr h_363), hw_376, hNF.symm, hfw9, h39, (Or.inr ⟨rfl, by omega, by decide, rfl⟩), (fun _ => Or.inr ⟨by omega, h_362⟩)⟩)
set_option maxHeartbeats 4000000 in
set_option maxRecDepth 100000 in
/-- c_t_least -/
theorem c_t_least (l : Launch) (T : zTy) (xo : Nat) (t : Nat) (im : Nat) (mk : Nat) (rd : Nat) (po : Nat) (co : Nat) (tr : Nat) (wa : Nat) (wb_ : Nat) (fi : Nat) (cd : Nat) (l0 : Nat) (l1 : Nat) (d0 : Nat) (d1 : Nat) (g0 : Nat) (g1 : Nat) (ln : Int32) (fl : Int32) (pl : Int32) (ft : Nat → Int32) (fk : Nat → Int32) (wt : va_W) (cr0_ : Int32) (inn0_ : Int32) (k10_ : Nat → Int32) (k20_ : Nat → Int32) (k30_ : Nat → Int32) (k40_ : Nat → Int32) (z0_ : va_W) (cr1_ : Int32) (inn1_ : Int32) (k11_ : Nat → Int32) (k21_ : Nat → Int32) (k31_ : Nat → Int32) (k41_ : Nat → Int32) (z1_ : va_W) (gg0_ : Int32) (q10_ : Nat → Int32) (q20_ : Nat → Int32) (wg0_ : va_W) (gg1_ : Int32) (q11_ : Nat → Int32) (q21_ : Nat → Int32) (wg1_ : va_W) (laA : Nat) (mdA : Int32) (wyA : Int32) (pc_A : Int32) (f1A : Nat → Int32) (f2A : Nat → Int32) (f3A : Nat → Int32) (f4A : Nat → Int32) (f5A : Nat → Int32) (f6A : Nat → Int32) (n4A : Nat) (wwA : va_W) (laB : Nat) (mdB : Int32) (wyB : Int32) (pc_B : Int32) (f1B : Nat → Int32) (f2B : Nat → Int32) (f3B : Nat → Int32) (f4B : Nat → Int32) (f5B : Nat → Int32) (f6B : Nat → Int32) (n4B : Nat) (wwB : va_W) (e0f : Int32) (e1f : Int32) (e2f : Int32) (e3f : Int32) (e4f : Int32) (e5f : Int32) (r1f : Nat → Int32) (m1f : Nat) (r2f : Nat → Int32) (wff : va_W) (i1 : Int32) (i2 : Int32) (w_ : Int32) (ht : bTold T t l0 l1 d0 d1 g0 g1 ln fl pl ft fk wt) (hK : zKT fk) (hz0_ : bLand T l0 cr0_ inn0_ k10_ k20_ k30_ k40_ z0_) (hI0_ : zLI cr0_ k10_ k30_) (hz1_ : bLand T l1 cr1_ inn1_ k11_ k21_ k31_ k41_ z1_) (hI1_ : zLI cr1_ k11_ k31_) (hg0_ : bLog T g0 gg0_ q10_ q20_ wg0_) (hg1_ : bLog T g1 gg1_ q11_ q21_ wg1_) (hwwA : bWays T wa laA mdA wyA pc_A f1A f2A f3A f4A f5A f6A n4A wwA) (hpwA : zPw n4A) (hmdA : mdA = 0 ∨ laA = l0) (hwmA : 0 ≤ wyA.toInt ∧ wyA.toInt ≤ 16384) (hTbA : mdA = 0 ∨ zTab cr0_ inn0_ k10_ k20_ wyA pc_A f1A f2A f5A n4A) (hLq0 : zLq cr0_ k10_ k20_) (hwwB : bWays T wb_ laB mdB wyB pc_B f1B f2B f3B f4B f5B f6B n4B wwB) (hpwB : zPw n4B) (hmdB : mdB = 0 ∨ laB = l1) (hwmB : 0 ≤ wyB.toInt ∧ wyB.toInt ≤ 16384) (hTbB : mdB = 0 ∨ zTab cr1_ inn1_ k11_ k21_ wyB pc_B f1B f2B f5B n4B) (hLq1 : zLq cr1_ k11_ k21_) (hwff : bFit T fi e0f e1f e2f e3f e4f e5f r1f m1f r2f wff) (hfw : zFw m1f) (hf3 : 0 ≤ e3f.toInt) (hFI : (¬ e0f = 0 → e1f.toInt = 0 ∧ ¬ mdA = 0 ∨ e1f.toInt = 1 ∧ ¬ mdB = 0)) : zMi l T yX11_least cX11_least 4 (some .int) 8 4 (6 * (zNA (i1.toInt = 0 ∧ 0 < (fk 0).toInt ∧ (0 ≤ i2.toInt ∧ i2.toInt < (fk 2).toInt ∧ i2.toInt < 2) ∧ (e0f.toInt = 0 ∨ ¬ e1f.toInt = i1.toInt ∨ ¬ e2f.toInt = i2.toInt)) mdA n4A (zPl cr0_ inn0_ k10_) - n4A) + 6 * (zNA (i1.toInt = 1 ∧ 1 < (fk 0).toInt ∧ (0 ≤ i2.toInt ∧ i2.toInt < (fk 2).toInt ∧ i2.toInt < 2) ∧ (e0f.toInt = 0 ∨ ¬ e1f.toInt = i1.toInt ∨ ¬ e2f.toInt = i2.toInt)) mdB n4B (zPl cr1_ inn1_ k11_) - n4B) + 2 * (zNF (i1.toInt = 1 ∧ 1 < (fk 0).toInt ∧ (0 ≤ i2.toInt ∧ i2.toInt < (fk 2).toInt ∧ i2.toInt < 2) ∧ (e0f.toInt = 0 ∨ ¬ e1f.toInt = i1.toInt ∨ ¬ e2f.toInt = i2.toInt)) (zNF (i1.toInt = 0 ∧ 0 < (fk 0).toInt ∧ (0 ≤ i2.toInt ∧ i2.toInt < (fk 2).toInt ∧ i2.toInt < 2) ∧ (e0f.toInt = 0 ∨ ¬ e1f.toInt = i1.toInt ∨ ¬ e2f.toInt = i2.toInt)) m1f (zMw mdA wyA cr0_ inn0_ k10_)) (zMw mdB wyB cr1_ inn1_ k11_) - m1f)) [.ref xo, .int i1, .int i2, .int w_] [[zO10 xo t im mk rd po co tr wa wb_ fi cd], wt, z0_, z1_, wg0_, wg1_, wwA, wwB, wff] (fun (r : Int32) bs => ∃ (laA_2 : Nat) (mdA_2 : Int32) (wyA_2 : Int32) (pc_A_2 : Int32) (f1A_2 : Nat → Int32) (f2A_2 : Nat → Int32) (f3A_2 : Nat → Int32) (f4A_2 : Nat → Int32) (f5A_2 : Nat → Int32) (f6A_2 : Nat → Int32) (n4A_2 : Nat) (wwA_2 : va_W) (laB_2 : Nat) (mdB_2 : Int32) (wyB_2 : Int32) (pc_B_2 : Int32) (f1B_2 : Nat → Int32) (f2B_2 : Nat → Int32) (f3B_2 : Nat → Int32) (f4B_2 : Nat → Int32) (f5B_2 : Nat → Int32) (f6B_2 : Nat → Int32) (n4B_2 : Nat) (wwB_2 : va_W) (e0f_2 : Int32) (e1f_2 : Int32) (e2f_2 : Int32) (e3f_2 : Int32) (e4f_2 : Int32) (e5f_2 : Int32) (r1f_2 : Nat → Int32) (m1f_2 : Nat) (r2f_2 : Nat → Int32) (wff_2 : va_W), bs = [[zO10 xo t im mk rd po co tr wa wb_ fi cd], wt, z0_, z1_, wg0_, wg1_, wwA_2, wwB_2, wff_2] ∧ bWays T wa laA_2 mdA_2 wyA_2 pc_A_2 f1A_2 f2A_2 f3A_2 f4A_2 f5A_2 f6A_2 n4A_2 wwA_2 ∧ (mdA_2 = 0 ∨ laA_2 = l0) ∧ (0 ≤ wyA_2.toInt ∧ wyA_2.toInt ≤ 16384) ∧ n4A_2 = zNA (i1.toInt = 0 ∧ 0 < (fk 0).toInt ∧ (0 ≤ i2.toInt ∧ i2.toInt < (fk 2).toInt ∧ i2.toInt < 2) ∧ (e0f.toInt = 0 ∨ ¬ e1f.toInt = i1.toInt ∨ ¬ e2f.toInt = i2.toInt)) mdA n4A (zPl cr0_ inn0_ k10_) ∧ zPw n4A_2 ∧ (¬ mdA = 0 → ¬ mdA_2 = 0) ∧ (mdA_2 = 0 ∨ zTab cr0_ inn0_ k10_ k20_ wyA_2 pc_A_2 f1A_2 f2A_2 f5A_2 n4A_2) ∧ bWays T wb_ laB_2 mdB_2 wyB_2 pc_B_2 f1B_2 f2B_2 f3B_2 f4B_2 f5B_2 f6B_2 n4B_2 wwB_2 ∧ (mdB_2 = 0 ∨ laB_2 = l1) ∧ (0 ≤ wyB_2.toInt ∧ wyB_2.toInt ≤ 16384) ∧ n4B_2 = zNA (i1.toInt = 1 ∧ 1 < (fk 0).toInt ∧ (0 ≤ i2.toInt ∧ i2.toInt < (fk 2).toInt ∧ i2.toInt < 2) ∧ (e0f.toInt = 0 ∨ ¬ e1f.toInt = i1.toInt ∨ ¬ e2f.toInt = i2.toInt)) mdB n4B (zPl cr1_ inn1_ k11_) ∧ zPw n4B_2 ∧ (¬ mdB = 0 → ¬ mdB_2 = 0) ∧ (mdB_2 = 0 ∨ zTab cr1_ inn1_ k11_ k21_ wyB_2 pc_B_2 f1B_2 f2B_2 f5B_2 n4B_2) ∧ bFit T fi e0f_2 e1f_2 e2f_2 e3f_2 e4f_2 e5f_2 r1f_2 m1f_2 r2f_2 wff_2 ∧ m1f_2 = zNF (i1.toInt = 1 ∧ 1 < (fk 0).toInt ∧ (0 ≤ i2.toInt ∧ i2.toInt < (fk 2).toInt ∧ i2.toInt < 2) ∧ (e0f.toInt = 0 ∨ ¬ e1f.toInt = i1.toInt ∨ ¬ e2f.toInt = i2.toInt)) (zNF (i1.toInt = 0 ∧ 0 < (fk 0).toInt ∧ (0 ≤ i2.toInt ∧ i2.toInt < (fk 2).toInt ∧ i2.toInt < 2) ∧ (e0f.toInt = 0 ∨ ¬ e1f.toInt = i1.toInt ∨ ¬ e2f.toInt = i2.toInt)) m1f (zMw mdA wyA cr0_ inn0_ k10_)) (zMw mdB wyB cr1_ inn1_ k11_) ∧ zFw m1f_2 ∧ 0 ≤ e3f_2.toInt ∧ (¬ e0f_2 = 0 → e1f_2.toInt = 0 ∧ ¬ mdA_2 = 0 ∨ e1f_2.toInt = 1 ∧ ¬ mdB_2 = 0)) := by
  refine zMi_of (own := RX11) (by decide) rfl (Nat.le_of_ble_eq_true rfl) ?_
  intro p e s m args below meth c A ls C hr hlocks hnm hAe G hl
  refine zHide (fun Qz_ hQz_ => ?_)
  have hx := C.1
  have hb := C.2.1
  replace hmdA : zHd (mdA = 0 ∨ laA = l0) := hmdA
  replace hTbA : zHd (mdA = 0 ∨ zTab cr0_ inn0_ k10_ k20_ wyA pc_A f1A f2A f5A n4A) := hTbA
  replace hmdB : zHd (mdB = 0 ∨ laB = l1) := hmdB
  replace hTbB : zHd (mdB = 0 ∨ zTab cr1_ inn1_ k11_ k21_ wyB pc_B f1B f2B f5B n4B) := hTbB
  replace hFI : zHd ((¬ e0f = 0 → e1f.toInt = 0 ∧ ¬ mdA = 0 ∨ e1f.toInt = 1 ∧ ¬ mdB = 0)) := hFI
  have hl : lv_has ls 4 [(0, .ref xo), (1, .int i1), (2, .int i2), (3, .int w_)] := hl
  refine lv_aload_n hx hb dX11_least_0 rfl (lv_at hl 0 rfl) ?_
  refine lv_iload_n hx hb dX11_least_1 rfl (lv_at hl 1 rfl) ?_
  refine lv_iload_n hx hb dX11_least_2 rfl (lv_at hl 2 rfl) ?_
  refine z_Vi (bc := [[zO10 xo t im mk rd po co tr wa wb_ fi cd], wt, z0_, z1_, wg0_, wg1_, wwA, wwB, wff]) (br := []) (As := [.int i1, .int i2]) (rest := []) C G (c_t_fit l T xo t im mk rd po co tr wa wb_ fi cd l0 l1 d0 d1 g0 g1 ln fl pl ft fk wt cr0_ inn0_ k10_ k20_ k30_ k40_ z0_ cr1_ inn1_ k11_ k21_ k31_ k41_ z1_ gg0_ q10_ q20_ wg0_ gg1_ q11_ q21_ wg1_ laA mdA wyA pc_A f1A f2A f3A f4A f5A f6A n4A wwA laB mdB wyB pc_B f1B f2B f3B f4B f5B f6B n4B wwB e0f e1f e2f e3f e4f e5f r1f m1f r2f wff i1 i2 ht (by first | with_reducible assumption | with_reducible rfl | omega | assumption | rfl) hz0_ (by first | with_reducible assumption | with_reducible rfl | omega | assumption | rfl) hz1_ (by first | with_reducible assumption | with_reducible rfl | omega | assumption | rfl) hg0_ hg1_ hwwA (by first | with_reducible assumption | with_reducible rfl | omega | assumption | rfl) (by first | with_reducible assumption | with_reducible rfl | omega | assumption | rfl) (by first | with_reducible assumption | with_reducible rfl | omega | assumption | rfl) (by first | with_reducible assumption | with_reducible rfl | omega | assumption | rfl) (by first | with_reducible assumption | with_reducible rfl | omega | assumption | rfl) hwwB (by first | with_reducible assumption | with_reducible rfl | omega | assumption | rfl) (by first | with_reducible assumption | with_reducible rfl | omega | assumption | rfl) (by first | with_reducible assumption | with_reducible rfl | omega | assumption | rfl) (by first | with_reducible assumption | with_reducible rfl | omega | assumption | rfl) (by first | with_reducible assumption | with_reducible rfl | omega | assumption | rfl) hwff hfw hf3 hFI) (kV_RX11_302 C.2.2.2.2 (Nat.le_of_ble_eq_true rfl) (Nat.le_of_ble_eq_true rfl)) [0, 1, 2, 3, 4, 5, 6, 7, 8] [0, 0, 0, 0, 0, 0, 0, 0, 0] rfl rfl (ci := 10) (qc := (RX11, TX11, 11)) rfl rfl (List.mem_flatten.mpr ⟨_, List.mem_of_getElem? (i := 0) rfl, List.mem_cons_self⟩) rfl rfl hl.1 dX11_least_3 (Nat.le_of_ble_eq_true rfl) (by show _ + (6 * (zNA (i1.toInt = 0 ∧ 0 < (fk 0).toInt ∧ (0 ≤ i2.toInt ∧ i2.toInt < (fk 2).toInt ∧ i2.toInt < 2) ∧ (e0f.toInt = 0 ∨ ¬ e1f.toInt = i1.toInt ∨ ¬ e2f.toInt = i2.toInt)) mdA n4A (zPl cr0_ inn0_ k10_) - n4A) + 6 * (zNA (i1.toInt = 1 ∧ 1 < (fk 0).toInt ∧ (0 ≤ i2.toInt ∧ i2.toInt < (fk 2).toInt ∧ i2.toInt < 2) ∧ (e0f.toInt = 0 ∨ ¬ e1f.toInt = i1.toInt ∨ ¬ e2f.toInt = i2.toInt)) mdB n4B (zPl cr1_ inn1_ k11_) - n4B) + 2 * (zNF (i1.toInt = 1 ∧ 1 < (fk 0).toInt ∧ (0 ≤ i2.toInt ∧ i2.toInt < (fk 2).toInt ∧ i2.toInt < 2) ∧ (e0f.toInt = 0 ∨ ¬ e1f.toInt = i1.toInt ∨ ¬ e2f.toInt = i2.toInt)) (zNF (i1.toInt = 0 ∧ 0 < (fk 0).toInt ∧ (0 ≤ i2.toInt ∧ i2.toInt < (fk 2).toInt ∧ i2.toInt < 2) ∧ (e0f.toInt = 0 ∨ ¬ e1f.toInt = i1.toInt ∨ ¬ e2f.toInt = i2.toInt)) m1f (zMw mdA wyA cr0_ inn0_ k10_)) (zMw mdB wyB cr1_ inn1_ k11_) - m1f)) ≤ 6 * (zNA (i1.toInt = 0 ∧ 0 < (fk 0).toInt ∧ (0 ≤ i2.toInt ∧ i2.toInt < (fk 2).toInt ∧ i2.toInt < 2) ∧ (e0f.toInt = 0 ∨ ¬ e1f.toInt = i1.toInt ∨ ¬ e2f.toInt = i2.toInt)) mdA n4A (zPl cr0_ inn0_ k10_) - n4A) + 6 * (zNA (i1.toInt = 1 ∧ 1 < (fk 0).toInt ∧ (0 ≤ i2.toInt ∧ i2.toInt < (fk 2).toInt ∧ i2.toInt < 2) ∧ (e0f.toInt = 0 ∨ ¬ e1f.toInt = i1.toInt ∨ ¬ e2f.toInt = i2.toInt)) mdB n4B (zPl cr1_ inn1_ k11_) - n4B) + 2 * (zNF (i1.toInt = 1 ∧ 1 < (fk 0).toInt ∧ (0 ≤ i2.toInt ∧ i2.toInt < (fk 2).toInt ∧ i2.toInt < 2) ∧ (e0f.toInt = 0 ∨ ¬ e1f.toInt = i1.toInt ∨ ¬ e2f.toInt = i2.toInt)) (zNF (i1.toInt = 0 ∧ 0 < (fk 0).toInt ∧ (0 ≤ i2.toInt ∧ i2.toInt < (fk 2).toInt ∧ i2.toInt < 2) ∧ (e0f.toInt = 0 ∨ ¬ e1f.toInt = i1.toInt ∨ ¬ e2f.toInt = i2.toInt)) m1f (zMw mdA wyA cr0_ inn0_ k10_)) (zMw mdB wyB cr1_ inn1_ k11_) - m1f); omega) (fun r_55 b1 H locs hw G => ?_)
  refine zEx34 hw ?_
  intro laA_1 mdA_2 wyA_3 pc_A_4 f1A_5 f2A_6 f3A_7 f4A_8 f5A_9 f6A_10 n4A_11 wwA_12 laB_13 mdB_14 wyB_15 pc_B_16 f1B_17 f2B_18 f3B_19 f4B_20 f5B_21 f6B_22 n4B_23 wwB_24 e0f_25 e1f_26 e2f_27 e3f_28 e4f_29 e5f_30 r1f_31 m1f_32 r2f_33 wff_34
  refine zCu21 ?_
  intro hbs9 h_35 h_36 h_37 h_38 h_39 h_40 h_41 h_42 h_43 h_44 h_45 h_46 h_47 h_48 h_49 h_50 h_51 h_52 h_53 h_54
  clear hw
  subst hbs9
  have G : zS T A s.heap s [[zO10 xo t im mk rd po co tr wa wb_ fi cd], wt, z0_, z1_, wg0_, wg1_, wwA_12, wwB_24, wff_34] _ _ := G
  replace h_36 : zHd ((mdA_2 = 0 ∨ laA_1 = l0)) := h_36
  replace h_40 : zHd ((¬ mdA = 0 → ¬ mdA_2 = 0)) := h_40
  replace h_41 : zHd ((mdA_2 = 0 ∨ zTab cr0_ inn0_ k10_ k20_ wyA_3 pc_A_4 f1A_5 f2A_6 f5A_9 n4A_11)) := h_41
  replace h_43 : zHd ((mdB_14 = 0 ∨ laB_13 = l1)) := h_43
  replace h_47 : zHd ((¬ mdB = 0 → ¬ mdB_14 = 0)) := h_47
  replace h_48 : zHd ((mdB_14 = 0 ∨ zTab cr1_ inn1_ k11_ k21_ wyB_15 pc_B_16 f1B_17 f2B_18 f5B_21 n4B_23)) := h_48
  replace h_54 : zHd ((¬ e0f_25 = 0 → e1f_26.toInt = 0 ∧ ¬ mdA_2 = 0 ∨ e1f_26.toInt = 1 ∧ ¬ mdB_14 = 0)) := h_54
  have hfm9 : m1f_32 ≤ 16384 := zFw_le h_51
  refine lv_if_eq (tgt := 19) hx hb dX11_least_6 (by decide) (fun c_56 => ?_) (fun c_56 => ?_)
  · have c_56n : r_55.toInt = (0 : Int) := (fa_eq _ _).mp c_56
    refine lv_iconst (v := (-1)) hx hb dX11_least_19 (by decide) ?_
    exact z_back hQz_ (z_iret C hr hlocks G (Nat.le_of_ble_eq_true rfl) (by omega) dX11_least_20 ⟨laA_1, mdA_2, wyA_3, pc_A_4, f1A_5, f2A_6, f3A_7, f4A_8, f5A_9, f6A_10, n4A_11, wwA_12, laB_13, mdB_14, wyB_15, pc_B_16, f1B_17, f2B_18, f3B_19, f4B_20, f5B_21, f6B_22, n4B_23, wwB_24, e0f_25, e1f_26, e2f_27, e3f_28, e4f_29, e5f_30, r1f_31, m1f_32, r2f_33, wff_34, rfl, h_35, h_36, h_37, h_38, h_39, h_40, h_41, h_42, h_43, h_44, h_45, h_46, h_47, h_48, h_49, h_50, h_51, h_52, h_54⟩)
  · have c_56n : ¬ r_55.toInt = (0 : Int) := fun q => c_56 ((fa_eq _ _).mpr q)
    refine lv_aload_n hx hb dX11_least_9 rfl (lv_at hl 0 rfl) ?_
    refine z_get C G clX11 0 rfl 9 (by decide) m_fl_RX11_65 rfl dX11_least_10 ?_
    refine zEx2 h_49 ?_
    intro a1_57 a2_58 hbs9
    clear h_49
    subst hbs9
    have G : zS T A s.heap s [[zO10 xo t im mk rd po co tr wa wb_ fi cd], wt, z0_, z1_, wg0_, wg1_, wwA_12, wwB_24, [zO3 fi e0f_25 e1f_26 e2f_27 e3f_28 e4f_29 e5f_30 a1_57 a2_58], [zAr T 0 a1_57 m1f_32 r1f_31], [zAr T 0 a2_58 7 r2f_33]] _ _ := G.re rfl
    refine z_get C G clX3 8 rfl 3 (by decide) m_fl_RX11_306 rfl dX11_least_13 ?_
    refine lv_if_ne (tgt := 21) hx hb dX11_least_16 (by decide) (fun c_59 => ?_) (fun c_59 => ?_)
    · have c_59n : ¬ e3f_28.toInt = (0 : Int) := fun q => c_59 ((fa_eq _ _).mpr q)
      refine lv_iload_n hx hb dX11_least_21 rfl (lv_at hl 3 rfl) ?_
      refine lv_if_eq (tgt := 35) hx hb dX11_least_22 (by decide) (fun c_60 => ?_) (fun c_60 => ?_)
      · have c_60n : w_.toInt = (0 : Int) := (fa_eq _ _).mp c_60
        refine lv_aload_n hx hb dX11_least_35 rfl (lv_at hl 0 rfl) ?_
        refine z_get C G clX11 0 rfl 9 (by decide) m_fl_RX11_65 rfl dX11_least_36 ?_
        refine z_get C G clX3 8 rfl 4 (by decide) m_fl_RX11_327 rfl dX11_least_39 ?_
        have hw_61 : bFit T fi e0f_25 e1f_26 e2f_27 e3f_28 e4f_29 e5f_30 r1f_31 m1f_32 r2f_33 [zO3 fi e0f_25 e1f_26 e2f_27 e3f_28 e4f_29 e5f_30 a1_57 a2_58, zAr T 0 a1_57 m1f_32 r1f_31, zAr T 0 a2_58 7 r2f_33] := ⟨a1_57, a2_58, rfl⟩
        have G : zS T A s.heap s [[zO10 xo t im mk rd po co tr wa wb_ fi cd], wt, z0_, z1_, wg0_, wg1_, wwA_12, wwB_24, [zO3 fi e0f_25 e1f_26 e2f_27 e3f_28 e4f_29 e5f_30 a1_57 a2_58, zAr T 0 a1_57 m1f_32 r1f_31, zAr T 0 a2_58 7 r2f_33]] _ _ := G.re rfl
        exact z_back hQz_ (z_iret C hr hlocks G (Nat.le_of_ble_eq_true rfl) (by omega) dX11_least_42 ⟨laA_1, mdA_2, wyA_3, pc_A_4, f1A_5, f2A_6, f3A_7, f4A_8, f5A_9, f6A_10, n4A_11, wwA_12, laB_13, mdB_14, wyB_15, pc_B_16, f1B_17, f2B_18, f3B_19, f4B_20, f5B_21, f6B_22, n4B_23, wwB_24, e0f_25, e1f_26, e2f_27, e3f_28, e4f_29, e5f_30, r1f_31, m1f_32, r2f_33, ([zO3 fi e0f_25 e1f_26 e2f_27 e3f_28 e4f_29 e5f_30 a1_57 a2_58, zAr T 0 a1_57 m1f_32 r1f_31, zAr T 0 a2_58 7 r2f_33]), rfl, h_35, h_36, h_37, h_38, h_39, h_40, h_41, h_42, h_43, h_44, h_45, h_46, h_47, h_48, hw_61, h_50, h_51, h_52, h_54⟩)
      · have c_60n : ¬ w_.toInt = (0 : Int) := fun q => c_60 ((fa_eq _ _).mpr q)
        refine lv_aload_n hx hb dX11_least_25 rfl (lv_at hl 0 rfl) ?_
        refine z_get C G clX11 0 rfl 9 (by decide) m_fl_RX11_65 rfl dX11_least_26 ?_
        refine z_get C G clX3 8 rfl 5 (by decide) m_fl_RX11_324 rfl dX11_least_29 ?_
        refine lv_goto (tgt := 42) hx hb dX11_least_32 (by decide) ?_
        have hw_62 : bFit T fi e0f_25 e1f_26 e2f_27 e3f_28 e4f_29 e5f_30 r1f_31 m1f_32 r2f_33 [zO3 fi e0f_25 e1f_26 e2f_27 e3f_28 e4f_29 e5f_30 a1_57 a2_58, zAr T 0 a1_57 m1f_32 r1f_31, zAr T 0 a2_58 7 r2f_33] := ⟨a1_57, a2_58, rfl⟩
        have G : zS T A s.heap s [[zO10 xo t im mk rd po co tr wa wb_ fi cd], wt, z0_, z1_, wg0_, wg1_, wwA_12, wwB_24, [zO3 fi e0f_25 e1f_26 e2f_27 e3f_28 e4f_29 e5f_30 a1_57 a2_58, zAr T 0 a1_57 m1f_32 r1f_31, zAr T 0 a2_58 7 r2f_33]] _ _ := G.re rfl
        exact z_back hQz_ (z_iret C hr hlocks G (Nat.le_of_ble_eq_true rfl) (by omega) dX11_least_42 ⟨laA_1, mdA_2, wyA_3, pc_A_4, f1A_5, f2A_6, f3A_7, f4A_8, f5A_9, f6A_10, n4A_11, wwA_12, laB_13, mdB_14, wyB_15, pc_B_16, f1B_17, f2B_18, f3B_19, f4B_20, f5B_21, f6B_22, n4B_23, wwB_24, e0f_25, e1f_26, e2f_27, e3f_28, e4f_29, e5f_30, r1f_31, m1f_32, r2f_33, ([zO3 fi e0f_25 e1f_26 e2f_27 e3f_28 e4f_29 e5f_30 a1_57 a2_58, zAr T 0 a1_57 m1f_32 r1f_31, zAr T 0 a2_58 7 r2f_33]), rfl, h_35, h_36, h_37, h_38, h_39, h_40, h_41, h_42, h_43, h_44, h_45, h_46, h_47, h_48, hw_62, h_50, h_51, h_52, h_54⟩)
    · have c_59n : e3f_28.toInt = (0 : Int) := (fa_eq _ _).mp c_59
      refine lv_iconst (v := (-1)) hx hb dX11_least_19 (by decide) ?_
      have hw_63 : bFit T fi e0f_25 e1f_26 e2f_27 e3f_28 e4f_29 e5f_30 r1f_31 m1f_32 r2f_33 [zO3 fi e0f_25 e1f_26 e2f_27 e3f_28 e4f_29 e5f_30 a1_57 a2_58, zAr T 0 a1_57 m1f_32 r1f_31, zAr T 0 a2_58 7 r2f_33] := ⟨a1_57, a2_58, rfl⟩
      have G : zS T A s.heap s [[zO10 xo t im mk rd po co tr wa wb_ fi cd], wt, z0_, z1_, wg0_, wg1_, wwA_12, wwB_24, [zO3 fi e0f_25 e1f_26 e2f_27 e3f_28 e4f_29 e5f_30 a1_57 a2_58, zAr T 0 a1_57 m1f_32 r1f_31, zAr T 0 a2_58 7 r2f_33]] _ _ := G.re rfl
      exact z_back hQz_ (z_iret C hr hlocks G (Nat.le_of_ble_eq_true rfl) (by omega) dX11_least_20 ⟨laA_1, mdA_2, wyA_3, pc_A_4, f1A_5, f2A_6, f3A_7, f4A_8, f5A_9, f6A_10, n4A_11, wwA_12, laB_13, mdB_14, wyB_15, pc_B_16, f1B_17, f2B_18, f3B_19, f4B_20, f5B_21, f6B_22, n4B_23, wwB_24, e0f_25, e1f_26, e2f_27, e3f_28, e4f_29, e5f_30, r1f_31, m1f_32, r2f_33, ([zO3 fi e0f_25 e1f_26 e2f_27 e3f_28 e4f_29 e5f_30 a1_57 a2_58, zAr T 0 a1_57 m1f_32 r1f_31, zAr T 0 a2_58 7 r2f_33]), rfl, h_35, h_36, h_37, h_38, h_39, h_40, h_41, h_42, h_43, h_44, h_45, h_46, h_47, h_48, hw_63, h_50, h_51, h_52, h_54⟩)
set_option maxHeartbeats 4000000 in
set_option maxRecDepth 100000 in
/-- c_t_fits -/
theorem c_t_fits (l : Launch) (T : zTy) (xo : Nat) (t : Nat) (im : Nat) (mk : Nat) (rd : Nat) (po : Nat) (co : Nat) (tr : Nat) (wa : Nat) (wb_ : Nat) (fi : Nat) (cd : Nat) (l0 : Nat) (l1 : Nat) (d0 : Nat) (d1 : Nat) (g0 : Nat) (g1 : Nat) (ln : Int32) (fl : Int32) (pl : Int32) (ft : Nat → Int32) (fk : Nat → Int32) (wt : va_W) (cr0_ : Int32) (inn0_ : Int32) (k10_ : Nat → Int32) (k20_ : Nat → Int32) (k30_ : Nat → Int32) (k40_ : Nat → Int32) (z0_ : va_W) (cr1_ : Int32) (inn1_ : Int32) (k11_ : Nat → Int32) (k21_ : Nat → Int32) (k31_ : Nat → Int32) (k41_ : Nat → Int32) (z1_ : va_W) (gg0_ : Int32) (q10_ : Nat → Int32) (q20_ : Nat → Int32) (wg0_ : va_W) (gg1_ : Int32) (q11_ : Nat → Int32) (q21_ : Nat → Int32) (wg1_ : va_W) (laA : Nat) (mdA : Int32) (wyA : Int32) (pc_A : Int32) (f1A : Nat → Int32) (f2A : Nat → Int32) (f3A : Nat → Int32) (f4A : Nat → Int32) (f5A : Nat → Int32) (f6A : Nat → Int32) (n4A : Nat) (wwA : va_W) (laB : Nat) (mdB : Int32) (wyB : Int32) (pc_B : Int32) (f1B : Nat → Int32) (f2B : Nat → Int32) (f3B : Nat → Int32) (f4B : Nat → Int32) (f5B : Nat → Int32) (f6B : Nat → Int32) (n4B : Nat) (wwB : va_W) (e0f : Int32) (e1f : Int32) (e2f : Int32) (e3f : Int32) (e4f : Int32) (e5f : Int32) (r1f : Nat → Int32) (m1f : Nat) (r2f : Nat → Int32) (wff : va_W) (i1 : Int32) (i2 : Int32) (w_ : Int32) (ht : bTold T t l0 l1 d0 d1 g0 g1 ln fl pl ft fk wt) (hK : zKT fk) (hz0_ : bLand T l0 cr0_ inn0_ k10_ k20_ k30_ k40_ z0_) (hI0_ : zLI cr0_ k10_ k30_) (hz1_ : bLand T l1 cr1_ inn1_ k11_ k21_ k31_ k41_ z1_) (hI1_ : zLI cr1_ k11_ k31_) (hg0_ : bLog T g0 gg0_ q10_ q20_ wg0_) (hg1_ : bLog T g1 gg1_ q11_ q21_ wg1_) (hwwA : bWays T wa laA mdA wyA pc_A f1A f2A f3A f4A f5A f6A n4A wwA) (hpwA : zPw n4A) (hmdA : mdA = 0 ∨ laA = l0) (hwmA : 0 ≤ wyA.toInt ∧ wyA.toInt ≤ 16384) (hTbA : mdA = 0 ∨ zTab cr0_ inn0_ k10_ k20_ wyA pc_A f1A f2A f5A n4A) (hLq0 : zLq cr0_ k10_ k20_) (hwwB : bWays T wb_ laB mdB wyB pc_B f1B f2B f3B f4B f5B f6B n4B wwB) (hpwB : zPw n4B) (hmdB : mdB = 0 ∨ laB = l1) (hwmB : 0 ≤ wyB.toInt ∧ wyB.toInt ≤ 16384) (hTbB : mdB = 0 ∨ zTab cr1_ inn1_ k11_ k21_ wyB pc_B f1B f2B f5B n4B) (hLq1 : zLq cr1_ k11_ k21_) (hwff : bFit T fi e0f e1f e2f e3f e4f e5f r1f m1f r2f wff) (hfw : zFw m1f) (hf3 : 0 ≤ e3f.toInt) (hFI : (¬ e0f = 0 → e1f.toInt = 0 ∧ ¬ mdA = 0 ∨ e1f.toInt = 1 ∧ ¬ mdB = 0)) : zMi l T yX11_fits cX11_fits 7 (some .int) 8 7 (6 * (zNA (i1.toInt = 0 ∧ 0 < (fk 0).toInt ∧ (0 ≤ i2.toInt ∧ i2.toInt < (fk 2).toInt ∧ i2.toInt < 2) ∧ (e0f.toInt = 0 ∨ ¬ e1f.toInt = i1.toInt ∨ ¬ e2f.toInt = i2.toInt)) mdA n4A (zPl cr0_ inn0_ k10_) - n4A) + 6 * (zNA (i1.toInt = 1 ∧ 1 < (fk 0).toInt ∧ (0 ≤ i2.toInt ∧ i2.toInt < (fk 2).toInt ∧ i2.toInt < 2) ∧ (e0f.toInt = 0 ∨ ¬ e1f.toInt = i1.toInt ∨ ¬ e2f.toInt = i2.toInt)) mdB n4B (zPl cr1_ inn1_ k11_) - n4B) + 2 * (zNF (i1.toInt = 1 ∧ 1 < (fk 0).toInt ∧ (0 ≤ i2.toInt ∧ i2.toInt < (fk 2).toInt ∧ i2.toInt < 2) ∧ (e0f.toInt = 0 ∨ ¬ e1f.toInt = i1.toInt ∨ ¬ e2f.toInt = i2.toInt)) (zNF (i1.toInt = 0 ∧ 0 < (fk 0).toInt ∧ (0 ≤ i2.toInt ∧ i2.toInt < (fk 2).toInt ∧ i2.toInt < 2) ∧ (e0f.toInt = 0 ∨ ¬ e1f.toInt = i1.toInt ∨ ¬ e2f.toInt = i2.toInt)) m1f (zMw mdA wyA cr0_ inn0_ k10_)) (zMw mdB wyB cr1_ inn1_ k11_) - m1f)) [.ref xo, .int i1, .int i2, .int w_] [[zO10 xo t im mk rd po co tr wa wb_ fi cd], wt, z0_, z1_, wg0_, wg1_, wwA, wwB, wff] (fun (r : Int32) bs => ∃ (laA_2 : Nat) (mdA_2 : Int32) (wyA_2 : Int32) (pc_A_2 : Int32) (f1A_2 : Nat → Int32) (f2A_2 : Nat → Int32) (f3A_2 : Nat → Int32) (f4A_2 : Nat → Int32) (f5A_2 : Nat → Int32) (f6A_2 : Nat → Int32) (n4A_2 : Nat) (wwA_2 : va_W) (laB_2 : Nat) (mdB_2 : Int32) (wyB_2 : Int32) (pc_B_2 : Int32) (f1B_2 : Nat → Int32) (f2B_2 : Nat → Int32) (f3B_2 : Nat → Int32) (f4B_2 : Nat → Int32) (f5B_2 : Nat → Int32) (f6B_2 : Nat → Int32) (n4B_2 : Nat) (wwB_2 : va_W) (e0f_2 : Int32) (e1f_2 : Int32) (e2f_2 : Int32) (e3f_2 : Int32) (e4f_2 : Int32) (e5f_2 : Int32) (r1f_2 : Nat → Int32) (m1f_2 : Nat) (r2f_2 : Nat → Int32) (wff_2 : va_W), bs = [[zO10 xo t im mk rd po co tr wa wb_ fi cd], wt, z0_, z1_, wg0_, wg1_, wwA_2, wwB_2, wff_2] ∧ bWays T wa laA_2 mdA_2 wyA_2 pc_A_2 f1A_2 f2A_2 f3A_2 f4A_2 f5A_2 f6A_2 n4A_2 wwA_2 ∧ (mdA_2 = 0 ∨ laA_2 = l0) ∧ (0 ≤ wyA_2.toInt ∧ wyA_2.toInt ≤ 16384) ∧ n4A_2 = zNA (i1.toInt = 0 ∧ 0 < (fk 0).toInt ∧ (0 ≤ i2.toInt ∧ i2.toInt < (fk 2).toInt ∧ i2.toInt < 2) ∧ (e0f.toInt = 0 ∨ ¬ e1f.toInt = i1.toInt ∨ ¬ e2f.toInt = i2.toInt)) mdA n4A (zPl cr0_ inn0_ k10_) ∧ zPw n4A_2 ∧ (¬ mdA = 0 → ¬ mdA_2 = 0) ∧ (mdA_2 = 0 ∨ zTab cr0_ inn0_ k10_ k20_ wyA_2 pc_A_2 f1A_2 f2A_2 f5A_2 n4A_2) ∧ bWays T wb_ laB_2 mdB_2 wyB_2 pc_B_2 f1B_2 f2B_2 f3B_2 f4B_2 f5B_2 f6B_2 n4B_2 wwB_2 ∧ (mdB_2 = 0 ∨ laB_2 = l1) ∧ (0 ≤ wyB_2.toInt ∧ wyB_2.toInt ≤ 16384) ∧ n4B_2 = zNA (i1.toInt = 1 ∧ 1 < (fk 0).toInt ∧ (0 ≤ i2.toInt ∧ i2.toInt < (fk 2).toInt ∧ i2.toInt < 2) ∧ (e0f.toInt = 0 ∨ ¬ e1f.toInt = i1.toInt ∨ ¬ e2f.toInt = i2.toInt)) mdB n4B (zPl cr1_ inn1_ k11_) ∧ zPw n4B_2 ∧ (¬ mdB = 0 → ¬ mdB_2 = 0) ∧ (mdB_2 = 0 ∨ zTab cr1_ inn1_ k11_ k21_ wyB_2 pc_B_2 f1B_2 f2B_2 f5B_2 n4B_2) ∧ bFit T fi e0f_2 e1f_2 e2f_2 e3f_2 e4f_2 e5f_2 r1f_2 m1f_2 r2f_2 wff_2 ∧ m1f_2 = zNF (i1.toInt = 1 ∧ 1 < (fk 0).toInt ∧ (0 ≤ i2.toInt ∧ i2.toInt < (fk 2).toInt ∧ i2.toInt < 2) ∧ (e0f.toInt = 0 ∨ ¬ e1f.toInt = i1.toInt ∨ ¬ e2f.toInt = i2.toInt)) (zNF (i1.toInt = 0 ∧ 0 < (fk 0).toInt ∧ (0 ≤ i2.toInt ∧ i2.toInt < (fk 2).toInt ∧ i2.toInt < 2) ∧ (e0f.toInt = 0 ∨ ¬ e1f.toInt = i1.toInt ∨ ¬ e2f.toInt = i2.toInt)) m1f (zMw mdA wyA cr0_ inn0_ k10_)) (zMw mdB wyB cr1_ inn1_ k11_) ∧ zFw m1f_2 ∧ 0 ≤ e3f_2.toInt ∧ (¬ e0f_2 = 0 → e1f_2.toInt = 0 ∧ ¬ mdA_2 = 0 ∨ e1f_2.toInt = 1 ∧ ¬ mdB_2 = 0)) := by
  refine zMi_of (own := RX11) (by decide) rfl (Nat.le_of_ble_eq_true rfl) ?_
  intro p e s m args below meth c A ls C hr hlocks hnm hAe G hl
  refine zHide (fun Qz_ hQz_ => ?_)
  have hx := C.1
  have hb := C.2.1
  replace hmdA : zHd (mdA = 0 ∨ laA = l0) := hmdA
  replace hTbA : zHd (mdA = 0 ∨ zTab cr0_ inn0_ k10_ k20_ wyA pc_A f1A f2A f5A n4A) := hTbA
  replace hmdB : zHd (mdB = 0 ∨ laB = l1) := hmdB
  replace hTbB : zHd (mdB = 0 ∨ zTab cr1_ inn1_ k11_ k21_ wyB pc_B f1B f2B f5B n4B) := hTbB
  replace hFI : zHd ((¬ e0f = 0 → e1f.toInt = 0 ∧ ¬ mdA = 0 ∨ e1f.toInt = 1 ∧ ¬ mdB = 0)) := hFI
  have hl : lv_has ls 7 [(0, .ref xo), (1, .int i1), (2, .int i2), (3, .int w_)] := hl
  refine lv_aload_n hx hb dX11_fits_0 rfl (lv_at hl 0 rfl) ?_
  refine z_get C G clX11 0 rfl 0 (by decide) m_fl_RX11_10 rfl dX11_fits_1 ?_
  refine lv_iload_n hx hb dX11_fits_4 rfl (lv_at hl 1 rfl) ?_
  refine z_Vq (bc := [wt]) (br := [[zO10 xo t im mk rd po co tr wa wb_ fi cd], z0_, z1_, wg0_, wg1_, wwA, wwB, wff]) (As := [.int i1]) (rest := []) C G (c_landAt l T t l0 l1 d0 d1 g0 g1 ln fl pl ft fk wt i1 ht) (kV_RX11_121 C.2.2.2.2 (Nat.le_of_ble_eq_true rfl) (Nat.le_of_ble_eq_true rfl)) [1] [1] rfl rfl (ci := 8) (qc := (RX9, TX9, 8)) rfl rfl (List.mem_flatten.mpr ⟨_, List.mem_of_getElem? (i := 0) rfl, (bTold_mem ht).choose_spec⟩) rfl rfl hl.1 dX11_fits_5 (Nat.le_of_ble_eq_true rfl) (by show _ + 0 ≤ 6 * (zNA (i1.toInt = 0 ∧ 0 < (fk 0).toInt ∧ (0 ≤ i2.toInt ∧ i2.toInt < (fk 2).toInt ∧ i2.toInt < 2) ∧ (e0f.toInt = 0 ∨ ¬ e1f.toInt = i1.toInt ∨ ¬ e2f.toInt = i2.toInt)) mdA n4A (zPl cr0_ inn0_ k10_) - n4A) + 6 * (zNA (i1.toInt = 1 ∧ 1 < (fk 0).toInt ∧ (0 ≤ i2.toInt ∧ i2.toInt < (fk 2).toInt ∧ i2.toInt < 2) ∧ (e0f.toInt = 0 ∨ ¬ e1f.toInt = i1.toInt ∨ ¬ e2f.toInt = i2.toInt)) mdB n4B (zPl cr1_ inn1_ k11_) - n4B) + 2 * (zNF (i1.toInt = 1 ∧ 1 < (fk 0).toInt ∧ (0 ≤ i2.toInt ∧ i2.toInt < (fk 2).toInt ∧ i2.toInt < 2) ∧ (e0f.toInt = 0 ∨ ¬ e1f.toInt = i1.toInt ∨ ¬ e2f.toInt = i2.toInt)) (zNF (i1.toInt = 0 ∧ 0 < (fk 0).toInt ∧ (0 ≤ i2.toInt ∧ i2.toInt < (fk 2).toInt ∧ i2.toInt < 2) ∧ (e0f.toInt = 0 ∨ ¬ e1f.toInt = i1.toInt ∨ ¬ e2f.toInt = i2.toInt)) m1f (zMw mdA wyA cr0_ inn0_ k10_)) (zMw mdB wyB cr1_ inn1_ k11_) - m1f); omega) (fun r_2 b1 H locs hw G => ?_)
  refine zAn2 hw ?_
  intro hbs9 hc_1
  clear hw
  subst hbs9
  have G : zS T A s.heap s [[zO10 xo t im mk rd po co tr wa wb_ fi cd], z0_, z1_, wg0_, wg1_, wwA, wwB, wff, wt] _ _ := G
  rcases hc_1 with ⟨rfl, h_3⟩ | ⟨rfl, h_4, h_5⟩ | ⟨rfl, h_6, h_7⟩
  · have h_3 : (i1.toInt < 0 ∨ (fk 0).toInt ≤ i1.toInt ∨ 2 ≤ i1.toInt) := h_3
    refine lv_astoreN (lv' := [(4, .null), (0, .ref xo), (1, .int i1), (2, .int i2), (3, .int w_)]) hx hb dX11_fits_8 hl (by decide) (zLvf_h rfl) (fun ls hl => ?_)
    refine lv_aload_n hx hb dX11_fits_10 rfl (lv_at hl 1 rfl) ?_
    refine lv_iload_n hx hb dX11_fits_11 rfl (lv_at hl 2 rfl) ?_
    refine lv_iload_n hx hb dX11_fits_12 rfl (lv_at hl 3 rfl) ?_
    refine z_Vi (bc := [[zO10 xo t im mk rd po co tr wa wb_ fi cd], wt, z0_, z1_, wg0_, wg1_, wwA, wwB, wff]) (br := []) (As := [.int i1, .int i2]) (rest := []) C G (c_t_fit l T xo t im mk rd po co tr wa wb_ fi cd l0 l1 d0 d1 g0 g1 ln fl pl ft fk wt cr0_ inn0_ k10_ k20_ k30_ k40_ z0_ cr1_ inn1_ k11_ k21_ k31_ k41_ z1_ gg0_ q10_ q20_ wg0_ gg1_ q11_ q21_ wg1_ laA mdA wyA pc_A f1A f2A f3A f4A f5A f6A n4A wwA laB mdB wyB pc_B f1B f2B f3B f4B f5B f6B n4B wwB e0f e1f e2f e3f e4f e5f r1f m1f r2f wff i1 i2 ht (by first | with_reducible assumption | with_reducible rfl | omega | assumption | rfl) hz0_ (by first | with_reducible assumption | with_reducible rfl | omega | assumption | rfl) hz1_ (by first | with_reducible assumption | with_reducible rfl | omega | assumption | rfl) hg0_ hg1_ hwwA (by first | with_reducible assumption | with_reducible rfl | omega | assumption | rfl) (by first | with_reducible assumption | with_reducible rfl | omega | assumption | rfl) (by first | with_reducible assumption | with_reducible rfl | omega | assumption | rfl) (by first | with_reducible assumption | with_reducible rfl | omega | assumption | rfl) (by first | with_reducible assumption | with_reducible rfl | omega | assumption | rfl) hwwB (by first | with_reducible assumption | with_reducible rfl | omega | assumption | rfl) (by first | with_reducible assumption | with_reducible rfl | omega | assumption | rfl) (by first | with_reducible assumption | with_reducible rfl | omega | assumption | rfl) (by first | with_reducible assumption | with_reducible rfl | omega | assumption | rfl) (by first | with_reducible assumption | with_reducible rfl | omega | assumption | rfl) hwff hfw hf3 hFI) (kV_RX11_302 C.2.2.2.2 (Nat.le_of_ble_eq_true rfl) (Nat.le_of_ble_eq_true rfl)) [0, 8, 1, 2, 3, 4, 5, 6, 7] [0, 0, 0, 0, 0, 0, 0, 0, 0] rfl rfl (ci := 10) (qc := (RX11, TX11, 11)) rfl rfl (List.mem_flatten.mpr ⟨_, List.mem_of_getElem? (i := 0) rfl, List.mem_cons_self⟩) rfl rfl hl.1 dX11_fits_13 (Nat.le_of_ble_eq_true rfl) (by show _ + (6 * (zNA (i1.toInt = 0 ∧ 0 < (fk 0).toInt ∧ (0 ≤ i2.toInt ∧ i2.toInt < (fk 2).toInt ∧ i2.toInt < 2) ∧ (e0f.toInt = 0 ∨ ¬ e1f.toInt = i1.toInt ∨ ¬ e2f.toInt = i2.toInt)) mdA n4A (zPl cr0_ inn0_ k10_) - n4A) + 6 * (zNA (i1.toInt = 1 ∧ 1 < (fk 0).toInt ∧ (0 ≤ i2.toInt ∧ i2.toInt < (fk 2).toInt ∧ i2.toInt < 2) ∧ (e0f.toInt = 0 ∨ ¬ e1f.toInt = i1.toInt ∨ ¬ e2f.toInt = i2.toInt)) mdB n4B (zPl cr1_ inn1_ k11_) - n4B) + 2 * (zNF (i1.toInt = 1 ∧ 1 < (fk 0).toInt ∧ (0 ≤ i2.toInt ∧ i2.toInt < (fk 2).toInt ∧ i2.toInt < 2) ∧ (e0f.toInt = 0 ∨ ¬ e1f.toInt = i1.toInt ∨ ¬ e2f.toInt = i2.toInt)) (zNF (i1.toInt = 0 ∧ 0 < (fk 0).toInt ∧ (0 ≤ i2.toInt ∧ i2.toInt < (fk 2).toInt ∧ i2.toInt < 2) ∧ (e0f.toInt = 0 ∨ ¬ e1f.toInt = i1.toInt ∨ ¬ e2f.toInt = i2.toInt)) m1f (zMw mdA wyA cr0_ inn0_ k10_)) (zMw mdB wyB cr1_ inn1_ k11_) - m1f)) ≤ 6 * (zNA (i1.toInt = 0 ∧ 0 < (fk 0).toInt ∧ (0 ≤ i2.toInt ∧ i2.toInt < (fk 2).toInt ∧ i2.toInt < 2) ∧ (e0f.toInt = 0 ∨ ¬ e1f.toInt = i1.toInt ∨ ¬ e2f.toInt = i2.toInt)) mdA n4A (zPl cr0_ inn0_ k10_) - n4A) + 6 * (zNA (i1.toInt = 1 ∧ 1 < (fk 0).toInt ∧ (0 ≤ i2.toInt ∧ i2.toInt < (fk 2).toInt ∧ i2.toInt < 2) ∧ (e0f.toInt = 0 ∨ ¬ e1f.toInt = i1.toInt ∨ ¬ e2f.toInt = i2.toInt)) mdB n4B (zPl cr1_ inn1_ k11_) - n4B) + 2 * (zNF (i1.toInt = 1 ∧ 1 < (fk 0).toInt ∧ (0 ≤ i2.toInt ∧ i2.toInt < (fk 2).toInt ∧ i2.toInt < 2) ∧ (e0f.toInt = 0 ∨ ¬ e1f.toInt = i1.toInt ∨ ¬ e2f.toInt = i2.toInt)) (zNF (i1.toInt = 0 ∧ 0 < (fk 0).toInt ∧ (0 ≤ i2.toInt ∧ i2.toInt < (fk 2).toInt ∧ i2.toInt < 2) ∧ (e0f.toInt = 0 ∨ ¬ e1f.toInt = i1.toInt ∨ ¬ e2f.toInt = i2.toInt)) m1f (zMw mdA wyA cr0_ inn0_ k10_)) (zMw mdB wyB cr1_ inn1_ k11_) - m1f); omega) (fun r_62 b1 H locs hw G => ?_)
    refine zEx34 hw ?_
    intro laA_8 mdA_9 wyA_10 pc_A_11 f1A_12 f2A_13 f3A_14 f4A_15 f5A_16 f6A_17 n4A_18 wwA_19 laB_20 mdB_21 wyB_22 pc_B_23 f1B_24 f2B_25 f3B_26 f4B_27 f5B_28 f6B_29 n4B_30 wwB_31 e0f_32 e1f_33 e2f_34 e3f_35 e4f_36 e5f_37 r1f_38 m1f_39 r2f_40 wff_41
    refine zCu21 ?_
    intro hbs9 h_42 h_43 h_44 h_45 h_46 h_47 h_48 h_49 h_50 h_51 h_52 h_53 h_54 h_55 h_56 h_57 h_58 h_59 h_60 h_61
    clear hw
    subst hbs9
    have G : zS T A s.heap s [[zO10 xo t im mk rd po co tr wa wb_ fi cd], wt, z0_, z1_, wg0_, wg1_, wwA_19, wwB_31, wff_41] _ _ := G
    replace h_43 : zHd ((mdA_9 = 0 ∨ laA_8 = l0)) := h_43
    replace h_47 : zHd ((¬ mdA = 0 → ¬ mdA_9 = 0)) := h_47
    replace h_48 : zHd ((mdA_9 = 0 ∨ zTab cr0_ inn0_ k10_ k20_ wyA_10 pc_A_11 f1A_12 f2A_13 f5A_16 n4A_18)) := h_48
    replace h_50 : zHd ((mdB_21 = 0 ∨ laB_20 = l1)) := h_50
    replace h_54 : zHd ((¬ mdB = 0 → ¬ mdB_21 = 0)) := h_54
    replace h_55 : zHd ((mdB_21 = 0 ∨ zTab cr1_ inn1_ k11_ k21_ wyB_22 pc_B_23 f1B_24 f2B_25 f5B_28 n4B_30)) := h_55
    replace h_61 : zHd ((¬ e0f_32 = 0 → e1f_33.toInt = 0 ∧ ¬ mdA_9 = 0 ∨ e1f_33.toInt = 1 ∧ ¬ mdB_21 = 0)) := h_61
    have hfm9 : m1f_39 ≤ 16384 := zFw_le h_58
    refine lv_if_eq (tgt := 28) hx hb dX11_fits_16 (by decide) (fun c_63 => ?_) (fun c_63 => ?_)
    · have c_63n : r_62.toInt = (0 : Int) := (fa_eq _ _).mp c_63
      refine lv_bipush (v := (-2)) hx hb dX11_fits_28 (by decide) ?_
      exact z_back hQz_ (z_iret C hr hlocks G (Nat.le_of_ble_eq_true rfl) (by omega) dX11_fits_30 ⟨laA_8, mdA_9, wyA_10, pc_A_11, f1A_12, f2A_13, f3A_14, f4A_15, f5A_16, f6A_17, n4A_18, wwA_19, laB_20, mdB_21, wyB_22, pc_B_23, f1B_24, f2B_25, f3B_26, f4B_27, f5B_28, f6B_29, n4B_30, wwB_31, e0f_32, e1f_33, e2f_34, e3f_35, e4f_36, e5f_37, r1f_38, m1f_39, r2f_40, wff_41, rfl, h_42, h_43, h_44, h_45, h_46, h_47, h_48, h_49, h_50, h_51, h_52, h_53, h_54, h_55, h_56, h_57, h_58, h_59, h_61⟩)
    · have c_63n : ¬ r_62.toInt = (0 : Int) := fun q => c_63 ((fa_eq _ _).mpr q)
      refine lv_aloadN hx hb dX11_fits_19 (lv_at hl 0 rfl) ?_
      refine lv_ifnullN (tgt := 28) hx hb dX11_fits_21 (by decide) ?_
      refine lv_bipush (v := (-2)) hx hb dX11_fits_28 (by decide) ?_
      exact z_back hQz_ (z_iret C hr hlocks G (Nat.le_of_ble_eq_true rfl) (by omega) dX11_fits_30 ⟨laA_8, mdA_9, wyA_10, pc_A_11, f1A_12, f2A_13, f3A_14, f4A_15, f5A_16, f6A_17, n4A_18, wwA_19, laB_20, mdB_21, wyB_22, pc_B_23, f1B_24, f2B_25, f3B_26, f4B_27, f5B_28, f6B_29, n4B_30, wwB_31, e0f_32, e1f_33, e2f_34, e3f_35, e4f_36, e5f_37, r1f_38, m1f_39, r2f_40, wff_41, rfl, h_42, h_43, h_44, h_45, h_46, h_47, h_48, h_49, h_50, h_51, h_52, h_53, h_54, h_55, h_56, h_57, h_58, h_59, h_61⟩)
  · have h_4 : i1.toInt = 0 := h_4
    have h_5 : 0 < (fk 0).toInt := h_5
    refine lv_astore (lv' := [(4, .ref l0), (0, .ref xo), (1, .int i1), (2, .int i2), (3, .int w_)]) hx hb dX11_fits_8 hl (by decide) (zLvf_h rfl) (fun ls hl => ?_)
    refine lv_aload_n hx hb dX11_fits_10 rfl (lv_at hl 1 rfl) ?_
    refine lv_iload_n hx hb dX11_fits_11 rfl (lv_at hl 2 rfl) ?_
    refine lv_iload_n hx hb dX11_fits_12 rfl (lv_at hl 3 rfl) ?_
    refine z_Vi (bc := [[zO10 xo t im mk rd po co tr wa wb_ fi cd], wt, z0_, z1_, wg0_, wg1_, wwA, wwB, wff]) (br := []) (As := [.int i1, .int i2]) (rest := []) C G (c_t_fit l T xo t im mk rd po co tr wa wb_ fi cd l0 l1 d0 d1 g0 g1 ln fl pl ft fk wt cr0_ inn0_ k10_ k20_ k30_ k40_ z0_ cr1_ inn1_ k11_ k21_ k31_ k41_ z1_ gg0_ q10_ q20_ wg0_ gg1_ q11_ q21_ wg1_ laA mdA wyA pc_A f1A f2A f3A f4A f5A f6A n4A wwA laB mdB wyB pc_B f1B f2B f3B f4B f5B f6B n4B wwB e0f e1f e2f e3f e4f e5f r1f m1f r2f wff i1 i2 ht (by first | with_reducible assumption | with_reducible rfl | omega | assumption | rfl) hz0_ (by first | with_reducible assumption | with_reducible rfl | omega | assumption | rfl) hz1_ (by first | with_reducible assumption | with_reducible rfl | omega | assumption | rfl) hg0_ hg1_ hwwA (by first | with_reducible assumption | with_reducible rfl | omega | assumption | rfl) (by first | with_reducible assumption | with_reducible rfl | omega | assumption | rfl) (by first | with_reducible assumption | with_reducible rfl | omega | assumption | rfl) (by first | with_reducible assumption | with_reducible rfl | omega | assumption | rfl) (by first | with_reducible assumption | with_reducible rfl | omega | assumption | rfl) hwwB (by first | with_reducible assumption | with_reducible rfl | omega | assumption | rfl) (by first | with_reducible assumption | with_reducible rfl | omega | assumption | rfl) (by first | with_reducible assumption | with_reducible rfl | omega | assumption | rfl) (by first | with_reducible assumption | with_reducible rfl | omega | assumption | rfl) (by first | with_reducible assumption | with_reducible rfl | omega | assumption | rfl) hwff hfw hf3 hFI) (kV_RX11_302 C.2.2.2.2 (Nat.le_of_ble_eq_true rfl) (Nat.le_of_ble_eq_true rfl)) [0, 8, 1, 2, 3, 4, 5, 6, 7] [0, 0, 0, 0, 0, 0, 0, 0, 0] rfl rfl (ci := 10) (qc := (RX11, TX11, 11)) rfl rfl (List.mem_flatten.mpr ⟨_, List.mem_of_getElem? (i := 0) rfl, List.mem_cons_self⟩) rfl rfl hl.1 dX11_fits_13 (Nat.le_of_ble_eq_true rfl) (by show _ + (6 * (zNA (i1.toInt = 0 ∧ 0 < (fk 0).toInt ∧ (0 ≤ i2.toInt ∧ i2.toInt < (fk 2).toInt ∧ i2.toInt < 2) ∧ (e0f.toInt = 0 ∨ ¬ e1f.toInt = i1.toInt ∨ ¬ e2f.toInt = i2.toInt)) mdA n4A (zPl cr0_ inn0_ k10_) - n4A) + 6 * (zNA (i1.toInt = 1 ∧ 1 < (fk 0).toInt ∧ (0 ≤ i2.toInt ∧ i2.toInt < (fk 2).toInt ∧ i2.toInt < 2) ∧ (e0f.toInt = 0 ∨ ¬ e1f.toInt = i1.toInt ∨ ¬ e2f.toInt = i2.toInt)) mdB n4B (zPl cr1_ inn1_ k11_) - n4B) + 2 * (zNF (i1.toInt = 1 ∧ 1 < (fk 0).toInt ∧ (0 ≤ i2.toInt ∧ i2.toInt < (fk 2).toInt ∧ i2.toInt < 2) ∧ (e0f.toInt = 0 ∨ ¬ e1f.toInt = i1.toInt ∨ ¬ e2f.toInt = i2.toInt)) (zNF (i1.toInt = 0 ∧ 0 < (fk 0).toInt ∧ (0 ≤ i2.toInt ∧ i2.toInt < (fk 2).toInt ∧ i2.toInt < 2) ∧ (e0f.toInt = 0 ∨ ¬ e1f.toInt = i1.toInt ∨ ¬ e2f.toInt = i2.toInt)) m1f (zMw mdA wyA cr0_ inn0_ k10_)) (zMw mdB wyB cr1_ inn1_ k11_) - m1f)) ≤ 6 * (zNA (i1.toInt = 0 ∧ 0 < (fk 0).toInt ∧ (0 ≤ i2.toInt ∧ i2.toInt < (fk 2).toInt ∧ i2.toInt < 2) ∧ (e0f.toInt = 0 ∨ ¬ e1f.toInt = i1.toInt ∨ ¬ e2f.toInt = i2.toInt)) mdA n4A (zPl cr0_ inn0_ k10_) - n4A) + 6 * (zNA (i1.toInt = 1 ∧ 1 < (fk 0).toInt ∧ (0 ≤ i2.toInt ∧ i2.toInt < (fk 2).toInt ∧ i2.toInt < 2) ∧ (e0f.toInt = 0 ∨ ¬ e1f.toInt = i1.toInt ∨ ¬ e2f.toInt = i2.toInt)) mdB n4B (zPl cr1_ inn1_ k11_) - n4B) + 2 * (zNF (i1.toInt = 1 ∧ 1 < (fk 0).toInt ∧ (0 ≤ i2.toInt ∧ i2.toInt < (fk 2).toInt ∧ i2.toInt < 2) ∧ (e0f.toInt = 0 ∨ ¬ e1f.toInt = i1.toInt ∨ ¬ e2f.toInt = i2.toInt)) (zNF (i1.toInt = 0 ∧ 0 < (fk 0).toInt ∧ (0 ≤ i2.toInt ∧ i2.toInt < (fk 2).toInt ∧ i2.toInt < 2) ∧ (e0f.toInt = 0 ∨ ¬ e1f.toInt = i1.toInt ∨ ¬ e2f.toInt = i2.toInt)) m1f (zMw mdA wyA cr0_ inn0_ k10_)) (zMw mdB wyB cr1_ inn1_ k11_) - m1f); omega) (fun r_118 b1 H locs hw G => ?_)
    refine zEx34 hw ?_
    intro laA_64 mdA_65 wyA_66 pc_A_67 f1A_68 f2A_69 f3A_70 f4A_71 f5A_72 f6A_73 n4A_74 wwA_75 laB_76 mdB_77 wyB_78 pc_B_79 f1B_80 f2B_81 f3B_82 f4B_83 f5B_84 f6B_85 n4B_86 wwB_87 e0f_88 e1f_89 e2f_90 e3f_91 e4f_92 e5f_93 r1f_94 m1f_95 r2f_96 wff_97
    refine zCu21 ?_
    intro hbs9 h_98 h_99 h_100 h_101 h_102 h_103 h_104 h_105 h_106 h_107 h_108 h_109 h_110 h_111 h_112 h_113 h_114 h_115 h_116 h_117
    clear hw
    subst hbs9
    have G : zS T A s.heap s [[zO10 xo t im mk rd po co tr wa wb_ fi cd], wt, z0_, z1_, wg0_, wg1_, wwA_75, wwB_87, wff_97] _ _ := G
    replace h_99 : zHd ((mdA_65 = 0 ∨ laA_64 = l0)) := h_99
    replace h_103 : zHd ((¬ mdA = 0 → ¬ mdA_65 = 0)) := h_103
    replace h_104 : zHd ((mdA_65 = 0 ∨ zTab cr0_ inn0_ k10_ k20_ wyA_66 pc_A_67 f1A_68 f2A_69 f5A_72 n4A_74)) := h_104
    replace h_106 : zHd ((mdB_77 = 0 ∨ laB_76 = l1)) := h_106
    replace h_110 : zHd ((¬ mdB = 0 → ¬ mdB_77 = 0)) := h_110
    replace h_111 : zHd ((mdB_77 = 0 ∨ zTab cr1_ inn1_ k11_ k21_ wyB_78 pc_B_79 f1B_80 f2B_81 f5B_84 n4B_86)) := h_111
    replace h_117 : zHd ((¬ e0f_88 = 0 → e1f_89.toInt = 0 ∧ ¬ mdA_65 = 0 ∨ e1f_89.toInt = 1 ∧ ¬ mdB_77 = 0)) := h_117
    have hfm9 : m1f_95 ≤ 16384 := zFw_le h_114
    refine lv_if_eq (tgt := 28) hx hb dX11_fits_16 (by decide) (fun c_119 => ?_) (fun c_119 => ?_)
    · have c_119n : r_118.toInt = (0 : Int) := (fa_eq _ _).mp c_119
      refine lv_bipush (v := (-2)) hx hb dX11_fits_28 (by decide) ?_
      exact z_back hQz_ (z_iret C hr hlocks G (Nat.le_of_ble_eq_true rfl) (by omega) dX11_fits_30 ⟨laA_64, mdA_65, wyA_66, pc_A_67, f1A_68, f2A_69, f3A_70, f4A_71, f5A_72, f6A_73, n4A_74, wwA_75, laB_76, mdB_77, wyB_78, pc_B_79, f1B_80, f2B_81, f3B_82, f4B_83, f5B_84, f6B_85, n4B_86, wwB_87, e0f_88, e1f_89, e2f_90, e3f_91, e4f_92, e5f_93, r1f_94, m1f_95, r2f_96, wff_97, rfl, h_98, h_99, h_100, h_101, h_102, h_103, h_104, h_105, h_106, h_107, h_108, h_109, h_110, h_111, h_112, h_113, h_114, h_115, h_117⟩)
    · have c_119n : ¬ r_118.toInt = (0 : Int) := fun q => c_119 ((fa_eq _ _).mpr q)
      refine lv_aload hx hb dX11_fits_19 (lv_at hl 0 rfl) ?_
      refine lv_ifnull hx hb dX11_fits_21 ?_
      refine lv_iload_n hx hb dX11_fits_24 rfl (lv_at hl 4 rfl) ?_
      refine lv_if_ge (tgt := 31) hx hb dX11_fits_25 (by decide) (fun c_120 => ?_) (fun c_120 => ?_)
      · have c_120n : (0 : Int) ≤ w_.toInt := (fa_le _ _).mp c_120
        refine lv_aload_n hx hb dX11_fits_31 rfl (lv_at hl 1 rfl) ?_
        refine lv_iload_n hx hb dX11_fits_32 rfl (lv_at hl 2 rfl) ?_
        refine lv_aload hx hb dX11_fits_33 (lv_at hl 0 rfl) ?_
        have hX := h_116.resolve_left (fun q => absurd (congrArg Int32.toInt q.1) (by show ¬ _ = (0 : Int); omega))
        have hmk : ¬ mdA_65 = 0 := (h_117 hX.2.2.1).elim (fun q => q.2) (fun q => absurd q.1 (by have := hX.2.2.2; omega))
        have hzk : zMk mdA_65 n4A_74 (zPl cr0_ inn0_ k10_) = n4A_74 := by unfold zMk; rw [if_neg hmk]
        have hn9 : zMk mdA_65 n4A_74 (zPl cr0_ inn0_ k10_) ≤ 131072 := by rw [hzk]; exact zPw_le h_102
        refine z_Vq (bc := [[zO10 xo t im mk rd po co tr wa wb_ fi cd], wwA_75, z0_]) (br := [wt, z1_, wg0_, wg1_, wwB_87, wff_97]) (As := [.int i1, .ref l0]) (rest := []) C G (c_f_waysInA l T xo t im mk rd po co tr wa wb_ fi cd i1 laA_64 mdA_65 wyA_66 pc_A_67 f1A_68 f2A_69 f3A_70 f4A_71 f5A_72 f6A_73 n4A_74 wwA_75 l0 cr0_ inn0_ k10_ k20_ k30_ k40_ z0_ h_98 hz0_ hI0_ h_102 h_99 (kaOk hI0_ hLq0).1 h_104 (by omega)) (kV_RX11_235 C.2.2.2.2 (Nat.le_of_ble_eq_true rfl) (Nat.le_of_ble_eq_true rfl)) [0, 6, 2] [0, 1, 3] rfl rfl (ci := 10) (qc := (RX11, TX11, 11)) rfl rfl (List.mem_flatten.mpr ⟨_, List.mem_of_getElem? (i := 0) rfl, List.mem_cons_self⟩) rfl rfl hl.1 dX11_fits_35 (Nat.le_of_ble_eq_true rfl) (by show _ + (6 * (zMk mdA_65 n4A_74 (zPl cr0_ inn0_ k10_) - n4A_74)) ≤ 6 * (zNA (i1.toInt = 0 ∧ 0 < (fk 0).toInt ∧ (0 ≤ i2.toInt ∧ i2.toInt < (fk 2).toInt ∧ i2.toInt < 2) ∧ (e0f.toInt = 0 ∨ ¬ e1f.toInt = i1.toInt ∨ ¬ e2f.toInt = i2.toInt)) mdA n4A (zPl cr0_ inn0_ k10_) - n4A) + 6 * (zNA (i1.toInt = 1 ∧ 1 < (fk 0).toInt ∧ (0 ≤ i2.toInt ∧ i2.toInt < (fk 2).toInt ∧ i2.toInt < 2) ∧ (e0f.toInt = 0 ∨ ¬ e1f.toInt = i1.toInt ∨ ¬ e2f.toInt = i2.toInt)) mdB n4B (zPl cr1_ inn1_ k11_) - n4B) + 2 * (zNF (i1.toInt = 1 ∧ 1 < (fk 0).toInt ∧ (0 ≤ i2.toInt ∧ i2.toInt < (fk 2).toInt ∧ i2.toInt < 2) ∧ (e0f.toInt = 0 ∨ ¬ e1f.toInt = i1.toInt ∨ ¬ e2f.toInt = i2.toInt)) (zNF (i1.toInt = 0 ∧ 0 < (fk 0).toInt ∧ (0 ≤ i2.toInt ∧ i2.toInt < (fk 2).toInt ∧ i2.toInt < 2) ∧ (e0f.toInt = 0 ∨ ¬ e1f.toInt = i1.toInt ∨ ¬ e2f.toInt = i2.toInt)) m1f (zMw mdA wyA cr0_ inn0_ k10_)) (zMw mdB wyB cr1_ inn1_ k11_) - m1f); omega) (fun r_135 b1 H locs hw G => ?_)
        refine zEx9 hw ?_
        intro w2_121 m2_122 wy2_123 pc2_124 g1_125 g2_126 g4_127 g5_128 g6_129
        refine zCu6 ?_
        intro hbs9 h_130 h_131 h_132 h_133 h_134
        clear hw
        subst hbs9
        have G : zS T A s.heap s [wt, z1_, wg0_, wg1_, wwB_87, wff_97, [zO10 xo t im mk rd po co tr wa wb_ fi cd], w2_121, z0_] _ _ := G
        subst h_130
        have hwy9 : 0 ≤ wy2_123.toInt ∧ wy2_123.toInt ≤ 16384 := by have q9 := zWy_in (inn := inn0_) hI0_; rw [h_132]; exact ⟨by omega, q9.2⟩
        refine lv_astore (lv' := [(5, .ref wa), (4, .ref l0), (0, .ref xo), (1, .int i1), (2, .int i2), (3, .int w_)]) hx hb dX11_fits_38 hl (by decide) (zLvf_h rfl) (fun ls hl => ?_)
        refine lv_iload_n hx hb dX11_fits_40 rfl (lv_at hl 5 rfl) ?_
        refine lv_if_ne (tgt := 52) hx hb dX11_fits_41 (by decide) (fun c_136 => ?_) (fun c_136 => ?_)
        · have c_136n : ¬ w_.toInt = (0 : Int) := fun q => c_136 ((fa_eq _ _).mpr q)
          refine lv_iload_n hx hb dX11_fits_52 rfl (lv_at hl 5 rfl) ?_
          refine lv_iconst (v := 1) hx hb dX11_fits_53 (by decide) ?_
          refine lv_icmp_ne (tgt := 67) hx hb dX11_fits_54 (by decide) (fun c_137 => ?_) (fun c_137 => ?_)
          · have c_137n : ¬ w_.toInt = (1 : Int) := fun q => c_137 ((fa_eq _ _).mpr q)
            refine lv_iload_n hx hb dX11_fits_67 rfl (lv_at hl 5 rfl) ?_
            refine lv_bipush (v := 9) hx hb dX11_fits_68 (by decide) ?_
            refine lv_icmp_ge (tgt := 86) hx hb dX11_fits_70 (by decide) (fun c_138 => ?_) (fun c_138 => ?_)
            · have c_138n : (9 : Int) ≤ w_.toInt := (fa_le _ _).mp c_138
              refine lv_iload_n hx hb dX11_fits_86 rfl (lv_at hl 5 rfl) ?_
              refine lv_bipush (v := 10) hx hb dX11_fits_87 (by decide) ?_
              refine lv_isub hx hb dX11_fits_89 ?_
              refine lv_istore (lv' := [(6, .int (w_ - 10)), (5, .ref wa), (4, .ref l0), (0, .ref xo), (1, .int i1), (2, .int i2), (3, .int w_)]) hx hb dX11_fits_90 hl (by decide) (zLvf_h rfl) (fun ls hl => ?_)
              refine lv_iload hx hb dX11_fits_92 (lv_at hl 0 rfl) ?_
              refine lv_if_lt (tgt := 126) hx hb dX11_fits_94 (by decide) (fun c_139 => ?_) (fun c_139 => ?_)
              · have c_139n : (w_ - 10).toInt < (0 : Int) := (fa_lt _ _).mp c_139
                refine lv_bipush (v := (-2)) hx hb dX11_fits_126 (by decide) ?_
                have G := G.sub (bs' := [[zO10 xo t im mk rd po co tr wa wb_ fi cd], wt, z0_, z1_, wg0_, wg1_, w2_121, wwB_87, wff_97]) [6, 0, 8, 1, 2, 3, 7, 4, 5] rfl
                exact z_back hQz_ (z_iret C hr hlocks G (Nat.le_of_ble_eq_true rfl) (by omega) dX11_fits_128 ⟨l0, m2_122, wy2_123, pc2_124, g1_125, g2_126, f3A_70, g4_127, g5_128, g6_129, (zMk mdA_65 n4A_74 (zPl cr0_ inn0_ k10_)), w2_121, laB_76, mdB_77, wyB_78, pc_B_79, f1B_80, f2B_81, f3B_82, f4B_83, f5B_84, f6B_85, n4B_86, wwB_87, e0f_88, e1f_89, e2f_90, e3f_91, e4f_92, e5f_93, r1f_94, m1f_95, r2f_96, wff_97, rfl, h_131, (Or.inr rfl), hwy9, (hzk.trans h_101), (by rw [hzk]; exact h_102), (fun _ => h_133), (Or.inr h_134), h_105, h_106, h_107, h_108, h_109, h_110, h_111, h_112, h_113, h_114, h_115, (fun q => (h_117 q).elim (fun w => Or.inl ⟨w.1, h_133⟩) (fun w => Or.inr ⟨w.1, w.2⟩))⟩)
              · have c_139n : ¬ (w_ - 10).toInt < (0 : Int) := fun q => c_139 ((fa_lt _ _).mpr q)
                refine lv_iload hx hb dX11_fits_97 (lv_at hl 0 rfl) ?_
                refine lv_aload_n hx hb dX11_fits_99 rfl (lv_at hl 3 rfl) ?_
                refine z_get C G clX11 6 rfl 9 (by decide) m_fl_RX11_65 rfl dX11_fits_100 ?_
                refine zEx2 h_112 ?_
                intro a1_140 a2_141 hbs9
                clear h_112
                subst hbs9
                have G : zS T A s.heap s [wt, z1_, wg0_, wg1_, wwB_87, [zO3 fi e0f_88 e1f_89 e2f_90 e3f_91 e4f_92 e5f_93 a1_140 a2_141], [zAr T 0 a1_140 m1f_95 r1f_94], [zAr T 0 a2_141 7 r2f_96], [zO10 xo t im mk rd po co tr wa wb_ fi cd], w2_121, z0_] _ _ := G.re rfl
                refine z_get C G clX3 5 rfl 3 (by decide) m_fl_RX11_306 rfl dX11_fits_103 ?_
                refine lv_icmp_ge (tgt := 126) hx hb dX11_fits_106 (by decide) (fun c_142 => ?_) (fun c_142 => ?_)
                · have c_142n : e3f_91.toInt ≤ (w_ - 10).toInt := (fa_le _ _).mp c_142
                  refine lv_bipush (v := (-2)) hx hb dX11_fits_126 (by decide) ?_
                  have hw_143 : bFit T fi e0f_88 e1f_89 e2f_90 e3f_91 e4f_92 e5f_93 r1f_94 m1f_95 r2f_96 [zO3 fi e0f_88 e1f_89 e2f_90 e3f_91 e4f_92 e5f_93 a1_140 a2_141, zAr T 0 a1_140 m1f_95 r1f_94, zAr T 0 a2_141 7 r2f_96] := ⟨a1_140, a2_141, rfl⟩
                  have G : zS T A s.heap s [wt, z1_, wg0_, wg1_, wwB_87, [zO3 fi e0f_88 e1f_89 e2f_90 e3f_91 e4f_92 e5f_93 a1_140 a2_141, zAr T 0 a1_140 m1f_95 r1f_94, zAr T 0 a2_141 7 r2f_96], [zO10 xo t im mk rd po co tr wa wb_ fi cd], w2_121, z0_] _ _ := G.re rfl
                  have G := G.sub (bs' := [[zO10 xo t im mk rd po co tr wa wb_ fi cd], wt, z0_, z1_, wg0_, wg1_, w2_121, wwB_87, [zO3 fi e0f_88 e1f_89 e2f_90 e3f_91 e4f_92 e5f_93 a1_140 a2_141, zAr T 0 a1_140 m1f_95 r1f_94, zAr T 0 a2_141 7 r2f_96]]) [6, 0, 8, 1, 2, 3, 7, 4, 5] rfl
                  exact z_back hQz_ (z_iret C hr hlocks G (Nat.le_of_ble_eq_true rfl) (by omega) dX11_fits_128 ⟨l0, m2_122, wy2_123, pc2_124, g1_125, g2_126, f3A_70, g4_127, g5_128, g6_129, (zMk mdA_65 n4A_74 (zPl cr0_ inn0_ k10_)), w2_121, laB_76, mdB_77, wyB_78, pc_B_79, f1B_80, f2B_81, f3B_82, f4B_83, f5B_84, f6B_85, n4B_86, wwB_87, e0f_88, e1f_89, e2f_90, e3f_91, e4f_92, e5f_93, r1f_94, m1f_95, r2f_96, ([zO3 fi e0f_88 e1f_89 e2f_90 e3f_91 e4f_92 e5f_93 a1_140 a2_141, zAr T 0 a1_140 m1f_95 r1f_94, zAr T 0 a2_141 7 r2f_96]), rfl, h_131, (Or.inr rfl), hwy9, (hzk.trans h_101), (by rw [hzk]; exact h_102), (fun _ => h_133), (Or.inr h_134), h_105, h_106, h_107, h_108, h_109, h_110, h_111, hw_143, h_113, h_114, h_115, (fun q => (h_117 q).elim (fun w => Or.inl ⟨w.1, h_133⟩) (fun w => Or.inr ⟨w.1, w.2⟩))⟩)
                · have c_142n : ¬ e3f_91.toInt ≤ (w_ - 10).toInt := fun q => c_142 ((fa_le _ _).mpr q)
                  refine lv_aload hx hb dX11_fits_109 (lv_at hl 1 rfl) ?_
                  refine lv_aload_n hx hb dX11_fits_111 rfl (lv_at hl 3 rfl) ?_
                  refine z_get C G clX11 8 rfl 9 (by decide) m_fl_RX11_65 rfl dX11_fits_112 ?_
                  refine lv_iload hx hb dX11_fits_115 (lv_at hl 0 rfl) ?_
                  have hw_144 : bFit T fi e0f_88 e1f_89 e2f_90 e3f_91 e4f_92 e5f_93 r1f_94 m1f_95 r2f_96 [zO3 fi e0f_88 e1f_89 e2f_90 e3f_91 e4f_92 e5f_93 a1_140 a2_141, zAr T 0 a1_140 m1f_95 r1f_94, zAr T 0 a2_141 7 r2f_96] := ⟨a1_140, a2_141, rfl⟩
                  have G : zS T A s.heap s [wt, z1_, wg0_, wg1_, wwB_87, [zO3 fi e0f_88 e1f_89 e2f_90 e3f_91 e4f_92 e5f_93 a1_140 a2_141, zAr T 0 a1_140 m1f_95 r1f_94, zAr T 0 a2_141 7 r2f_96], [zO10 xo t im mk rd po co tr wa wb_ fi cd], w2_121, z0_] _ _ := G.re rfl
                  refine z_Vi (bc := [[zO3 fi e0f_88 e1f_89 e2f_90 e3f_91 e4f_92 e5f_93 a1_140 a2_141, zAr T 0 a1_140 m1f_95 r1f_94, zAr T 0 a2_141 7 r2f_96]]) (br := [wt, z1_, wg0_, wg1_, wwB_87, [zO10 xo t im mk rd po co tr wa wb_ fi cd], w2_121, z0_]) (As := [.int (w_ - 10)]) (rest := [.ref wa]) C G (c_way l T fi e0f_88 e1f_89 e2f_90 e3f_91 e4f_92 e5f_93 r1f_94 m1f_95 r2f_96 ([zO3 fi e0f_88 e1f_89 e2f_90 e3f_91 e4f_92 e5f_93 a1_140 a2_141, zAr T 0 a1_140 m1f_95 r1f_94, zAr T 0 a2_141 7 r2f_96]) (w_ - 10) hw_144 hfm9) (kV_RX11_317 C.2.2.2.2 (Nat.le_of_ble_eq_true rfl) (Nat.le_of_ble_eq_true rfl)) [5] [5] rfl rfl (ci := 3) (qc := (RX3, TX3, 8)) rfl rfl (List.mem_flatten.mpr ⟨_, List.mem_of_getElem? (i := 0) rfl, (bFit_mem hw_144).choose_spec⟩) rfl rfl hl.1 dX11_fits_117 (Nat.le_of_ble_eq_true rfl) (by show _ + 0 ≤ 6 * (zNA (i1.toInt = 0 ∧ 0 < (fk 0).toInt ∧ (0 ≤ i2.toInt ∧ i2.toInt < (fk 2).toInt ∧ i2.toInt < 2) ∧ (e0f.toInt = 0 ∨ ¬ e1f.toInt = i1.toInt ∨ ¬ e2f.toInt = i2.toInt)) mdA n4A (zPl cr0_ inn0_ k10_) - n4A) + 6 * (zNA (i1.toInt = 1 ∧ 1 < (fk 0).toInt ∧ (0 ≤ i2.toInt ∧ i2.toInt < (fk 2).toInt ∧ i2.toInt < 2) ∧ (e0f.toInt = 0 ∨ ¬ e1f.toInt = i1.toInt ∨ ¬ e2f.toInt = i2.toInt)) mdB n4B (zPl cr1_ inn1_ k11_) - n4B) + 2 * (zNF (i1.toInt = 1 ∧ 1 < (fk 0).toInt ∧ (0 ≤ i2.toInt ∧ i2.toInt < (fk 2).toInt ∧ i2.toInt < 2) ∧ (e0f.toInt = 0 ∨ ¬ e1f.toInt = i1.toInt ∨ ¬ e2f.toInt = i2.toInt)) (zNF (i1.toInt = 0 ∧ 0 < (fk 0).toInt ∧ (0 ≤ i2.toInt ∧ i2.toInt < (fk 2).toInt ∧ i2.toInt < 2) ∧ (e0f.toInt = 0 ∨ ¬ e1f.toInt = i1.toInt ∨ ¬ e2f.toInt = i2.toInt)) m1f (zMw mdA wyA cr0_ inn0_ k10_)) (zMw mdB wyB cr1_ inn1_ k11_) - m1f); omega) (fun r_146 b1 H locs hw G => ?_)
                  refine zAn2 hw ?_
                  intro hbs9 h_145
                  clear hw
                  subst hbs9
                  have G : zS T A s.heap s [wt, z1_, wg0_, wg1_, wwB_87, [zO10 xo t im mk rd po co tr wa wb_ fi cd], w2_121, z0_, [zO3 fi e0f_88 e1f_89 e2f_90 e3f_91 e4f_92 e5f_93 a1_140 a2_141, zAr T 0 a1_140 m1f_95 r1f_94, zAr T 0 a2_141 7 r2f_96]] _ _ := G
                  subst h_145
                  refine z_Vi (bc := [w2_121, z0_]) (br := [wt, z1_, wg0_, wg1_, wwB_87, [zO10 xo t im mk rd po co tr wa wb_ fi cd], [zO3 fi e0f_88 e1f_89 e2f_90 e3f_91 e4f_92 e5f_93 a1_140 a2_141, zAr T 0 a1_140 m1f_95 r1f_94, zAr T 0 a2_141 7 r2f_96]]) (As := [.int (zFway r1f_94 m1f_95 (w_ - 10))]) (rest := []) C G (c_number l T wa l0 m2_122 wy2_123 pc2_124 g1_125 g2_126 f3A_70 g4_127 g5_128 g6_129 (zMk mdA_65 n4A_74 (zPl cr0_ inn0_ k10_)) w2_121 cr0_ inn0_ k10_ k20_ k30_ k40_ z0_ (zFway r1f_94 m1f_95 (w_ - 10)) h_131 hz0_ (by first | with_reducible assumption | with_reducible rfl | omega | assumption | rfl)) (kV_RX11_272 C.2.2.2.2 (Nat.le_of_ble_eq_true rfl) (Nat.le_of_ble_eq_true rfl)) [6, 7] [6, 0] rfl rfl (ci := 0) (qc := (RX0, TX0, 10)) rfl rfl (List.mem_flatten.mpr ⟨_, List.mem_of_getElem? (i := 0) rfl, (bWays_mem h_131).choose_spec⟩) rfl rfl hl.1 dX11_fits_120 (Nat.le_of_ble_eq_true rfl) (by show _ + 0 ≤ 6 * (zNA (i1.toInt = 0 ∧ 0 < (fk 0).toInt ∧ (0 ≤ i2.toInt ∧ i2.toInt < (fk 2).toInt ∧ i2.toInt < 2) ∧ (e0f.toInt = 0 ∨ ¬ e1f.toInt = i1.toInt ∨ ¬ e2f.toInt = i2.toInt)) mdA n4A (zPl cr0_ inn0_ k10_) - n4A) + 6 * (zNA (i1.toInt = 1 ∧ 1 < (fk 0).toInt ∧ (0 ≤ i2.toInt ∧ i2.toInt < (fk 2).toInt ∧ i2.toInt < 2) ∧ (e0f.toInt = 0 ∨ ¬ e1f.toInt = i1.toInt ∨ ¬ e2f.toInt = i2.toInt)) mdB n4B (zPl cr1_ inn1_ k11_) - n4B) + 2 * (zNF (i1.toInt = 1 ∧ 1 < (fk 0).toInt ∧ (0 ≤ i2.toInt ∧ i2.toInt < (fk 2).toInt ∧ i2.toInt < 2) ∧ (e0f.toInt = 0 ∨ ¬ e1f.toInt = i1.toInt ∨ ¬ e2f.toInt = i2.toInt)) (zNF (i1.toInt = 0 ∧ 0 < (fk 0).toInt ∧ (0 ≤ i2.toInt ∧ i2.toInt < (fk 2).toInt ∧ i2.toInt < 2) ∧ (e0f.toInt = 0 ∨ ¬ e1f.toInt = i1.toInt ∨ ¬ e2f.toInt = i2.toInt)) m1f (zMw mdA wyA cr0_ inn0_ k10_)) (zMw mdB wyB cr1_ inn1_ k11_) - m1f); omega) (fun r_147 b1 H locs hw G => ?_)
                  obtain rfl := hw
                  have G : zS T A s.heap s [wt, z1_, wg0_, wg1_, wwB_87, [zO10 xo t im mk rd po co tr wa wb_ fi cd], [zO3 fi e0f_88 e1f_89 e2f_90 e3f_91 e4f_92 e5f_93 a1_140 a2_141, zAr T 0 a1_140 m1f_95 r1f_94, zAr T 0 a2_141 7 r2f_96], w2_121, z0_] _ _ := G
                  refine lv_goto (tgt := 128) hx hb dX11_fits_123 (by decide) ?_
                  have G := G.sub (bs' := [[zO10 xo t im mk rd po co tr wa wb_ fi cd], wt, z0_, z1_, wg0_, wg1_, w2_121, wwB_87, [zO3 fi e0f_88 e1f_89 e2f_90 e3f_91 e4f_92 e5f_93 a1_140 a2_141, zAr T 0 a1_140 m1f_95 r1f_94, zAr T 0 a2_141 7 r2f_96]]) [5, 0, 8, 1, 2, 3, 7, 4, 6] rfl
                  exact z_back hQz_ (z_iret C hr hlocks G (Nat.le_of_ble_eq_true rfl) (by omega) dX11_fits_128 ⟨l0, m2_122, wy2_123, pc2_124, g1_125, g2_126, f3A_70, g4_127, g5_128, g6_129, (zMk mdA_65 n4A_74 (zPl cr0_ inn0_ k10_)), w2_121, laB_76, mdB_77, wyB_78, pc_B_79, f1B_80, f2B_81, f3B_82, f4B_83, f5B_84, f6B_85, n4B_86, wwB_87, e0f_88, e1f_89, e2f_90, e3f_91, e4f_92, e5f_93, r1f_94, m1f_95, r2f_96, ([zO3 fi e0f_88 e1f_89 e2f_90 e3f_91 e4f_92 e5f_93 a1_140 a2_141, zAr T 0 a1_140 m1f_95 r1f_94, zAr T 0 a2_141 7 r2f_96]), rfl, h_131, (Or.inr rfl), hwy9, (hzk.trans h_101), (by rw [hzk]; exact h_102), (fun _ => h_133), (Or.inr h_134), h_105, h_106, h_107, h_108, h_109, h_110, h_111, hw_144, h_113, h_114, h_115, (fun q => (h_117 q).elim (fun w => Or.inl ⟨w.1, h_133⟩) (fun w => Or.inr ⟨w.1, w.2⟩))⟩)
            · have c_138n : ¬ (9 : Int) ≤ w_.toInt := fun q => c_138 ((fa_le _ _).mpr q)
              refine lv_aload_n hx hb dX11_fits_73 rfl (lv_at hl 2 rfl) ?_
              refine z_get C G clX11 6 rfl 9 (by decide) m_fl_RX11_65 rfl dX11_fits_74 ?_
              refine lv_aload hx hb dX11_fits_77 (lv_at hl 0 rfl) ?_
              refine lv_iload_n hx hb dX11_fits_79 rfl (lv_at hl 5 rfl) ?_
              refine lv_iconst (v := 2) hx hb dX11_fits_80 (by decide) ?_
              refine lv_isub hx hb dX11_fits_81 ?_
              refine z_Vi (bc := [wff_97, w2_121, z0_]) (br := [wt, z1_, wg0_, wg1_, wwB_87, [zO10 xo t im mk rd po co tr wa wb_ fi cd]]) (As := [.ref wa, .int (w_ - 2)]) (rest := []) C G (c_sure l T fi e0f_88 e1f_89 e2f_90 e3f_91 e4f_92 e5f_93 r1f_94 m1f_95 r2f_96 wff_97 wa l0 m2_122 wy2_123 pc2_124 g1_125 g2_126 f3A_70 g4_127 g5_128 g6_129 (zMk mdA_65 n4A_74 (zPl cr0_ inn0_ k10_)) w2_121 cr0_ inn0_ k10_ k20_ k30_ k40_ z0_ (w_ - 2) h_112 h_131 hz0_ hfm9) (kV_RX11_313 C.2.2.2.2 (Nat.le_of_ble_eq_true rfl) (Nat.le_of_ble_eq_true rfl)) [5, 7, 8] [5, 1, 0] rfl rfl (ci := 3) (qc := (RX3, TX3, 8)) rfl rfl (List.mem_flatten.mpr ⟨_, List.mem_of_getElem? (i := 0) rfl, (bFit_mem h_112).choose_spec⟩) rfl rfl hl.1 dX11_fits_82 (Nat.le_of_ble_eq_true rfl) (by show _ + 0 ≤ 6 * (zNA (i1.toInt = 0 ∧ 0 < (fk 0).toInt ∧ (0 ≤ i2.toInt ∧ i2.toInt < (fk 2).toInt ∧ i2.toInt < 2) ∧ (e0f.toInt = 0 ∨ ¬ e1f.toInt = i1.toInt ∨ ¬ e2f.toInt = i2.toInt)) mdA n4A (zPl cr0_ inn0_ k10_) - n4A) + 6 * (zNA (i1.toInt = 1 ∧ 1 < (fk 0).toInt ∧ (0 ≤ i2.toInt ∧ i2.toInt < (fk 2).toInt ∧ i2.toInt < 2) ∧ (e0f.toInt = 0 ∨ ¬ e1f.toInt = i1.toInt ∨ ¬ e2f.toInt = i2.toInt)) mdB n4B (zPl cr1_ inn1_ k11_) - n4B) + 2 * (zNF (i1.toInt = 1 ∧ 1 < (fk 0).toInt ∧ (0 ≤ i2.toInt ∧ i2.toInt < (fk 2).toInt ∧ i2.toInt < 2) ∧ (e0f.toInt = 0 ∨ ¬ e1f.toInt = i1.toInt ∨ ¬ e2f.toInt = i2.toInt)) (zNF (i1.toInt = 0 ∧ 0 < (fk 0).toInt ∧ (0 ≤ i2.toInt ∧ i2.toInt < (fk 2).toInt ∧ i2.toInt < 2) ∧ (e0f.toInt = 0 ∨ ¬ e1f.toInt = i1.toInt ∨ ¬ e2f.toInt = i2.toInt)) m1f (zMw mdA wyA cr0_ inn0_ k10_)) (zMw mdB wyB cr1_ inn1_ k11_) - m1f); omega) (fun r_148 b1 H locs hw G => ?_)
              obtain rfl := hw
              have G : zS T A s.heap s [wt, z1_, wg0_, wg1_, wwB_87, [zO10 xo t im mk rd po co tr wa wb_ fi cd], wff_97, w2_121, z0_] _ _ := G
              have G := G.sub (bs' := [[zO10 xo t im mk rd po co tr wa wb_ fi cd], wt, z0_, z1_, wg0_, wg1_, w2_121, wwB_87, wff_97]) [5, 0, 8, 1, 2, 3, 7, 4, 6] rfl
              exact z_back hQz_ (z_iret C hr hlocks G (Nat.le_of_ble_eq_true rfl) (by omega) dX11_fits_85 ⟨l0, m2_122, wy2_123, pc2_124, g1_125, g2_126, f3A_70, g4_127, g5_128, g6_129, (zMk mdA_65 n4A_74 (zPl cr0_ inn0_ k10_)), w2_121, laB_76, mdB_77, wyB_78, pc_B_79, f1B_80, f2B_81, f3B_82, f4B_83, f5B_84, f6B_85, n4B_86, wwB_87, e0f_88, e1f_89, e2f_90, e3f_91, e4f_92, e5f_93, r1f_94, m1f_95, r2f_96, wff_97, rfl, h_131, (Or.inr rfl), hwy9, (hzk.trans h_101), (by rw [hzk]; exact h_102), (fun _ => h_133), (Or.inr h_134), h_105, h_106, h_107, h_108, h_109, h_110, h_111, h_112, h_113, h_114, h_115, (fun q => (h_117 q).elim (fun w => Or.inl ⟨w.1, h_133⟩) (fun w => Or.inr ⟨w.1, w.2⟩))⟩)
          · have c_137n : w_.toInt = (1 : Int) := (fa_eq _ _).mp c_137
            refine lv_aload_n hx hb dX11_fits_57 rfl (lv_at hl 2 rfl) ?_
            refine z_get C G clX11 6 rfl 9 (by decide) m_fl_RX11_65 rfl dX11_fits_58 ?_
            refine lv_aload hx hb dX11_fits_61 (lv_at hl 0 rfl) ?_
            refine z_Vi (bc := [wff_97, w2_121, z0_]) (br := [wt, z1_, wg0_, wg1_, wwB_87, [zO10 xo t im mk rd po co tr wa wb_ fi cd]]) (As := [.ref wa]) (rest := []) C G (c_ask l T fi e0f_88 e1f_89 e2f_90 e3f_91 e4f_92 e5f_93 r1f_94 m1f_95 r2f_96 wff_97 wa l0 m2_122 wy2_123 pc2_124 g1_125 g2_126 f3A_70 g4_127 g5_128 g6_129 (zMk mdA_65 n4A_74 (zPl cr0_ inn0_ k10_)) w2_121 cr0_ inn0_ k10_ k20_ k30_ k40_ z0_ h_112 h_131 hz0_ hn9 hfm9 (by first | with_reducible assumption | with_reducible rfl | omega | assumption | rfl)) (kV_RX11_309 C.2.2.2.2 (Nat.le_of_ble_eq_true rfl) (Nat.le_of_ble_eq_true rfl)) [5, 7, 8] [5, 1, 0] rfl rfl (ci := 3) (qc := (RX3, TX3, 8)) rfl rfl (List.mem_flatten.mpr ⟨_, List.mem_of_getElem? (i := 0) rfl, (bFit_mem h_112).choose_spec⟩) rfl rfl hl.1 dX11_fits_63 (Nat.le_of_ble_eq_true rfl) (by show _ + 0 ≤ 6 * (zNA (i1.toInt = 0 ∧ 0 < (fk 0).toInt ∧ (0 ≤ i2.toInt ∧ i2.toInt < (fk 2).toInt ∧ i2.toInt < 2) ∧ (e0f.toInt = 0 ∨ ¬ e1f.toInt = i1.toInt ∨ ¬ e2f.toInt = i2.toInt)) mdA n4A (zPl cr0_ inn0_ k10_) - n4A) + 6 * (zNA (i1.toInt = 1 ∧ 1 < (fk 0).toInt ∧ (0 ≤ i2.toInt ∧ i2.toInt < (fk 2).toInt ∧ i2.toInt < 2) ∧ (e0f.toInt = 0 ∨ ¬ e1f.toInt = i1.toInt ∨ ¬ e2f.toInt = i2.toInt)) mdB n4B (zPl cr1_ inn1_ k11_) - n4B) + 2 * (zNF (i1.toInt = 1 ∧ 1 < (fk 0).toInt ∧ (0 ≤ i2.toInt ∧ i2.toInt < (fk 2).toInt ∧ i2.toInt < 2) ∧ (e0f.toInt = 0 ∨ ¬ e1f.toInt = i1.toInt ∨ ¬ e2f.toInt = i2.toInt)) (zNF (i1.toInt = 0 ∧ 0 < (fk 0).toInt ∧ (0 ≤ i2.toInt ∧ i2.toInt < (fk 2).toInt ∧ i2.toInt < 2) ∧ (e0f.toInt = 0 ∨ ¬ e1f.toInt = i1.toInt ∨ ¬ e2f.toInt = i2.toInt)) m1f (zMw mdA wyA cr0_ inn0_ k10_)) (zMw mdB wyB cr1_ inn1_ k11_) - m1f); omega) (fun r_152 b1 H locs hw G => ?_)
            refine zEx2 hw ?_
            intro w2_149 g2_150
            refine zCu2 ?_
            intro hbs9 h_151
            clear hw
            subst hbs9
            have G : zS T A s.heap s [wt, z1_, wg0_, wg1_, wwB_87, [zO10 xo t im mk rd po co tr wa wb_ fi cd], w2_149, w2_121, z0_] _ _ := G
            have G := G.sub (bs' := [[zO10 xo t im mk rd po co tr wa wb_ fi cd], wt, z0_, z1_, wg0_, wg1_, w2_121, wwB_87, w2_149]) [5, 0, 8, 1, 2, 3, 7, 4, 6] rfl
            exact z_back hQz_ (z_iret C hr hlocks G (Nat.le_of_ble_eq_true rfl) (by omega) dX11_fits_66 ⟨l0, m2_122, wy2_123, pc2_124, g1_125, g2_126, f3A_70, g4_127, g5_128, g6_129, (zMk mdA_65 n4A_74 (zPl cr0_ inn0_ k10_)), w2_121, laB_76, mdB_77, wyB_78, pc_B_79, f1B_80, f2B_81, f3B_82, f4B_83, f5B_84, f6B_85, n4B_86, wwB_87, e0f_88, e1f_89, e2f_90, e3f_91, e4f_92, e5f_93, r1f_94, m1f_95, g2_150, w2_149, rfl, h_131, (Or.inr rfl), hwy9, (hzk.trans h_101), (by rw [hzk]; exact h_102), (fun _ => h_133), (Or.inr h_134), h_105, h_106, h_107, h_108, h_109, h_110, h_111, h_151, h_113, h_114, h_115, (fun q => (h_117 q).elim (fun w => Or.inl ⟨w.1, h_133⟩) (fun w => Or.inr ⟨w.1, w.2⟩))⟩)
        · have c_136n : w_.toInt = (0 : Int) := (fa_eq _ _).mp c_136
          refine lv_aload_n hx hb dX11_fits_44 rfl (lv_at hl 2 rfl) ?_
          refine z_get C G clX11 6 rfl 9 (by decide) m_fl_RX11_65 rfl dX11_fits_45 ?_
          refine zEx2 h_112 ?_
          intro a1_153 a2_154 hbs9
          clear h_112
          subst hbs9
          have G : zS T A s.heap s [wt, z1_, wg0_, wg1_, wwB_87, [zO3 fi e0f_88 e1f_89 e2f_90 e3f_91 e4f_92 e5f_93 a1_153 a2_154], [zAr T 0 a1_153 m1f_95 r1f_94], [zAr T 0 a2_154 7 r2f_96], [zO10 xo t im mk rd po co tr wa wb_ fi cd], w2_121, z0_] _ _ := G.re rfl
          refine z_get C G clX3 5 rfl 3 (by decide) m_fl_RX11_306 rfl dX11_fits_48 ?_
          have hw_155 : bFit T fi e0f_88 e1f_89 e2f_90 e3f_91 e4f_92 e5f_93 r1f_94 m1f_95 r2f_96 [zO3 fi e0f_88 e1f_89 e2f_90 e3f_91 e4f_92 e5f_93 a1_153 a2_154, zAr T 0 a1_153 m1f_95 r1f_94, zAr T 0 a2_154 7 r2f_96] := ⟨a1_153, a2_154, rfl⟩
          have G : zS T A s.heap s [wt, z1_, wg0_, wg1_, wwB_87, [zO3 fi e0f_88 e1f_89 e2f_90 e3f_91 e4f_92 e5f_93 a1_153 a2_154, zAr T 0 a1_153 m1f_95 r1f_94, zAr T 0 a2_154 7 r2f_96], [zO10 xo t im mk rd po co tr wa wb_ fi cd], w2_121, z0_] _ _ := G.re rfl
          have G := G.sub (bs' := [[zO10 xo t im mk rd po co tr wa wb_ fi cd], wt, z0_, z1_, wg0_, wg1_, w2_121, wwB_87, [zO3 fi e0f_88 e1f_89 e2f_90 e3f_91 e4f_92 e5f_93 a1_153 a2_154, zAr T 0 a1_153 m1f_95 r1f_94, zAr T 0 a2_154 7 r2f_96]]) [6, 0, 8, 1, 2, 3, 7, 4, 5] rfl
          exact z_back hQz_ (z_iret C hr hlocks G (Nat.le_of_ble_eq_true rfl) (by omega) dX11_fits_51 ⟨l0, m2_122, wy2_123, pc2_124, g1_125, g2_126, f3A_70, g4_127, g5_128, g6_129, (zMk mdA_65 n4A_74 (zPl cr0_ inn0_ k10_)), w2_121, laB_76, mdB_77, wyB_78, pc_B_79, f1B_80, f2B_81, f3B_82, f4B_83, f5B_84, f6B_85, n4B_86, wwB_87, e0f_88, e1f_89, e2f_90, e3f_91, e4f_92, e5f_93, r1f_94, m1f_95, r2f_96, ([zO3 fi e0f_88 e1f_89 e2f_90 e3f_91 e4f_92 e5f_93 a1_153 a2_154, zAr T 0 a1_153 m1f_95 r1f_94, zAr T 0 a2_154 7 r2f_96]), rfl, h_131, (Or.inr rfl), hwy9, (hzk.trans h_101), (by rw [hzk]; exact h_102), (fun _ => h_133), (Or.inr h_134), h_105, h_106, h_107, h_108, h_109, h_110, h_111, hw_155, h_113, h_114, h_115, (fun q => (h_117 q).elim (fun w => Or.inl ⟨w.1, h_133⟩) (fun w => Or.inr ⟨w.1, w.2⟩))⟩)
      · have c_120n : ¬ (0 : Int) ≤ w_.toInt := fun q => c_120 ((fa_le _ _).mpr q)
        refine lv_bipush (v := (-2)) hx hb dX11_fits_28 (by decide) ?_
        exact z_back hQz_ (z_iret C hr hlocks G (Nat.le_of_ble_eq_true rfl) (by omega) dX11_fits_30 ⟨laA_64, mdA_65, wyA_66, pc_A_67, f1A_68, f2A_69, f3A_70, f4A_71, f5A_72, f6A_73, n4A_74, wwA_75, laB_76, mdB_77, wyB_78, pc_B_79, f1B_80, f2B_81, f3B_82, f4B_83, f5B_84, f6B_85, n4B_86, wwB_87, e0f_88, e1f_89, e2f_90, e3f_91, e4f_92, e5f_93, r1f_94, m1f_95, r2f_96, wff_97, rfl, h_98, h_99, h_100, h_101, h_102, h_103, h_104, h_105, h_106, h_107, h_108, h_109, h_110, h_111, h_112, h_113, h_114, h_115, h_117⟩)
  · have h_6 : i1.toInt = 1 := h_6
    have h_7 : 1 < (fk 0).toInt := h_7
    refine lv_astore (lv' := [(4, .ref l1), (0, .ref xo), (1, .int i1), (2, .int i2), (3, .int w_)]) hx hb dX11_fits_8 hl (by decide) (zLvf_h rfl) (fun ls hl => ?_)
    refine lv_aload_n hx hb dX11_fits_10 rfl (lv_at hl 1 rfl) ?_
    refine lv_iload_n hx hb dX11_fits_11 rfl (lv_at hl 2 rfl) ?_
    refine lv_iload_n hx hb dX11_fits_12 rfl (lv_at hl 3 rfl) ?_
    refine z_Vi (bc := [[zO10 xo t im mk rd po co tr wa wb_ fi cd], wt, z0_, z1_, wg0_, wg1_, wwA, wwB, wff]) (br := []) (As := [.int i1, .int i2]) (rest := []) C G (c_t_fit l T xo t im mk rd po co tr wa wb_ fi cd l0 l1 d0 d1 g0 g1 ln fl pl ft fk wt cr0_ inn0_ k10_ k20_ k30_ k40_ z0_ cr1_ inn1_ k11_ k21_ k31_ k41_ z1_ gg0_ q10_ q20_ wg0_ gg1_ q11_ q21_ wg1_ laA mdA wyA pc_A f1A f2A f3A f4A f5A f6A n4A wwA laB mdB wyB pc_B f1B f2B f3B f4B f5B f6B n4B wwB e0f e1f e2f e3f e4f e5f r1f m1f r2f wff i1 i2 ht (by first | with_reducible assumption | with_reducible rfl | omega | assumption | rfl) hz0_ (by first | with_reducible assumption | with_reducible rfl | omega | assumption | rfl) hz1_ (by first | with_reducible assumption | with_reducible rfl | omega | assumption | rfl) hg0_ hg1_ hwwA (by first | with_reducible assumption | with_reducible rfl | omega | assumption | rfl) (by first | with_reducible assumption | with_reducible rfl | omega | assumption | rfl) (by first | with_reducible assumption | with_reducible rfl | omega | assumption | rfl) (by first | with_reducible assumption | with_reducible rfl | omega | assumption | rfl) (by first | with_reducible assumption | with_reducible rfl | omega | assumption | rfl) hwwB (by first | with_reducible assumption | with_reducible rfl | omega | assumption | rfl) (by first | with_reducible assumption | with_reducible rfl | omega | assumption | rfl) (by first | with_reducible assumption | with_reducible rfl | omega | assumption | rfl) (by first | with_reducible assumption | with_reducible rfl | omega | assumption | rfl) (by first | with_reducible assumption | with_reducible rfl | omega | assumption | rfl) hwff hfw hf3 hFI) (kV_RX11_302 C.2.2.2.2 (Nat.le_of_ble_eq_true rfl) (Nat.le_of_ble_eq_true rfl)) [0, 8, 1, 2, 3, 4, 5, 6, 7] [0, 0, 0, 0, 0, 0, 0, 0, 0] rfl rfl (ci := 10) (qc := (RX11, TX11, 11)) rfl rfl (List.mem_flatten.mpr ⟨_, List.mem_of_getElem? (i := 0) rfl, List.mem_cons_self⟩) rfl rfl hl.1 dX11_fits_13 (Nat.le_of_ble_eq_true rfl) (by show _ + (6 * (zNA (i1.toInt = 0 ∧ 0 < (fk 0).toInt ∧ (0 ≤ i2.toInt ∧ i2.toInt < (fk 2).toInt ∧ i2.toInt < 2) ∧ (e0f.toInt = 0 ∨ ¬ e1f.toInt = i1.toInt ∨ ¬ e2f.toInt = i2.toInt)) mdA n4A (zPl cr0_ inn0_ k10_) - n4A) + 6 * (zNA (i1.toInt = 1 ∧ 1 < (fk 0).toInt ∧ (0 ≤ i2.toInt ∧ i2.toInt < (fk 2).toInt ∧ i2.toInt < 2) ∧ (e0f.toInt = 0 ∨ ¬ e1f.toInt = i1.toInt ∨ ¬ e2f.toInt = i2.toInt)) mdB n4B (zPl cr1_ inn1_ k11_) - n4B) + 2 * (zNF (i1.toInt = 1 ∧ 1 < (fk 0).toInt ∧ (0 ≤ i2.toInt ∧ i2.toInt < (fk 2).toInt ∧ i2.toInt < 2) ∧ (e0f.toInt = 0 ∨ ¬ e1f.toInt = i1.toInt ∨ ¬ e2f.toInt = i2.toInt)) (zNF (i1.toInt = 0 ∧ 0 < (fk 0).toInt ∧ (0 ≤ i2.toInt ∧ i2.toInt < (fk 2).toInt ∧ i2.toInt < 2) ∧ (e0f.toInt = 0 ∨ ¬ e1f.toInt = i1.toInt ∨ ¬ e2f.toInt = i2.toInt)) m1f (zMw mdA wyA cr0_ inn0_ k10_)) (zMw mdB wyB cr1_ inn1_ k11_) - m1f)) ≤ 6 * (zNA (i1.toInt = 0 ∧ 0 < (fk 0).toInt ∧ (0 ≤ i2.toInt ∧ i2.toInt < (fk 2).toInt ∧ i2.toInt < 2) ∧ (e0f.toInt = 0 ∨ ¬ e1f.toInt = i1.toInt ∨ ¬ e2f.toInt = i2.toInt)) mdA n4A (zPl cr0_ inn0_ k10_) - n4A) + 6 * (zNA (i1.toInt = 1 ∧ 1 < (fk 0).toInt ∧ (0 ≤ i2.toInt ∧ i2.toInt < (fk 2).toInt ∧ i2.toInt < 2) ∧ (e0f.toInt = 0 ∨ ¬ e1f.toInt = i1.toInt ∨ ¬ e2f.toInt = i2.toInt)) mdB n4B (zPl cr1_ inn1_ k11_) - n4B) + 2 * (zNF (i1.toInt = 1 ∧ 1 < (fk 0).toInt ∧ (0 ≤ i2.toInt ∧ i2.toInt < (fk 2).toInt ∧ i2.toInt < 2) ∧ (e0f.toInt = 0 ∨ ¬ e1f.toInt = i1.toInt ∨ ¬ e2f.toInt = i2.toInt)) (zNF (i1.toInt = 0 ∧ 0 < (fk 0).toInt ∧ (0 ≤ i2.toInt ∧ i2.toInt < (fk 2).toInt ∧ i2.toInt < 2) ∧ (e0f.toInt = 0 ∨ ¬ e1f.toInt = i1.toInt ∨ ¬ e2f.toInt = i2.toInt)) m1f (zMw mdA wyA cr0_ inn0_ k10_)) (zMw mdB wyB cr1_ inn1_ k11_) - m1f); omega) (fun r_210 b1 H locs hw G => ?_)
    refine zEx34 hw ?_
    intro laA_156 mdA_157 wyA_158 pc_A_159 f1A_160 f2A_161 f3A_162 f4A_163 f5A_164 f6A_165 n4A_166 wwA_167 laB_168 mdB_169 wyB_170 pc_B_171 f1B_172 f2B_173 f3B_174 f4B_175 f5B_176 f6B_177 n4B_178 wwB_179 e0f_180 e1f_181 e2f_182 e3f_183 e4f_184 e5f_185 r1f_186 m1f_187 r2f_188 wff_189
    refine zCu21 ?_
    intro hbs9 h_190 h_191 h_192 h_193 h_194 h_195 h_196 h_197 h_198 h_199 h_200 h_201 h_202 h_203 h_204 h_205 h_206 h_207 h_208 h_209
    clear hw
    subst hbs9
    have G : zS T A s.heap s [[zO10 xo t im mk rd po co tr wa wb_ fi cd], wt, z0_, z1_, wg0_, wg1_, wwA_167, wwB_179, wff_189] _ _ := G
    replace h_191 : zHd ((mdA_157 = 0 ∨ laA_156 = l0)) := h_191
    replace h_195 : zHd ((¬ mdA = 0 → ¬ mdA_157 = 0)) := h_195
    replace h_196 : zHd ((mdA_157 = 0 ∨ zTab cr0_ inn0_ k10_ k20_ wyA_158 pc_A_159 f1A_160 f2A_161 f5A_164 n4A_166)) := h_196
    replace h_198 : zHd ((mdB_169 = 0 ∨ laB_168 = l1)) := h_198
    replace h_202 : zHd ((¬ mdB = 0 → ¬ mdB_169 = 0)) := h_202
    replace h_203 : zHd ((mdB_169 = 0 ∨ zTab cr1_ inn1_ k11_ k21_ wyB_170 pc_B_171 f1B_172 f2B_173 f5B_176 n4B_178)) := h_203
    replace h_209 : zHd ((¬ e0f_180 = 0 → e1f_181.toInt = 0 ∧ ¬ mdA_157 = 0 ∨ e1f_181.toInt = 1 ∧ ¬ mdB_169 = 0)) := h_209
    have hfm9 : m1f_187 ≤ 16384 := zFw_le h_206
    refine lv_if_eq (tgt := 28) hx hb dX11_fits_16 (by decide) (fun c_211 => ?_) (fun c_211 => ?_)
    · have c_211n : r_210.toInt = (0 : Int) := (fa_eq _ _).mp c_211
      refine lv_bipush (v := (-2)) hx hb dX11_fits_28 (by decide) ?_
      exact z_back hQz_ (z_iret C hr hlocks G (Nat.le_of_ble_eq_true rfl) (by omega) dX11_fits_30 ⟨laA_156, mdA_157, wyA_158, pc_A_159, f1A_160, f2A_161, f3A_162, f4A_163, f5A_164, f6A_165, n4A_166, wwA_167, laB_168, mdB_169, wyB_170, pc_B_171, f1B_172, f2B_173, f3B_174, f4B_175, f5B_176, f6B_177, n4B_178, wwB_179, e0f_180, e1f_181, e2f_182, e3f_183, e4f_184, e5f_185, r1f_186, m1f_187, r2f_188, wff_189, rfl, h_190, h_191, h_192, h_193, h_194, h_195, h_196, h_197, h_198, h_199, h_200, h_201, h_202, h_203, h_204, h_205, h_206, h_207, h_209⟩)
    · have c_211n : ¬ r_210.toInt = (0 : Int) := fun q => c_211 ((fa_eq _ _).mpr q)
      refine lv_aload hx hb dX11_fits_19 (lv_at hl 0 rfl) ?_
      refine lv_ifnull hx hb dX11_fits_21 ?_
      refine lv_iload_n hx hb dX11_fits_24 rfl (lv_at hl 4 rfl) ?_
      refine lv_if_ge (tgt := 31) hx hb dX11_fits_25 (by decide) (fun c_212 => ?_) (fun c_212 => ?_)
      · have c_212n : (0 : Int) ≤ w_.toInt := (fa_le _ _).mp c_212
        refine lv_aload_n hx hb dX11_fits_31 rfl (lv_at hl 1 rfl) ?_
        refine lv_iload_n hx hb dX11_fits_32 rfl (lv_at hl 2 rfl) ?_
        refine lv_aload hx hb dX11_fits_33 (lv_at hl 0 rfl) ?_
        have hX := h_208.resolve_left (fun q => absurd (congrArg Int32.toInt q.1) (by show ¬ _ = (0 : Int); omega))
        have hmk : ¬ mdB_169 = 0 := (h_209 hX.2.2.1).elim (fun q => absurd q.1 (by have := hX.2.2.2; omega)) (fun q => q.2)
        have hzk : zMk mdB_169 n4B_178 (zPl cr1_ inn1_ k11_) = n4B_178 := by unfold zMk; rw [if_neg hmk]
        have hn9 : zMk mdB_169 n4B_178 (zPl cr1_ inn1_ k11_) ≤ 131072 := by rw [hzk]; exact zPw_le h_201
        refine z_Vq (bc := [[zO10 xo t im mk rd po co tr wa wb_ fi cd], wwB_179, z1_]) (br := [wt, z0_, wg0_, wg1_, wwA_167, wff_189]) (As := [.int i1, .ref l1]) (rest := []) C G (c_f_waysInB l T xo t im mk rd po co tr wa wb_ fi cd i1 laB_168 mdB_169 wyB_170 pc_B_171 f1B_172 f2B_173 f3B_174 f4B_175 f5B_176 f6B_177 n4B_178 wwB_179 l1 cr1_ inn1_ k11_ k21_ k31_ k41_ z1_ h_197 hz1_ hI1_ h_201 h_198 (kaOk hI1_ hLq1).1 h_203 (by omega)) (kV_RX11_235 C.2.2.2.2 (Nat.le_of_ble_eq_true rfl) (Nat.le_of_ble_eq_true rfl)) [0, 7, 3] [0, 2, 3] rfl rfl (ci := 10) (qc := (RX11, TX11, 11)) rfl rfl (List.mem_flatten.mpr ⟨_, List.mem_of_getElem? (i := 0) rfl, List.mem_cons_self⟩) rfl rfl hl.1 dX11_fits_35 (Nat.le_of_ble_eq_true rfl) (by show _ + (6 * (zMk mdB_169 n4B_178 (zPl cr1_ inn1_ k11_) - n4B_178)) ≤ 6 * (zNA (i1.toInt = 0 ∧ 0 < (fk 0).toInt ∧ (0 ≤ i2.toInt ∧ i2.toInt < (fk 2).toInt ∧ i2.toInt < 2) ∧ (e0f.toInt = 0 ∨ ¬ e1f.toInt = i1.toInt ∨ ¬ e2f.toInt = i2.toInt)) mdA n4A (zPl cr0_ inn0_ k10_) - n4A) + 6 * (zNA (i1.toInt = 1 ∧ 1 < (fk 0).toInt ∧ (0 ≤ i2.toInt ∧ i2.toInt < (fk 2).toInt ∧ i2.toInt < 2) ∧ (e0f.toInt = 0 ∨ ¬ e1f.toInt = i1.toInt ∨ ¬ e2f.toInt = i2.toInt)) mdB n4B (zPl cr1_ inn1_ k11_) - n4B) + 2 * (zNF (i1.toInt = 1 ∧ 1 < (fk 0).toInt ∧ (0 ≤ i2.toInt ∧ i2.toInt < (fk 2).toInt ∧ i2.toInt < 2) ∧ (e0f.toInt = 0 ∨ ¬ e1f.toInt = i1.toInt ∨ ¬ e2f.toInt = i2.toInt)) (zNF (i1.toInt = 0 ∧ 0 < (fk 0).toInt ∧ (0 ≤ i2.toInt ∧ i2.toInt < (fk 2).toInt ∧ i2.toInt < 2) ∧ (e0f.toInt = 0 ∨ ¬ e1f.toInt = i1.toInt ∨ ¬ e2f.toInt = i2.toInt)) m1f (zMw mdA wyA cr0_ inn0_ k10_)) (zMw mdB wyB cr1_ inn1_ k11_) - m1f); omega) (fun r_227 b1 H locs hw G => ?_)
        refine zEx9 hw ?_
        intro w2_213 m2_214 wy2_215 pc2_216 g1_217 g2_218 g4_219 g5_220 g6_221
        refine zCu6 ?_
        intro hbs9 h_222 h_223 h_224 h_225 h_226
        clear hw
        subst hbs9
        have G : zS T A s.heap s [wt, z0_, wg0_, wg1_, wwA_167, wff_189, [zO10 xo t im mk rd po co tr wa wb_ fi cd], w2_213, z1_] _ _ := G
        subst h_222
        have hwy9 : 0 ≤ wy2_215.toInt ∧ wy2_215.toInt ≤ 16384 := by have q9 := zWy_in (inn := inn1_) hI1_; rw [h_224]; exact ⟨by omega, q9.2⟩
        refine lv_astore (lv' := [(5, .ref wb_), (4, .ref l1), (0, .ref xo), (1, .int i1), (2, .int i2), (3, .int w_)]) hx hb dX11_fits_38 hl (by decide) (zLvf_h rfl) (fun ls hl => ?_)
        refine lv_iload_n hx hb dX11_fits_40 rfl (lv_at hl 5 rfl) ?_
        refine lv_if_ne (tgt := 52) hx hb dX11_fits_41 (by decide) (fun c_228 => ?_) (fun c_228 => ?_)
        · have c_228n : ¬ w_.toInt = (0 : Int) := fun q => c_228 ((fa_eq _ _).mpr q)
          refine lv_iload_n hx hb dX11_fits_52 rfl (lv_at hl 5 rfl) ?_
          refine lv_iconst (v := 1) hx hb dX11_fits_53 (by decide) ?_
          refine lv_icmp_ne (tgt := 67) hx hb dX11_fits_54 (by decide) (fun c_229 => ?_) (fun c_229 => ?_)
          · have c_229n : ¬ w_.toInt = (1 : Int) := fun q => c_229 ((fa_eq _ _).mpr q)
            refine lv_iload_n hx hb dX11_fits_67 rfl (lv_at hl 5 rfl) ?_
            refine lv_bipush (v := 9) hx hb dX11_fits_68 (by decide) ?_
            refine lv_icmp_ge (tgt := 86) hx hb dX11_fits_70 (by decide) (fun c_230 => ?_) (fun c_230 => ?_)
            · have c_230n : (9 : Int) ≤ w_.toInt := (fa_le _ _).mp c_230
              refine lv_iload_n hx hb dX11_fits_86 rfl (lv_at hl 5 rfl) ?_
              refine lv_bipush (v := 10) hx hb dX11_fits_87 (by decide) ?_
              refine lv_isub hx hb dX11_fits_89 ?_
              refine lv_istore (lv' := [(6, .int (w_ - 10)), (5, .ref wb_), (4, .ref l1), (0, .ref xo), (1, .int i1), (2, .int i2), (3, .int w_)]) hx hb dX11_fits_90 hl (by decide) (zLvf_h rfl) (fun ls hl => ?_)
              refine lv_iload hx hb dX11_fits_92 (lv_at hl 0 rfl) ?_
              refine lv_if_lt (tgt := 126) hx hb dX11_fits_94 (by decide) (fun c_231 => ?_) (fun c_231 => ?_)
              · have c_231n : (w_ - 10).toInt < (0 : Int) := (fa_lt _ _).mp c_231
                refine lv_bipush (v := (-2)) hx hb dX11_fits_126 (by decide) ?_
                have G := G.sub (bs' := [[zO10 xo t im mk rd po co tr wa wb_ fi cd], wt, z0_, z1_, wg0_, wg1_, wwA_167, w2_213, wff_189]) [6, 0, 1, 8, 2, 3, 4, 7, 5] rfl
                exact z_back hQz_ (z_iret C hr hlocks G (Nat.le_of_ble_eq_true rfl) (by omega) dX11_fits_128 ⟨laA_156, mdA_157, wyA_158, pc_A_159, f1A_160, f2A_161, f3A_162, f4A_163, f5A_164, f6A_165, n4A_166, wwA_167, l1, m2_214, wy2_215, pc2_216, g1_217, g2_218, f3B_174, g4_219, g5_220, g6_221, (zMk mdB_169 n4B_178 (zPl cr1_ inn1_ k11_)), w2_213, e0f_180, e1f_181, e2f_182, e3f_183, e4f_184, e5f_185, r1f_186, m1f_187, r2f_188, wff_189, rfl, h_190, h_191, h_192, h_193, h_194, h_195, h_196, h_223, (Or.inr rfl), hwy9, (hzk.trans h_200), (by rw [hzk]; exact h_201), (fun _ => h_225), (Or.inr h_226), h_204, h_205, h_206, h_207, (fun q => (h_209 q).elim (fun w => Or.inl ⟨w.1, w.2⟩) (fun w => Or.inr ⟨w.1, h_225⟩))⟩)
              · have c_231n : ¬ (w_ - 10).toInt < (0 : Int) := fun q => c_231 ((fa_lt _ _).mpr q)
                refine lv_iload hx hb dX11_fits_97 (lv_at hl 0 rfl) ?_
                refine lv_aload_n hx hb dX11_fits_99 rfl (lv_at hl 3 rfl) ?_
                refine z_get C G clX11 6 rfl 9 (by decide) m_fl_RX11_65 rfl dX11_fits_100 ?_
                refine zEx2 h_204 ?_
                intro a1_232 a2_233 hbs9
                clear h_204
                subst hbs9
                have G : zS T A s.heap s [wt, z0_, wg0_, wg1_, wwA_167, [zO3 fi e0f_180 e1f_181 e2f_182 e3f_183 e4f_184 e5f_185 a1_232 a2_233], [zAr T 0 a1_232 m1f_187 r1f_186], [zAr T 0 a2_233 7 r2f_188], [zO10 xo t im mk rd po co tr wa wb_ fi cd], w2_213, z1_] _ _ := G.re rfl
                refine z_get C G clX3 5 rfl 3 (by decide) m_fl_RX11_306 rfl dX11_fits_103 ?_
                refine lv_icmp_ge (tgt := 126) hx hb dX11_fits_106 (by decide) (fun c_234 => ?_) (fun c_234 => ?_)
                · have c_234n : e3f_183.toInt ≤ (w_ - 10).toInt := (fa_le _ _).mp c_234
                  refine lv_bipush (v := (-2)) hx hb dX11_fits_126 (by decide) ?_
                  have hw_235 : bFit T fi e0f_180 e1f_181 e2f_182 e3f_183 e4f_184 e5f_185 r1f_186 m1f_187 r2f_188 [zO3 fi e0f_180 e1f_181 e2f_182 e3f_183 e4f_184 e5f_185 a1_232 a2_233, zAr T 0 a1_232 m1f_187 r1f_186, zAr T 0 a2_233 7 r2f_188] := ⟨a1_232, a2_233, rfl⟩
                  have G : zS T A s.heap s [wt, z0_, wg0_, wg1_, wwA_167, [zO3 fi e0f_180 e1f_181 e2f_182 e3f_183 e4f_184 e5f_185 a1_232 a2_233, zAr T 0 a1_232 m1f_187 r1f_186, zAr T 0 a2_233 7 r2f_188], [zO10 xo t im mk rd po co tr wa wb_ fi cd], w2_213, z1_] _ _ := G.re rfl
                  have G := G.sub (bs' := [[zO10 xo t im mk rd po co tr wa wb_ fi cd], wt, z0_, z1_, wg0_, wg1_, wwA_167, w2_213, [zO3 fi e0f_180 e1f_181 e2f_182 e3f_183 e4f_184 e5f_185 a1_232 a2_233, zAr T 0 a1_232 m1f_187 r1f_186, zAr T 0 a2_233 7 r2f_188]]) [6, 0, 1, 8, 2, 3, 4, 7, 5] rfl
                  exact z_back hQz_ (z_iret C hr hlocks G (Nat.le_of_ble_eq_true rfl) (by omega) dX11_fits_128 ⟨laA_156, mdA_157, wyA_158, pc_A_159, f1A_160, f2A_161, f3A_162, f4A_163, f5A_164, f6A_165, n4A_166, wwA_167, l1, m2_214, wy2_215, pc2_216, g1_217, g2_218, f3B_174, g4_219, g5_220, g6_221, (zMk mdB_169 n4B_178 (zPl cr1_ inn1_ k11_)), w2_213, e0f_180, e1f_181, e2f_182, e3f_183, e4f_184, e5f_185, r1f_186, m1f_187, r2f_188, ([zO3 fi e0f_180 e1f_181 e2f_182 e3f_183 e4f_184 e5f_185 a1_232 a2_233, zAr T 0 a1_232 m1f_187 r1f_186, zAr T 0 a2_233 7 r2f_188]), rfl, h_190, h_191, h_192, h_193, h_194, h_195, h_196, h_223, (Or.inr rfl), hwy9, (hzk.trans h_200), (by rw [hzk]; exact h_201), (fun _ => h_225), (Or.inr h_226), hw_235, h_205, h_206, h_207, (fun q => (h_209 q).elim (fun w => Or.inl ⟨w.1, w.2⟩) (fun w => Or.inr ⟨w.1, h_225⟩))⟩)
                · have c_234n : ¬ e3f_183.toInt ≤ (w_ - 10).toInt := fun q => c_234 ((fa_le _ _).mpr q)
                  refine lv_aload hx hb dX11_fits_109 (lv_at hl 1 rfl) ?_
                  refine lv_aload_n hx hb dX11_fits_111 rfl (lv_at hl 3 rfl) ?_
                  refine z_get C G clX11 8 rfl 9 (by decide) m_fl_RX11_65 rfl dX11_fits_112 ?_
                  refine lv_iload hx hb dX11_fits_115 (lv_at hl 0 rfl) ?_
                  have hw_236 : bFit T fi e0f_180 e1f_181 e2f_182 e3f_183 e4f_184 e5f_185 r1f_186 m1f_187 r2f_188 [zO3 fi e0f_180 e1f_181 e2f_182 e3f_183 e4f_184 e5f_185 a1_232 a2_233, zAr T 0 a1_232 m1f_187 r1f_186, zAr T 0 a2_233 7 r2f_188] := ⟨a1_232, a2_233, rfl⟩
                  have G : zS T A s.heap s [wt, z0_, wg0_, wg1_, wwA_167, [zO3 fi e0f_180 e1f_181 e2f_182 e3f_183 e4f_184 e5f_185 a1_232 a2_233, zAr T 0 a1_232 m1f_187 r1f_186, zAr T 0 a2_233 7 r2f_188], [zO10 xo t im mk rd po co tr wa wb_ fi cd], w2_213, z1_] _ _ := G.re rfl
                  refine z_Vi (bc := [[zO3 fi e0f_180 e1f_181 e2f_182 e3f_183 e4f_184 e5f_185 a1_232 a2_233, zAr T 0 a1_232 m1f_187 r1f_186, zAr T 0 a2_233 7 r2f_188]]) (br := [wt, z0_, wg0_, wg1_, wwA_167, [zO10 xo t im mk rd po co tr wa wb_ fi cd], w2_213, z1_]) (As := [.int (w_ - 10)]) (rest := [.ref wb_]) C G (c_way l T fi e0f_180 e1f_181 e2f_182 e3f_183 e4f_184 e5f_185 r1f_186 m1f_187 r2f_188 ([zO3 fi e0f_180 e1f_181 e2f_182 e3f_183 e4f_184 e5f_185 a1_232 a2_233, zAr T 0 a1_232 m1f_187 r1f_186, zAr T 0 a2_233 7 r2f_188]) (w_ - 10) hw_236 hfm9) (kV_RX11_317 C.2.2.2.2 (Nat.le_of_ble_eq_true rfl) (Nat.le_of_ble_eq_true rfl)) [5] [5] rfl rfl (ci := 3) (qc := (RX3, TX3, 8)) rfl rfl (List.mem_flatten.mpr ⟨_, List.mem_of_getElem? (i := 0) rfl, (bFit_mem hw_236).choose_spec⟩) rfl rfl hl.1 dX11_fits_117 (Nat.le_of_ble_eq_true rfl) (by show _ + 0 ≤ 6 * (zNA (i1.toInt = 0 ∧ 0 < (fk 0).toInt ∧ (0 ≤ i2.toInt ∧ i2.toInt < (fk 2).toInt ∧ i2.toInt < 2) ∧ (e0f.toInt = 0 ∨ ¬ e1f.toInt = i1.toInt ∨ ¬ e2f.toInt = i2.toInt)) mdA n4A (zPl cr0_ inn0_ k10_) - n4A) + 6 * (zNA (i1.toInt = 1 ∧ 1 < (fk 0).toInt ∧ (0 ≤ i2.toInt ∧ i2.toInt < (fk 2).toInt ∧ i2.toInt < 2) ∧ (e0f.toInt = 0 ∨ ¬ e1f.toInt = i1.toInt ∨ ¬ e2f.toInt = i2.toInt)) mdB n4B (zPl cr1_ inn1_ k11_) - n4B) + 2 * (zNF (i1.toInt = 1 ∧ 1 < (fk 0).toInt ∧ (0 ≤ i2.toInt ∧ i2.toInt < (fk 2).toInt ∧ i2.toInt < 2) ∧ (e0f.toInt = 0 ∨ ¬ e1f.toInt = i1.toInt ∨ ¬ e2f.toInt = i2.toInt)) (zNF (i1.toInt = 0 ∧ 0 < (fk 0).toInt ∧ (0 ≤ i2.toInt ∧ i2.toInt < (fk 2).toInt ∧ i2.toInt < 2) ∧ (e0f.toInt = 0 ∨ ¬ e1f.toInt = i1.toInt ∨ ¬ e2f.toInt = i2.toInt)) m1f (zMw mdA wyA cr0_ inn0_ k10_)) (zMw mdB wyB cr1_ inn1_ k11_) - m1f); omega) (fun r_238 b1 H locs hw G => ?_)
                  refine zAn2 hw ?_
                  intro hbs9 h_237
                  clear hw
                  subst hbs9
                  have G : zS T A s.heap s [wt, z0_, wg0_, wg1_, wwA_167, [zO10 xo t im mk rd po co tr wa wb_ fi cd], w2_213, z1_, [zO3 fi e0f_180 e1f_181 e2f_182 e3f_183 e4f_184 e5f_185 a1_232 a2_233, zAr T 0 a1_232 m1f_187 r1f_186, zAr T 0 a2_233 7 r2f_188]] _ _ := G
                  subst h_237
                  refine z_Vi (bc := [w2_213, z1_]) (br := [wt, z0_, wg0_, wg1_, wwA_167, [zO10 xo t im mk rd po co tr wa wb_ fi cd], [zO3 fi e0f_180 e1f_181 e2f_182 e3f_183 e4f_184 e5f_185 a1_232 a2_233, zAr T 0 a1_232 m1f_187 r1f_186, zAr T 0 a2_233 7 r2f_188]]) (As := [.int (zFway r1f_186 m1f_187 (w_ - 10))]) (rest := []) C G (c_number l T wb_ l1 m2_214 wy2_215 pc2_216 g1_217 g2_218 f3B_174 g4_219 g5_220 g6_221 (zMk mdB_169 n4B_178 (zPl cr1_ inn1_ k11_)) w2_213 cr1_ inn1_ k11_ k21_ k31_ k41_ z1_ (zFway r1f_186 m1f_187 (w_ - 10)) h_223 hz1_ (by first | with_reducible assumption | with_reducible rfl | omega | assumption | rfl)) (kV_RX11_272 C.2.2.2.2 (Nat.le_of_ble_eq_true rfl) (Nat.le_of_ble_eq_true rfl)) [6, 7] [6, 0] rfl rfl (ci := 0) (qc := (RX0, TX0, 10)) rfl rfl (List.mem_flatten.mpr ⟨_, List.mem_of_getElem? (i := 0) rfl, (bWays_mem h_223).choose_spec⟩) rfl rfl hl.1 dX11_fits_120 (Nat.le_of_ble_eq_true rfl) (by show _ + 0 ≤ 6 * (zNA (i1.toInt = 0 ∧ 0 < (fk 0).toInt ∧ (0 ≤ i2.toInt ∧ i2.toInt < (fk 2).toInt ∧ i2.toInt < 2) ∧ (e0f.toInt = 0 ∨ ¬ e1f.toInt = i1.toInt ∨ ¬ e2f.toInt = i2.toInt)) mdA n4A (zPl cr0_ inn0_ k10_) - n4A) + 6 * (zNA (i1.toInt = 1 ∧ 1 < (fk 0).toInt ∧ (0 ≤ i2.toInt ∧ i2.toInt < (fk 2).toInt ∧ i2.toInt < 2) ∧ (e0f.toInt = 0 ∨ ¬ e1f.toInt = i1.toInt ∨ ¬ e2f.toInt = i2.toInt)) mdB n4B (zPl cr1_ inn1_ k11_) - n4B) + 2 * (zNF (i1.toInt = 1 ∧ 1 < (fk 0).toInt ∧ (0 ≤ i2.toInt ∧ i2.toInt < (fk 2).toInt ∧ i2.toInt < 2) ∧ (e0f.toInt = 0 ∨ ¬ e1f.toInt = i1.toInt ∨ ¬ e2f.toInt = i2.toInt)) (zNF (i1.toInt = 0 ∧ 0 < (fk 0).toInt ∧ (0 ≤ i2.toInt ∧ i2.toInt < (fk 2).toInt ∧ i2.toInt < 2) ∧ (e0f.toInt = 0 ∨ ¬ e1f.toInt = i1.toInt ∨ ¬ e2f.toInt = i2.toInt)) m1f (zMw mdA wyA cr0_ inn0_ k10_)) (zMw mdB wyB cr1_ inn1_ k11_) - m1f); omega) (fun r_239 b1 H locs hw G => ?_)
                  obtain rfl := hw
                  have G : zS T A s.heap s [wt, z0_, wg0_, wg1_, wwA_167, [zO10 xo t im mk rd po co tr wa wb_ fi cd], [zO3 fi e0f_180 e1f_181 e2f_182 e3f_183 e4f_184 e5f_185 a1_232 a2_233, zAr T 0 a1_232 m1f_187 r1f_186, zAr T 0 a2_233 7 r2f_188], w2_213, z1_] _ _ := G
                  refine lv_goto (tgt := 128) hx hb dX11_fits_123 (by decide) ?_
                  have G := G.sub (bs' := [[zO10 xo t im mk rd po co tr wa wb_ fi cd], wt, z0_, z1_, wg0_, wg1_, wwA_167, w2_213, [zO3 fi e0f_180 e1f_181 e2f_182 e3f_183 e4f_184 e5f_185 a1_232 a2_233, zAr T 0 a1_232 m1f_187 r1f_186, zAr T 0 a2_233 7 r2f_188]]) [5, 0, 1, 8, 2, 3, 4, 7, 6] rfl
                  exact z_back hQz_ (z_iret C hr hlocks G (Nat.le_of_ble_eq_true rfl) (by omega) dX11_fits_128 ⟨laA_156, mdA_157, wyA_158, pc_A_159, f1A_160, f2A_161, f3A_162, f4A_163, f5A_164, f6A_165, n4A_166, wwA_167, l1, m2_214, wy2_215, pc2_216, g1_217, g2_218, f3B_174, g4_219, g5_220, g6_221, (zMk mdB_169 n4B_178 (zPl cr1_ inn1_ k11_)), w2_213, e0f_180, e1f_181, e2f_182, e3f_183, e4f_184, e5f_185, r1f_186, m1f_187, r2f_188, ([zO3 fi e0f_180 e1f_181 e2f_182 e3f_183 e4f_184 e5f_185 a1_232 a2_233, zAr T 0 a1_232 m1f_187 r1f_186, zAr T 0 a2_233 7 r2f_188]), rfl, h_190, h_191, h_192, h_193, h_194, h_195, h_196, h_223, (Or.inr rfl), hwy9, (hzk.trans h_200), (by rw [hzk]; exact h_201), (fun _ => h_225), (Or.inr h_226), hw_236, h_205, h_206, h_207, (fun q => (h_209 q).elim (fun w => Or.inl ⟨w.1, w.2⟩) (fun w => Or.inr ⟨w.1, h_225⟩))⟩)
            · have c_230n : ¬ (9 : Int) ≤ w_.toInt := fun q => c_230 ((fa_le _ _).mpr q)
              refine lv_aload_n hx hb dX11_fits_73 rfl (lv_at hl 2 rfl) ?_
              refine z_get C G clX11 6 rfl 9 (by decide) m_fl_RX11_65 rfl dX11_fits_74 ?_
              refine lv_aload hx hb dX11_fits_77 (lv_at hl 0 rfl) ?_
              refine lv_iload_n hx hb dX11_fits_79 rfl (lv_at hl 5 rfl) ?_
              refine lv_iconst (v := 2) hx hb dX11_fits_80 (by decide) ?_
              refine lv_isub hx hb dX11_fits_81 ?_
              refine z_Vi (bc := [wff_189, w2_213, z1_]) (br := [wt, z0_, wg0_, wg1_, wwA_167, [zO10 xo t im mk rd po co tr wa wb_ fi cd]]) (As := [.ref wb_, .int (w_ - 2)]) (rest := []) C G (c_sure l T fi e0f_180 e1f_181 e2f_182 e3f_183 e4f_184 e5f_185 r1f_186 m1f_187 r2f_188 wff_189 wb_ l1 m2_214 wy2_215 pc2_216 g1_217 g2_218 f3B_174 g4_219 g5_220 g6_221 (zMk mdB_169 n4B_178 (zPl cr1_ inn1_ k11_)) w2_213 cr1_ inn1_ k11_ k21_ k31_ k41_ z1_ (w_ - 2) h_204 h_223 hz1_ hfm9) (kV_RX11_313 C.2.2.2.2 (Nat.le_of_ble_eq_true rfl) (Nat.le_of_ble_eq_true rfl)) [5, 7, 8] [5, 1, 0] rfl rfl (ci := 3) (qc := (RX3, TX3, 8)) rfl rfl (List.mem_flatten.mpr ⟨_, List.mem_of_getElem? (i := 0) rfl, (bFit_mem h_204).choose_spec⟩) rfl rfl hl.1 dX11_fits_82 (Nat.le_of_ble_eq_true rfl) (by show _ + 0 ≤ 6 * (zNA (i1.toInt = 0 ∧ 0 < (fk 0).toInt ∧ (0 ≤ i2.toInt ∧ i2.toInt < (fk 2).toInt ∧ i2.toInt < 2) ∧ (e0f.toInt = 0 ∨ ¬ e1f.toInt = i1.toInt ∨ ¬ e2f.toInt = i2.toInt)) mdA n4A (zPl cr0_ inn0_ k10_) - n4A) + 6 * (zNA (i1.toInt = 1 ∧ 1 < (fk 0).toInt ∧ (0 ≤ i2.toInt ∧ i2.toInt < (fk 2).toInt ∧ i2.toInt < 2) ∧ (e0f.toInt = 0 ∨ ¬ e1f.toInt = i1.toInt ∨ ¬ e2f.toInt = i2.toInt)) mdB n4B (zPl cr1_ inn1_ k11_) - n4B) + 2 * (zNF (i1.toInt = 1 ∧ 1 < (fk 0).toInt ∧ (0 ≤ i2.toInt ∧ i2.toInt < (fk 2).toInt ∧ i2.toInt < 2) ∧ (e0f.toInt = 0 ∨ ¬ e1f.toInt = i1.toInt ∨ ¬ e2f.toInt = i2.toInt)) (zNF (i1.toInt = 0 ∧ 0 < (fk 0).toInt ∧ (0 ≤ i2.toInt ∧ i2.toInt < (fk 2).toInt ∧ i2.toInt < 2) ∧ (e0f.toInt = 0 ∨ ¬ e1f.toInt = i1.toInt ∨ ¬ e2f.toInt = i2.toInt)) m1f (zMw mdA wyA cr0_ inn0_ k10_)) (zMw mdB wyB cr1_ inn1_ k11_) - m1f); omega) (fun r_240 b1 H locs hw G => ?_)
              obtain rfl := hw
              have G : zS T A s.heap s [wt, z0_, wg0_, wg1_, wwA_167, [zO10 xo t im mk rd po co tr wa wb_ fi cd], wff_189, w2_213, z1_] _ _ := G
              have G := G.sub (bs' := [[zO10 xo t im mk rd po co tr wa wb_ fi cd], wt, z0_, z1_, wg0_, wg1_, wwA_167, w2_213, wff_189]) [5, 0, 1, 8, 2, 3, 4, 7, 6] rfl
              exact z_back hQz_ (z_iret C hr hlocks G (Nat.le_of_ble_eq_true rfl) (by omega) dX11_fits_85 ⟨laA_156, mdA_157, wyA_158, pc_A_159, f1A_160, f2A_161, f3A_162, f4A_163, f5A_164, f6A_165, n4A_166, wwA_167, l1, m2_214, wy2_215, pc2_216, g1_217, g2_218, f3B_174, g4_219, g5_220, g6_221, (zMk mdB_169 n4B_178 (zPl cr1_ inn1_ k11_)), w2_213, e0f_180, e1f_181, e2f_182, e3f_183, e4f_184, e5f_185, r1f_186, m1f_187, r2f_188, wff_189, rfl, h_190, h_191, h_192, h_193, h_194, h_195, h_196, h_223, (Or.inr rfl), hwy9, (hzk.trans h_200), (by rw [hzk]; exact h_201), (fun _ => h_225), (Or.inr h_226), h_204, h_205, h_206, h_207, (fun q => (h_209 q).elim (fun w => Or.inl ⟨w.1, w.2⟩) (fun w => Or.inr ⟨w.1, h_225⟩))⟩)
          · have c_229n : w_.toInt = (1 : Int) := (fa_eq _ _).mp c_229
            refine lv_aload_n hx hb dX11_fits_57 rfl (lv_at hl 2 rfl) ?_
            refine z_get C G clX11 6 rfl 9 (by decide) m_fl_RX11_65 rfl dX11_fits_58 ?_
            refine lv_aload hx hb dX11_fits_61 (lv_at hl 0 rfl) ?_
            refine z_Vi (bc := [wff_189, w2_213, z1_]) (br := [wt, z0_, wg0_, wg1_, wwA_167, [zO10 xo t im mk rd po co tr wa wb_ fi cd]]) (As := [.ref wb_]) (rest := []) C G (c_ask l T fi e0f_180 e1f_181 e2f_182 e3f_183 e4f_184 e5f_185 r1f_186 m1f_187 r2f_188 wff_189 wb_ l1 m2_214 wy2_215 pc2_216 g1_217 g2_218 f3B_174 g4_219 g5_220 g6_221 (zMk mdB_169 n4B_178 (zPl cr1_ inn1_ k11_)) w2_213 cr1_ inn1_ k11_ k21_ k31_ k41_ z1_ h_204 h_223 hz1_ hn9 hfm9 (by first | with_reducible assumption | with_reducible rfl | omega | assumption | rfl)) (kV_RX11_309 C.2.2.2.2 (Nat.le_of_ble_eq_true rfl) (Nat.le_of_ble_eq_true rfl)) [5, 7, 8] [5, 1, 0] rfl rfl (ci := 3) (qc := (RX3, TX3, 8)) rfl rfl (List.mem_flatten.mpr ⟨_, List.mem_of_getElem? (i := 0) rfl, (bFit_mem h_204).choose_spec⟩) rfl rfl hl.1 dX11_fits_63 (Nat.le_of_ble_eq_true rfl) (by show _ + 0 ≤ 6 * (zNA (i1.toInt = 0 ∧ 0 < (fk 0).toInt ∧ (0 ≤ i2.toInt ∧ i2.toInt < (fk 2).toInt ∧ i2.toInt < 2) ∧ (e0f.toInt = 0 ∨ ¬ e1f.toInt = i1.toInt ∨ ¬ e2f.toInt = i2.toInt)) mdA n4A (zPl cr0_ inn0_ k10_) - n4A) + 6 * (zNA (i1.toInt = 1 ∧ 1 < (fk 0).toInt ∧ (0 ≤ i2.toInt ∧ i2.toInt < (fk 2).toInt ∧ i2.toInt < 2) ∧ (e0f.toInt = 0 ∨ ¬ e1f.toInt = i1.toInt ∨ ¬ e2f.toInt = i2.toInt)) mdB n4B (zPl cr1_ inn1_ k11_) - n4B) + 2 * (zNF (i1.toInt = 1 ∧ 1 < (fk 0).toInt ∧ (0 ≤ i2.toInt ∧ i2.toInt < (fk 2).toInt ∧ i2.toInt < 2) ∧ (e0f.toInt = 0 ∨ ¬ e1f.toInt = i1.toInt ∨ ¬ e2f.toInt = i2.toInt)) (zNF (i1.toInt = 0 ∧ 0 < (fk 0).toInt ∧ (0 ≤ i2.toInt ∧ i2.toInt < (fk 2).toInt ∧ i2.toInt < 2) ∧ (e0f.toInt = 0 ∨ ¬ e1f.toInt = i1.toInt ∨ ¬ e2f.toInt = i2.toInt)) m1f (zMw mdA wyA cr0_ inn0_ k10_)) (zMw mdB wyB cr1_ inn1_ k11_) - m1f); omega) (fun r_244 b1 H locs hw G => ?_)
            refine zEx2 hw ?_
            intro w2_241 g2_242
            refine zCu2 ?_
            intro hbs9 h_243
            clear hw
            subst hbs9
            have G : zS T A s.heap s [wt, z0_, wg0_, wg1_, wwA_167, [zO10 xo t im mk rd po co tr wa wb_ fi cd], w2_241, w2_213, z1_] _ _ := G
            have G := G.sub (bs' := [[zO10 xo t im mk rd po co tr wa wb_ fi cd], wt, z0_, z1_, wg0_, wg1_, wwA_167, w2_213, w2_241]) [5, 0, 1, 8, 2, 3, 4, 7, 6] rfl
            exact z_back hQz_ (z_iret C hr hlocks G (Nat.le_of_ble_eq_true rfl) (by omega) dX11_fits_66 ⟨laA_156, mdA_157, wyA_158, pc_A_159, f1A_160, f2A_161, f3A_162, f4A_163, f5A_164, f6A_165, n4A_166, wwA_167, l1, m2_214, wy2_215, pc2_216, g1_217, g2_218, f3B_174, g4_219, g5_220, g6_221, (zMk mdB_169 n4B_178 (zPl cr1_ inn1_ k11_)), w2_213, e0f_180, e1f_181, e2f_182, e3f_183, e4f_184, e5f_185, r1f_186, m1f_187, g2_242, w2_241, rfl, h_190, h_191, h_192, h_193, h_194, h_195, h_196, h_223, (Or.inr rfl), hwy9, (hzk.trans h_200), (by rw [hzk]; exact h_201), (fun _ => h_225), (Or.inr h_226), h_243, h_205, h_206, h_207, (fun q => (h_209 q).elim (fun w => Or.inl ⟨w.1, w.2⟩) (fun w => Or.inr ⟨w.1, h_225⟩))⟩)
        · have c_228n : w_.toInt = (0 : Int) := (fa_eq _ _).mp c_228
          refine lv_aload_n hx hb dX11_fits_44 rfl (lv_at hl 2 rfl) ?_
          refine z_get C G clX11 6 rfl 9 (by decide) m_fl_RX11_65 rfl dX11_fits_45 ?_
          refine zEx2 h_204 ?_
          intro a1_245 a2_246 hbs9
          clear h_204
          subst hbs9
          have G : zS T A s.heap s [wt, z0_, wg0_, wg1_, wwA_167, [zO3 fi e0f_180 e1f_181 e2f_182 e3f_183 e4f_184 e5f_185 a1_245 a2_246], [zAr T 0 a1_245 m1f_187 r1f_186], [zAr T 0 a2_246 7 r2f_188], [zO10 xo t im mk rd po co tr wa wb_ fi cd], w2_213, z1_] _ _ := G.re rfl
          refine z_get C G clX3 5 rfl 3 (by decide) m_fl_RX11_306 rfl dX11_fits_48 ?_
          have hw_247 : bFit T fi e0f_180 e1f_181 e2f_182 e3f_183 e4f_184 e5f_185 r1f_186 m1f_187 r2f_188 [zO3 fi e0f_180 e1f_181 e2f_182 e3f_183 e4f_184 e5f_185 a1_245 a2_246, zAr T 0 a1_245 m1f_187 r1f_186, zAr T 0 a2_246 7 r2f_188] := ⟨a1_245, a2_246, rfl⟩
          have G : zS T A s.heap s [wt, z0_, wg0_, wg1_, wwA_167, [zO3 fi e0f_180 e1f_181 e2f_182 e3f_183 e4f_184 e5f_185 a1_245 a2_246, zAr T 0 a1_245 m1f_187 r1f_186, zAr T 0 a2_246 7 r2f_188], [zO10 xo t im mk rd po co tr wa wb_ fi cd], w2_213, z1_] _ _ := G.re rfl
          have G := G.sub (bs' := [[zO10 xo t im mk rd po co tr wa wb_ fi cd], wt, z0_, z1_, wg0_, wg1_, wwA_167, w2_213, [zO3 fi e0f_180 e1f_181 e2f_182 e3f_183 e4f_184 e5f_185 a1_245 a2_246, zAr T 0 a1_245 m1f_187 r1f_186, zAr T 0 a2_246 7 r2f_188]]) [6, 0, 1, 8, 2, 3, 4, 7, 5] rfl
          exact z_back hQz_ (z_iret C hr hlocks G (Nat.le_of_ble_eq_true rfl) (by omega) dX11_fits_51 ⟨laA_156, mdA_157, wyA_158, pc_A_159, f1A_160, f2A_161, f3A_162, f4A_163, f5A_164, f6A_165, n4A_166, wwA_167, l1, m2_214, wy2_215, pc2_216, g1_217, g2_218, f3B_174, g4_219, g5_220, g6_221, (zMk mdB_169 n4B_178 (zPl cr1_ inn1_ k11_)), w2_213, e0f_180, e1f_181, e2f_182, e3f_183, e4f_184, e5f_185, r1f_186, m1f_187, r2f_188, ([zO3 fi e0f_180 e1f_181 e2f_182 e3f_183 e4f_184 e5f_185 a1_245 a2_246, zAr T 0 a1_245 m1f_187 r1f_186, zAr T 0 a2_246 7 r2f_188]), rfl, h_190, h_191, h_192, h_193, h_194, h_195, h_196, h_223, (Or.inr rfl), hwy9, (hzk.trans h_200), (by rw [hzk]; exact h_201), (fun _ => h_225), (Or.inr h_226), hw_247, h_205, h_206, h_207, (fun q => (h_209 q).elim (fun w => Or.inl ⟨w.1, w.2⟩) (fun w => Or.inr ⟨w.1, h_225⟩))⟩)
      · have c_212n : ¬ (0 : Int) ≤ w_.toInt := fun q => c_212 ((fa_le _ _).mpr q)
        refine lv_bipush (v := (-2)) hx hb dX11_fits_28 (by decide) ?_
        exact z_back hQz_ (z_iret C hr hlocks G (Nat.le_of_ble_eq_true rfl) (by omega) dX11_fits_30 ⟨laA_156, mdA_157, wyA_158, pc_A_159, f1A_160, f2A_161, f3A_162, f4A_163, f5A_164, f6A_165, n4A_166, wwA_167, laB_168, mdB_169, wyB_170, pc_B_171, f1B_172, f2B_173, f3B_174, f4B_175, f5B_176, f6B_177, n4B_178, wwB_179, e0f_180, e1f_181, e2f_182, e3f_183, e4f_184, e5f_185, r1f_186, m1f_187, r2f_188, wff_189, rfl, h_190, h_191, h_192, h_193, h_194, h_195, h_196, h_197, h_198, h_199, h_200, h_201, h_202, h_203, h_204, h_205, h_206, h_207, h_209⟩)
set_option maxHeartbeats 4000000 in
set_option maxRecDepth 100000 in
/-- c_t_odds -/
theorem c_t_odds (l : Launch) (T : zTy) (xo : Nat) (t : Nat) (im : Nat) (mk : Nat) (rd : Nat) (po : Nat) (co : Nat) (tr : Nat) (wa : Nat) (wb_ : Nat) (fi : Nat) (cd : Nat) (l0 : Nat) (l1 : Nat) (d0 : Nat) (d1 : Nat) (g0 : Nat) (g1 : Nat) (ln : Int32) (fl : Int32) (pl : Int32) (ft : Nat → Int32) (fk : Nat → Int32) (wt : va_W) (cr0_ : Int32) (inn0_ : Int32) (k10_ : Nat → Int32) (k20_ : Nat → Int32) (k30_ : Nat → Int32) (k40_ : Nat → Int32) (z0_ : va_W) (cr1_ : Int32) (inn1_ : Int32) (k11_ : Nat → Int32) (k21_ : Nat → Int32) (k31_ : Nat → Int32) (k41_ : Nat → Int32) (z1_ : va_W) (gg0_ : Int32) (q10_ : Nat → Int32) (q20_ : Nat → Int32) (wg0_ : va_W) (gg1_ : Int32) (q11_ : Nat → Int32) (q21_ : Nat → Int32) (wg1_ : va_W) (laA : Nat) (mdA : Int32) (wyA : Int32) (pc_A : Int32) (f1A : Nat → Int32) (f2A : Nat → Int32) (f3A : Nat → Int32) (f4A : Nat → Int32) (f5A : Nat → Int32) (f6A : Nat → Int32) (n4A : Nat) (wwA : va_W) (laB : Nat) (mdB : Int32) (wyB : Int32) (pc_B : Int32) (f1B : Nat → Int32) (f2B : Nat → Int32) (f3B : Nat → Int32) (f4B : Nat → Int32) (f5B : Nat → Int32) (f6B : Nat → Int32) (n4B : Nat) (wwB : va_W) (e0f : Int32) (e1f : Int32) (e2f : Int32) (e3f : Int32) (e4f : Int32) (e5f : Int32) (r1f : Nat → Int32) (m1f : Nat) (r2f : Nat → Int32) (wff : va_W) (i1 : Int32) (i2 : Int32) (a_ : Int32) (b_ : Int32) (w_ : Int32) (ht : bTold T t l0 l1 d0 d1 g0 g1 ln fl pl ft fk wt) (hK : zKT fk) (hz0_ : bLand T l0 cr0_ inn0_ k10_ k20_ k30_ k40_ z0_) (hI0_ : zLI cr0_ k10_ k30_) (hz1_ : bLand T l1 cr1_ inn1_ k11_ k21_ k31_ k41_ z1_) (hI1_ : zLI cr1_ k11_ k31_) (hg0_ : bLog T g0 gg0_ q10_ q20_ wg0_) (hg1_ : bLog T g1 gg1_ q11_ q21_ wg1_) (hwwA : bWays T wa laA mdA wyA pc_A f1A f2A f3A f4A f5A f6A n4A wwA) (hpwA : zPw n4A) (hmdA : mdA = 0 ∨ laA = l0) (hwmA : 0 ≤ wyA.toInt ∧ wyA.toInt ≤ 16384) (hTbA : mdA = 0 ∨ zTab cr0_ inn0_ k10_ k20_ wyA pc_A f1A f2A f5A n4A) (hLq0 : zLq cr0_ k10_ k20_) (hwwB : bWays T wb_ laB mdB wyB pc_B f1B f2B f3B f4B f5B f6B n4B wwB) (hpwB : zPw n4B) (hmdB : mdB = 0 ∨ laB = l1) (hwmB : 0 ≤ wyB.toInt ∧ wyB.toInt ≤ 16384) (hTbB : mdB = 0 ∨ zTab cr1_ inn1_ k11_ k21_ wyB pc_B f1B f2B f5B n4B) (hLq1 : zLq cr1_ k11_ k21_) (hwff : bFit T fi e0f e1f e2f e3f e4f e5f r1f m1f r2f wff) (hfw : zFw m1f) (hf3 : 0 ≤ e3f.toInt) (hFI : (¬ e0f = 0 → e1f.toInt = 0 ∧ ¬ mdA = 0 ∨ e1f.toInt = 1 ∧ ¬ mdB = 0)) : zMi l T yX11_odds cX11_odds 8 (some .int) 8 7 (6 * (zNA (i1.toInt = 0 ∧ 0 < (fk 0).toInt ∧ (0 ≤ i2.toInt ∧ i2.toInt < (fk 2).toInt ∧ i2.toInt < 2) ∧ (e0f.toInt = 0 ∨ ¬ e1f.toInt = i1.toInt ∨ ¬ e2f.toInt = i2.toInt)) mdA n4A (zPl cr0_ inn0_ k10_) - n4A) + 6 * (zNA (i1.toInt = 1 ∧ 1 < (fk 0).toInt ∧ (0 ≤ i2.toInt ∧ i2.toInt < (fk 2).toInt ∧ i2.toInt < 2) ∧ (e0f.toInt = 0 ∨ ¬ e1f.toInt = i1.toInt ∨ ¬ e2f.toInt = i2.toInt)) mdB n4B (zPl cr1_ inn1_ k11_) - n4B) + 2 * (zNF (i1.toInt = 1 ∧ 1 < (fk 0).toInt ∧ (0 ≤ i2.toInt ∧ i2.toInt < (fk 2).toInt ∧ i2.toInt < 2) ∧ (e0f.toInt = 0 ∨ ¬ e1f.toInt = i1.toInt ∨ ¬ e2f.toInt = i2.toInt)) (zNF (i1.toInt = 0 ∧ 0 < (fk 0).toInt ∧ (0 ≤ i2.toInt ∧ i2.toInt < (fk 2).toInt ∧ i2.toInt < 2) ∧ (e0f.toInt = 0 ∨ ¬ e1f.toInt = i1.toInt ∨ ¬ e2f.toInt = i2.toInt)) m1f (zMw mdA wyA cr0_ inn0_ k10_)) (zMw mdB wyB cr1_ inn1_ k11_) - m1f)) [.ref xo, .int i1, .int i2, .int a_, .int b_, .int w_] [[zO10 xo t im mk rd po co tr wa wb_ fi cd], wt, z0_, z1_, wg0_, wg1_, wwA, wwB, wff] (fun (r : Int32) bs => ∃ (laA_2 : Nat) (mdA_2 : Int32) (wyA_2 : Int32) (pc_A_2 : Int32) (f1A_2 : Nat → Int32) (f2A_2 : Nat → Int32) (f3A_2 : Nat → Int32) (f4A_2 : Nat → Int32) (f5A_2 : Nat → Int32) (f6A_2 : Nat → Int32) (n4A_2 : Nat) (wwA_2 : va_W) (laB_2 : Nat) (mdB_2 : Int32) (wyB_2 : Int32) (pc_B_2 : Int32) (f1B_2 : Nat → Int32) (f2B_2 : Nat → Int32) (f3B_2 : Nat → Int32) (f4B_2 : Nat → Int32) (f5B_2 : Nat → Int32) (f6B_2 : Nat → Int32) (n4B_2 : Nat) (wwB_2 : va_W) (e0f_2 : Int32) (e1f_2 : Int32) (e2f_2 : Int32) (e3f_2 : Int32) (e4f_2 : Int32) (e5f_2 : Int32) (r1f_2 : Nat → Int32) (m1f_2 : Nat) (r2f_2 : Nat → Int32) (wff_2 : va_W), bs = [[zO10 xo t im mk rd po co tr wa wb_ fi cd], wt, z0_, z1_, wg0_, wg1_, wwA_2, wwB_2, wff_2] ∧ bWays T wa laA_2 mdA_2 wyA_2 pc_A_2 f1A_2 f2A_2 f3A_2 f4A_2 f5A_2 f6A_2 n4A_2 wwA_2 ∧ (mdA_2 = 0 ∨ laA_2 = l0) ∧ (0 ≤ wyA_2.toInt ∧ wyA_2.toInt ≤ 16384) ∧ n4A_2 = zNA (i1.toInt = 0 ∧ 0 < (fk 0).toInt ∧ (0 ≤ i2.toInt ∧ i2.toInt < (fk 2).toInt ∧ i2.toInt < 2) ∧ (e0f.toInt = 0 ∨ ¬ e1f.toInt = i1.toInt ∨ ¬ e2f.toInt = i2.toInt)) mdA n4A (zPl cr0_ inn0_ k10_) ∧ zPw n4A_2 ∧ (¬ mdA = 0 → ¬ mdA_2 = 0) ∧ (mdA_2 = 0 ∨ zTab cr0_ inn0_ k10_ k20_ wyA_2 pc_A_2 f1A_2 f2A_2 f5A_2 n4A_2) ∧ bWays T wb_ laB_2 mdB_2 wyB_2 pc_B_2 f1B_2 f2B_2 f3B_2 f4B_2 f5B_2 f6B_2 n4B_2 wwB_2 ∧ (mdB_2 = 0 ∨ laB_2 = l1) ∧ (0 ≤ wyB_2.toInt ∧ wyB_2.toInt ≤ 16384) ∧ n4B_2 = zNA (i1.toInt = 1 ∧ 1 < (fk 0).toInt ∧ (0 ≤ i2.toInt ∧ i2.toInt < (fk 2).toInt ∧ i2.toInt < 2) ∧ (e0f.toInt = 0 ∨ ¬ e1f.toInt = i1.toInt ∨ ¬ e2f.toInt = i2.toInt)) mdB n4B (zPl cr1_ inn1_ k11_) ∧ zPw n4B_2 ∧ (¬ mdB = 0 → ¬ mdB_2 = 0) ∧ (mdB_2 = 0 ∨ zTab cr1_ inn1_ k11_ k21_ wyB_2 pc_B_2 f1B_2 f2B_2 f5B_2 n4B_2) ∧ bFit T fi e0f_2 e1f_2 e2f_2 e3f_2 e4f_2 e5f_2 r1f_2 m1f_2 r2f_2 wff_2 ∧ m1f_2 = zNF (i1.toInt = 1 ∧ 1 < (fk 0).toInt ∧ (0 ≤ i2.toInt ∧ i2.toInt < (fk 2).toInt ∧ i2.toInt < 2) ∧ (e0f.toInt = 0 ∨ ¬ e1f.toInt = i1.toInt ∨ ¬ e2f.toInt = i2.toInt)) (zNF (i1.toInt = 0 ∧ 0 < (fk 0).toInt ∧ (0 ≤ i2.toInt ∧ i2.toInt < (fk 2).toInt ∧ i2.toInt < 2) ∧ (e0f.toInt = 0 ∨ ¬ e1f.toInt = i1.toInt ∨ ¬ e2f.toInt = i2.toInt)) m1f (zMw mdA wyA cr0_ inn0_ k10_)) (zMw mdB wyB cr1_ inn1_ k11_) ∧ zFw m1f_2 ∧ 0 ≤ e3f_2.toInt ∧ (¬ e0f_2 = 0 → e1f_2.toInt = 0 ∧ ¬ mdA_2 = 0 ∨ e1f_2.toInt = 1 ∧ ¬ mdB_2 = 0)) := by
  refine zMi_of (own := RX11) (by decide) rfl (Nat.le_of_ble_eq_true rfl) ?_
  intro p e s m args below meth c A ls C hr hlocks hnm hAe G hl
  refine zHide (fun Qz_ hQz_ => ?_)
  have hx := C.1
  have hb := C.2.1
  replace hmdA : zHd (mdA = 0 ∨ laA = l0) := hmdA
  replace hTbA : zHd (mdA = 0 ∨ zTab cr0_ inn0_ k10_ k20_ wyA pc_A f1A f2A f5A n4A) := hTbA
  replace hmdB : zHd (mdB = 0 ∨ laB = l1) := hmdB
  replace hTbB : zHd (mdB = 0 ∨ zTab cr1_ inn1_ k11_ k21_ wyB pc_B f1B f2B f5B n4B) := hTbB
  replace hFI : zHd ((¬ e0f = 0 → e1f.toInt = 0 ∧ ¬ mdA = 0 ∨ e1f.toInt = 1 ∧ ¬ mdB = 0)) := hFI
  have hl : lv_has ls 8 [(0, .ref xo), (1, .int i1), (2, .int i2), (3, .int a_), (4, .int b_), (5, .int w_)] := hl
  refine lv_aload_n hx hb dX11_odds_0 rfl (lv_at hl 0 rfl) ?_
  refine z_get C G clX11 0 rfl 0 (by decide) m_fl_RX11_10 rfl dX11_odds_1 ?_
  refine lv_iload_n hx hb dX11_odds_4 rfl (lv_at hl 1 rfl) ?_
  refine z_Vq (bc := [wt]) (br := [[zO10 xo t im mk rd po co tr wa wb_ fi cd], z0_, z1_, wg0_, wg1_, wwA, wwB, wff]) (As := [.int i1]) (rest := []) C G (c_landAt l T t l0 l1 d0 d1 g0 g1 ln fl pl ft fk wt i1 ht) (kV_RX11_121 C.2.2.2.2 (Nat.le_of_ble_eq_true rfl) (Nat.le_of_ble_eq_true rfl)) [1] [1] rfl rfl (ci := 8) (qc := (RX9, TX9, 8)) rfl rfl (List.mem_flatten.mpr ⟨_, List.mem_of_getElem? (i := 0) rfl, (bTold_mem ht).choose_spec⟩) rfl rfl hl.1 dX11_odds_5 (Nat.le_of_ble_eq_true rfl) (by show _ + 0 ≤ 6 * (zNA (i1.toInt = 0 ∧ 0 < (fk 0).toInt ∧ (0 ≤ i2.toInt ∧ i2.toInt < (fk 2).toInt ∧ i2.toInt < 2) ∧ (e0f.toInt = 0 ∨ ¬ e1f.toInt = i1.toInt ∨ ¬ e2f.toInt = i2.toInt)) mdA n4A (zPl cr0_ inn0_ k10_) - n4A) + 6 * (zNA (i1.toInt = 1 ∧ 1 < (fk 0).toInt ∧ (0 ≤ i2.toInt ∧ i2.toInt < (fk 2).toInt ∧ i2.toInt < 2) ∧ (e0f.toInt = 0 ∨ ¬ e1f.toInt = i1.toInt ∨ ¬ e2f.toInt = i2.toInt)) mdB n4B (zPl cr1_ inn1_ k11_) - n4B) + 2 * (zNF (i1.toInt = 1 ∧ 1 < (fk 0).toInt ∧ (0 ≤ i2.toInt ∧ i2.toInt < (fk 2).toInt ∧ i2.toInt < 2) ∧ (e0f.toInt = 0 ∨ ¬ e1f.toInt = i1.toInt ∨ ¬ e2f.toInt = i2.toInt)) (zNF (i1.toInt = 0 ∧ 0 < (fk 0).toInt ∧ (0 ≤ i2.toInt ∧ i2.toInt < (fk 2).toInt ∧ i2.toInt < 2) ∧ (e0f.toInt = 0 ∨ ¬ e1f.toInt = i1.toInt ∨ ¬ e2f.toInt = i2.toInt)) m1f (zMw mdA wyA cr0_ inn0_ k10_)) (zMw mdB wyB cr1_ inn1_ k11_) - m1f); omega) (fun r_2 b1 H locs hw G => ?_)
  refine zAn2 hw ?_
  intro hbs9 hc_1
  clear hw
  subst hbs9
  have G : zS T A s.heap s [[zO10 xo t im mk rd po co tr wa wb_ fi cd], z0_, z1_, wg0_, wg1_, wwA, wwB, wff, wt] _ _ := G
  rcases hc_1 with ⟨rfl, h_3⟩ | ⟨rfl, h_4, h_5⟩ | ⟨rfl, h_6, h_7⟩
  · have h_3 : (i1.toInt < 0 ∨ (fk 0).toInt ≤ i1.toInt ∨ 2 ≤ i1.toInt) := h_3
    refine lv_astoreN (lv' := [(6, .null), (0, .ref xo), (1, .int i1), (2, .int i2), (3, .int a_), (4, .int b_), (5, .int w_)]) hx hb dX11_odds_8 hl (by decide) (zLvf_h rfl) (fun ls hl => ?_)
    refine lv_aload_n hx hb dX11_odds_10 rfl (lv_at hl 1 rfl) ?_
    refine lv_iload_n hx hb dX11_odds_11 rfl (lv_at hl 2 rfl) ?_
    refine lv_iload_n hx hb dX11_odds_12 rfl (lv_at hl 3 rfl) ?_
    refine z_Vi (bc := [[zO10 xo t im mk rd po co tr wa wb_ fi cd], wt, z0_, z1_, wg0_, wg1_, wwA, wwB, wff]) (br := []) (As := [.int i1, .int i2]) (rest := []) C G (c_t_fit l T xo t im mk rd po co tr wa wb_ fi cd l0 l1 d0 d1 g0 g1 ln fl pl ft fk wt cr0_ inn0_ k10_ k20_ k30_ k40_ z0_ cr1_ inn1_ k11_ k21_ k31_ k41_ z1_ gg0_ q10_ q20_ wg0_ gg1_ q11_ q21_ wg1_ laA mdA wyA pc_A f1A f2A f3A f4A f5A f6A n4A wwA laB mdB wyB pc_B f1B f2B f3B f4B f5B f6B n4B wwB e0f e1f e2f e3f e4f e5f r1f m1f r2f wff i1 i2 ht (by first | with_reducible assumption | with_reducible rfl | omega | assumption | rfl) hz0_ (by first | with_reducible assumption | with_reducible rfl | omega | assumption | rfl) hz1_ (by first | with_reducible assumption | with_reducible rfl | omega | assumption | rfl) hg0_ hg1_ hwwA (by first | with_reducible assumption | with_reducible rfl | omega | assumption | rfl) (by first | with_reducible assumption | with_reducible rfl | omega | assumption | rfl) (by first | with_reducible assumption | with_reducible rfl | omega | assumption | rfl) (by first | with_reducible assumption | with_reducible rfl | omega | assumption | rfl) (by first | with_reducible assumption | with_reducible rfl | omega | assumption | rfl) hwwB (by first | with_reducible assumption | with_reducible rfl | omega | assumption | rfl) (by first | with_reducible assumption | with_reducible rfl | omega | assumption | rfl) (by first | with_reducible assumption | with_reducible rfl | omega | assumption | rfl) (by first | with_reducible assumption | with_reducible rfl | omega | assumption | rfl) (by first | with_reducible assumption | with_reducible rfl | omega | assumption | rfl) hwff hfw hf3 hFI) (kV_RX11_302 C.2.2.2.2 (Nat.le_of_ble_eq_true rfl) (Nat.le_of_ble_eq_true rfl)) [0, 8, 1, 2, 3, 4, 5, 6, 7] [0, 0, 0, 0, 0, 0, 0, 0, 0] rfl rfl (ci := 10) (qc := (RX11, TX11, 11)) rfl rfl (List.mem_flatten.mpr ⟨_, List.mem_of_getElem? (i := 0) rfl, List.mem_cons_self⟩) rfl rfl hl.1 dX11_odds_13 (Nat.le_of_ble_eq_true rfl) (by show _ + (6 * (zNA (i1.toInt = 0 ∧ 0 < (fk 0).toInt ∧ (0 ≤ i2.toInt ∧ i2.toInt < (fk 2).toInt ∧ i2.toInt < 2) ∧ (e0f.toInt = 0 ∨ ¬ e1f.toInt = i1.toInt ∨ ¬ e2f.toInt = i2.toInt)) mdA n4A (zPl cr0_ inn0_ k10_) - n4A) + 6 * (zNA (i1.toInt = 1 ∧ 1 < (fk 0).toInt ∧ (0 ≤ i2.toInt ∧ i2.toInt < (fk 2).toInt ∧ i2.toInt < 2) ∧ (e0f.toInt = 0 ∨ ¬ e1f.toInt = i1.toInt ∨ ¬ e2f.toInt = i2.toInt)) mdB n4B (zPl cr1_ inn1_ k11_) - n4B) + 2 * (zNF (i1.toInt = 1 ∧ 1 < (fk 0).toInt ∧ (0 ≤ i2.toInt ∧ i2.toInt < (fk 2).toInt ∧ i2.toInt < 2) ∧ (e0f.toInt = 0 ∨ ¬ e1f.toInt = i1.toInt ∨ ¬ e2f.toInt = i2.toInt)) (zNF (i1.toInt = 0 ∧ 0 < (fk 0).toInt ∧ (0 ≤ i2.toInt ∧ i2.toInt < (fk 2).toInt ∧ i2.toInt < 2) ∧ (e0f.toInt = 0 ∨ ¬ e1f.toInt = i1.toInt ∨ ¬ e2f.toInt = i2.toInt)) m1f (zMw mdA wyA cr0_ inn0_ k10_)) (zMw mdB wyB cr1_ inn1_ k11_) - m1f)) ≤ 6 * (zNA (i1.toInt = 0 ∧ 0 < (fk 0).toInt ∧ (0 ≤ i2.toInt ∧ i2.toInt < (fk 2).toInt ∧ i2.toInt < 2) ∧ (e0f.toInt = 0 ∨ ¬ e1f.toInt = i1.toInt ∨ ¬ e2f.toInt = i2.toInt)) mdA n4A (zPl cr0_ inn0_ k10_) - n4A) + 6 * (zNA (i1.toInt = 1 ∧ 1 < (fk 0).toInt ∧ (0 ≤ i2.toInt ∧ i2.toInt < (fk 2).toInt ∧ i2.toInt < 2) ∧ (e0f.toInt = 0 ∨ ¬ e1f.toInt = i1.toInt ∨ ¬ e2f.toInt = i2.toInt)) mdB n4B (zPl cr1_ inn1_ k11_) - n4B) + 2 * (zNF (i1.toInt = 1 ∧ 1 < (fk 0).toInt ∧ (0 ≤ i2.toInt ∧ i2.toInt < (fk 2).toInt ∧ i2.toInt < 2) ∧ (e0f.toInt = 0 ∨ ¬ e1f.toInt = i1.toInt ∨ ¬ e2f.toInt = i2.toInt)) (zNF (i1.toInt = 0 ∧ 0 < (fk 0).toInt ∧ (0 ≤ i2.toInt ∧ i2.toInt < (fk 2).toInt ∧ i2.toInt < 2) ∧ (e0f.toInt = 0 ∨ ¬ e1f.toInt = i1.toInt ∨ ¬ e2f.toInt = i2.toInt)) m1f (zMw mdA wyA cr0_ inn0_ k10_)) (zMw mdB wyB cr1_ inn1_ k11_) - m1f); omega) (fun r_62 b1 H locs hw G => ?_)
    refine zEx34 hw ?_
    intro laA_8 mdA_9 wyA_10 pc_A_11 f1A_12 f2A_13 f3A_14 f4A_15 f5A_16 f6A_17 n4A_18 wwA_19 laB_20 mdB_21 wyB_22 pc_B_23 f1B_24 f2B_25 f3B_26 f4B_27 f5B_28 f6B_29 n4B_30 wwB_31 e0f_32 e1f_33 e2f_34 e3f_35 e4f_36 e5f_37 r1f_38 m1f_39 r2f_40 wff_41
    refine zCu21 ?_
    intro hbs9 h_42 h_43 h_44 h_45 h_46 h_47 h_48 h_49 h_50 h_51 h_52 h_53 h_54 h_55 h_56 h_57 h_58 h_59 h_60 h_61
    clear hw
    subst hbs9
    have G : zS T A s.heap s [[zO10 xo t im mk rd po co tr wa wb_ fi cd], wt, z0_, z1_, wg0_, wg1_, wwA_19, wwB_31, wff_41] _ _ := G
    replace h_43 : zHd ((mdA_9 = 0 ∨ laA_8 = l0)) := h_43
    replace h_47 : zHd ((¬ mdA = 0 → ¬ mdA_9 = 0)) := h_47
    replace h_48 : zHd ((mdA_9 = 0 ∨ zTab cr0_ inn0_ k10_ k20_ wyA_10 pc_A_11 f1A_12 f2A_13 f5A_16 n4A_18)) := h_48
    replace h_50 : zHd ((mdB_21 = 0 ∨ laB_20 = l1)) := h_50
    replace h_54 : zHd ((¬ mdB = 0 → ¬ mdB_21 = 0)) := h_54
    replace h_55 : zHd ((mdB_21 = 0 ∨ zTab cr1_ inn1_ k11_ k21_ wyB_22 pc_B_23 f1B_24 f2B_25 f5B_28 n4B_30)) := h_55
    replace h_61 : zHd ((¬ e0f_32 = 0 → e1f_33.toInt = 0 ∧ ¬ mdA_9 = 0 ∨ e1f_33.toInt = 1 ∧ ¬ mdB_21 = 0)) := h_61
    have hfm9 : m1f_39 ≤ 16384 := zFw_le h_58
    refine lv_if_eq (tgt := 40) hx hb dX11_odds_16 (by decide) (fun c_63 => ?_) (fun c_63 => ?_)
    · have c_63n : r_62.toInt = (0 : Int) := (fa_eq _ _).mp c_63
      refine lv_iconst (v := (-1)) hx hb dX11_odds_40 (by decide) ?_
      exact z_back hQz_ (z_iret C hr hlocks G (Nat.le_of_ble_eq_true rfl) (by omega) dX11_odds_41 ⟨laA_8, mdA_9, wyA_10, pc_A_11, f1A_12, f2A_13, f3A_14, f4A_15, f5A_16, f6A_17, n4A_18, wwA_19, laB_20, mdB_21, wyB_22, pc_B_23, f1B_24, f2B_25, f3B_26, f4B_27, f5B_28, f6B_29, n4B_30, wwB_31, e0f_32, e1f_33, e2f_34, e3f_35, e4f_36, e5f_37, r1f_38, m1f_39, r2f_40, wff_41, rfl, h_42, h_43, h_44, h_45, h_46, h_47, h_48, h_49, h_50, h_51, h_52, h_53, h_54, h_55, h_56, h_57, h_58, h_59, h_61⟩)
    · have c_63n : ¬ r_62.toInt = (0 : Int) := fun q => c_63 ((fa_eq _ _).mpr q)
      refine lv_aloadN hx hb dX11_odds_19 (lv_at hl 0 rfl) ?_
      refine lv_ifnullN (tgt := 40) hx hb dX11_odds_21 (by decide) ?_
      refine lv_iconst (v := (-1)) hx hb dX11_odds_40 (by decide) ?_
      exact z_back hQz_ (z_iret C hr hlocks G (Nat.le_of_ble_eq_true rfl) (by omega) dX11_odds_41 ⟨laA_8, mdA_9, wyA_10, pc_A_11, f1A_12, f2A_13, f3A_14, f4A_15, f5A_16, f6A_17, n4A_18, wwA_19, laB_20, mdB_21, wyB_22, pc_B_23, f1B_24, f2B_25, f3B_26, f4B_27, f5B_28, f6B_29, n4B_30, wwB_31, e0f_32, e1f_33, e2f_34, e3f_35, e4f_36, e5f_37, r1f_38, m1f_39, r2f_40, wff_41, rfl, h_42, h_43, h_44, h_45, h_46, h_47, h_48, h_49, h_50, h_51, h_52, h_53, h_54, h_55, h_56, h_57, h_58, h_59, h_61⟩)
  · have h_4 : i1.toInt = 0 := h_4
    have h_5 : 0 < (fk 0).toInt := h_5
    refine lv_astore (lv' := [(6, .ref l0), (0, .ref xo), (1, .int i1), (2, .int i2), (3, .int a_), (4, .int b_), (5, .int w_)]) hx hb dX11_odds_8 hl (by decide) (zLvf_h rfl) (fun ls hl => ?_)
    refine lv_aload_n hx hb dX11_odds_10 rfl (lv_at hl 1 rfl) ?_
    refine lv_iload_n hx hb dX11_odds_11 rfl (lv_at hl 2 rfl) ?_
    refine lv_iload_n hx hb dX11_odds_12 rfl (lv_at hl 3 rfl) ?_
    refine z_Vi (bc := [[zO10 xo t im mk rd po co tr wa wb_ fi cd], wt, z0_, z1_, wg0_, wg1_, wwA, wwB, wff]) (br := []) (As := [.int i1, .int i2]) (rest := []) C G (c_t_fit l T xo t im mk rd po co tr wa wb_ fi cd l0 l1 d0 d1 g0 g1 ln fl pl ft fk wt cr0_ inn0_ k10_ k20_ k30_ k40_ z0_ cr1_ inn1_ k11_ k21_ k31_ k41_ z1_ gg0_ q10_ q20_ wg0_ gg1_ q11_ q21_ wg1_ laA mdA wyA pc_A f1A f2A f3A f4A f5A f6A n4A wwA laB mdB wyB pc_B f1B f2B f3B f4B f5B f6B n4B wwB e0f e1f e2f e3f e4f e5f r1f m1f r2f wff i1 i2 ht (by first | with_reducible assumption | with_reducible rfl | omega | assumption | rfl) hz0_ (by first | with_reducible assumption | with_reducible rfl | omega | assumption | rfl) hz1_ (by first | with_reducible assumption | with_reducible rfl | omega | assumption | rfl) hg0_ hg1_ hwwA (by first | with_reducible assumption | with_reducible rfl | omega | assumption | rfl) (by first | with_reducible assumption | with_reducible rfl | omega | assumption | rfl) (by first | with_reducible assumption | with_reducible rfl | omega | assumption | rfl) (by first | with_reducible assumption | with_reducible rfl | omega | assumption | rfl) (by first | with_reducible assumption | with_reducible rfl | omega | assumption | rfl) hwwB (by first | with_reducible assumption | with_reducible rfl | omega | assumption | rfl) (by first | with_reducible assumption | with_reducible rfl | omega | assumption | rfl) (by first | with_reducible assumption | with_reducible rfl | omega | assumption | rfl) (by first | with_reducible assumption | with_reducible rfl | omega | assumption | rfl) (by first | with_reducible assumption | with_reducible rfl | omega | assumption | rfl) hwff hfw hf3 hFI) (kV_RX11_302 C.2.2.2.2 (Nat.le_of_ble_eq_true rfl) (Nat.le_of_ble_eq_true rfl)) [0, 8, 1, 2, 3, 4, 5, 6, 7] [0, 0, 0, 0, 0, 0, 0, 0, 0] rfl rfl (ci := 10) (qc := (RX11, TX11, 11)) rfl rfl (List.mem_flatten.mpr ⟨_, List.mem_of_getElem? (i := 0) rfl, List.mem_cons_self⟩) rfl rfl hl.1 dX11_odds_13 (Nat.le_of_ble_eq_true rfl) (by show _ + (6 * (zNA (i1.toInt = 0 ∧ 0 < (fk 0).toInt ∧ (0 ≤ i2.toInt ∧ i2.toInt < (fk 2).toInt ∧ i2.toInt < 2) ∧ (e0f.toInt = 0 ∨ ¬ e1f.toInt = i1.toInt ∨ ¬ e2f.toInt = i2.toInt)) mdA n4A (zPl cr0_ inn0_ k10_) - n4A) + 6 * (zNA (i1.toInt = 1 ∧ 1 < (fk 0).toInt ∧ (0 ≤ i2.toInt ∧ i2.toInt < (fk 2).toInt ∧ i2.toInt < 2) ∧ (e0f.toInt = 0 ∨ ¬ e1f.toInt = i1.toInt ∨ ¬ e2f.toInt = i2.toInt)) mdB n4B (zPl cr1_ inn1_ k11_) - n4B) + 2 * (zNF (i1.toInt = 1 ∧ 1 < (fk 0).toInt ∧ (0 ≤ i2.toInt ∧ i2.toInt < (fk 2).toInt ∧ i2.toInt < 2) ∧ (e0f.toInt = 0 ∨ ¬ e1f.toInt = i1.toInt ∨ ¬ e2f.toInt = i2.toInt)) (zNF (i1.toInt = 0 ∧ 0 < (fk 0).toInt ∧ (0 ≤ i2.toInt ∧ i2.toInt < (fk 2).toInt ∧ i2.toInt < 2) ∧ (e0f.toInt = 0 ∨ ¬ e1f.toInt = i1.toInt ∨ ¬ e2f.toInt = i2.toInt)) m1f (zMw mdA wyA cr0_ inn0_ k10_)) (zMw mdB wyB cr1_ inn1_ k11_) - m1f)) ≤ 6 * (zNA (i1.toInt = 0 ∧ 0 < (fk 0).toInt ∧ (0 ≤ i2.toInt ∧ i2.toInt < (fk 2).toInt ∧ i2.toInt < 2) ∧ (e0f.toInt = 0 ∨ ¬ e1f.toInt = i1.toInt ∨ ¬ e2f.toInt = i2.toInt)) mdA n4A (zPl cr0_ inn0_ k10_) - n4A) + 6 * (zNA (i1.toInt = 1 ∧ 1 < (fk 0).toInt ∧ (0 ≤ i2.toInt ∧ i2.toInt < (fk 2).toInt ∧ i2.toInt < 2) ∧ (e0f.toInt = 0 ∨ ¬ e1f.toInt = i1.toInt ∨ ¬ e2f.toInt = i2.toInt)) mdB n4B (zPl cr1_ inn1_ k11_) - n4B) + 2 * (zNF (i1.toInt = 1 ∧ 1 < (fk 0).toInt ∧ (0 ≤ i2.toInt ∧ i2.toInt < (fk 2).toInt ∧ i2.toInt < 2) ∧ (e0f.toInt = 0 ∨ ¬ e1f.toInt = i1.toInt ∨ ¬ e2f.toInt = i2.toInt)) (zNF (i1.toInt = 0 ∧ 0 < (fk 0).toInt ∧ (0 ≤ i2.toInt ∧ i2.toInt < (fk 2).toInt ∧ i2.toInt < 2) ∧ (e0f.toInt = 0 ∨ ¬ e1f.toInt = i1.toInt ∨ ¬ e2f.toInt = i2.toInt)) m1f (zMw mdA wyA cr0_ inn0_ k10_)) (zMw mdB wyB cr1_ inn1_ k11_) - m1f); omega) (fun r_118 b1 H locs hw G => ?_)
    refine zEx34 hw ?_
    intro laA_64 mdA_65 wyA_66 pc_A_67 f1A_68 f2A_69 f3A_70 f4A_71 f5A_72 f6A_73 n4A_74 wwA_75 laB_76 mdB_77 wyB_78 pc_B_79 f1B_80 f2B_81 f3B_82 f4B_83 f5B_84 f6B_85 n4B_86 wwB_87 e0f_88 e1f_89 e2f_90 e3f_91 e4f_92 e5f_93 r1f_94 m1f_95 r2f_96 wff_97
    refine zCu21 ?_
    intro hbs9 h_98 h_99 h_100 h_101 h_102 h_103 h_104 h_105 h_106 h_107 h_108 h_109 h_110 h_111 h_112 h_113 h_114 h_115 h_116 h_117
    clear hw
    subst hbs9
    have G : zS T A s.heap s [[zO10 xo t im mk rd po co tr wa wb_ fi cd], wt, z0_, z1_, wg0_, wg1_, wwA_75, wwB_87, wff_97] _ _ := G
    replace h_99 : zHd ((mdA_65 = 0 ∨ laA_64 = l0)) := h_99
    replace h_103 : zHd ((¬ mdA = 0 → ¬ mdA_65 = 0)) := h_103
    replace h_104 : zHd ((mdA_65 = 0 ∨ zTab cr0_ inn0_ k10_ k20_ wyA_66 pc_A_67 f1A_68 f2A_69 f5A_72 n4A_74)) := h_104
    replace h_106 : zHd ((mdB_77 = 0 ∨ laB_76 = l1)) := h_106
    replace h_110 : zHd ((¬ mdB = 0 → ¬ mdB_77 = 0)) := h_110
    replace h_111 : zHd ((mdB_77 = 0 ∨ zTab cr1_ inn1_ k11_ k21_ wyB_78 pc_B_79 f1B_80 f2B_81 f5B_84 n4B_86)) := h_111
    replace h_117 : zHd ((¬ e0f_88 = 0 → e1f_89.toInt = 0 ∧ ¬ mdA_65 = 0 ∨ e1f_89.toInt = 1 ∧ ¬ mdB_77 = 0)) := h_117
    have hfm9 : m1f_95 ≤ 16384 := zFw_le h_114
    refine lv_if_eq (tgt := 40) hx hb dX11_odds_16 (by decide) (fun c_119 => ?_) (fun c_119 => ?_)
    · have c_119n : r_118.toInt = (0 : Int) := (fa_eq _ _).mp c_119
      refine lv_iconst (v := (-1)) hx hb dX11_odds_40 (by decide) ?_
      exact z_back hQz_ (z_iret C hr hlocks G (Nat.le_of_ble_eq_true rfl) (by omega) dX11_odds_41 ⟨laA_64, mdA_65, wyA_66, pc_A_67, f1A_68, f2A_69, f3A_70, f4A_71, f5A_72, f6A_73, n4A_74, wwA_75, laB_76, mdB_77, wyB_78, pc_B_79, f1B_80, f2B_81, f3B_82, f4B_83, f5B_84, f6B_85, n4B_86, wwB_87, e0f_88, e1f_89, e2f_90, e3f_91, e4f_92, e5f_93, r1f_94, m1f_95, r2f_96, wff_97, rfl, h_98, h_99, h_100, h_101, h_102, h_103, h_104, h_105, h_106, h_107, h_108, h_109, h_110, h_111, h_112, h_113, h_114, h_115, h_117⟩)
    · have c_119n : ¬ r_118.toInt = (0 : Int) := fun q => c_119 ((fa_eq _ _).mpr q)
      refine lv_aload hx hb dX11_odds_19 (lv_at hl 0 rfl) ?_
      refine lv_ifnull hx hb dX11_odds_21 ?_
      refine lv_iload hx hb dX11_odds_24 (lv_at hl 5 rfl) ?_
      refine lv_if_lt (tgt := 40) hx hb dX11_odds_26 (by decide) (fun c_120 => ?_) (fun c_120 => ?_)
      · have c_120n : b_.toInt < (0 : Int) := (fa_lt _ _).mp c_120
        refine lv_iconst (v := (-1)) hx hb dX11_odds_40 (by decide) ?_
        exact z_back hQz_ (z_iret C hr hlocks G (Nat.le_of_ble_eq_true rfl) (by omega) dX11_odds_41 ⟨laA_64, mdA_65, wyA_66, pc_A_67, f1A_68, f2A_69, f3A_70, f4A_71, f5A_72, f6A_73, n4A_74, wwA_75, laB_76, mdB_77, wyB_78, pc_B_79, f1B_80, f2B_81, f3B_82, f4B_83, f5B_84, f6B_85, n4B_86, wwB_87, e0f_88, e1f_89, e2f_90, e3f_91, e4f_92, e5f_93, r1f_94, m1f_95, r2f_96, wff_97, rfl, h_98, h_99, h_100, h_101, h_102, h_103, h_104, h_105, h_106, h_107, h_108, h_109, h_110, h_111, h_112, h_113, h_114, h_115, h_117⟩)
      · have c_120n : ¬ b_.toInt < (0 : Int) := fun q => c_120 ((fa_lt _ _).mpr q)
        refine lv_iload hx hb dX11_odds_29 (lv_at hl 5 rfl) ?_
        refine lv_aload hx hb dX11_odds_31 (lv_at hl 0 rfl) ?_
        refine lv_iload_n hx hb dX11_odds_33 rfl (lv_at hl 4 rfl) ?_
        refine z_Vi (bc := [z0_]) (br := [[zO10 xo t im mk rd po co tr wa wb_ fi cd], wt, z1_, wg0_, wg1_, wwA_75, wwB_87, wff_97]) (As := [.int a_]) (rest := [.int b_]) C G (c_waysOut l T l0 cr0_ inn0_ k10_ k20_ k30_ k40_ z0_ a_ hz0_) (kV_RX11_221 C.2.2.2.2 (Nat.le_of_ble_eq_true rfl) (Nat.le_of_ble_eq_true rfl)) [2] [2] rfl rfl (ci := 4) (qc := (RX4, TX4, 6)) rfl rfl (List.mem_flatten.mpr ⟨_, List.mem_of_getElem? (i := 0) rfl, (bLand_mem hz0_).choose_spec⟩) rfl rfl hl.1 dX11_odds_34 (Nat.le_of_ble_eq_true rfl) (by show _ + 0 ≤ 6 * (zNA (i1.toInt = 0 ∧ 0 < (fk 0).toInt ∧ (0 ≤ i2.toInt ∧ i2.toInt < (fk 2).toInt ∧ i2.toInt < 2) ∧ (e0f.toInt = 0 ∨ ¬ e1f.toInt = i1.toInt ∨ ¬ e2f.toInt = i2.toInt)) mdA n4A (zPl cr0_ inn0_ k10_) - n4A) + 6 * (zNA (i1.toInt = 1 ∧ 1 < (fk 0).toInt ∧ (0 ≤ i2.toInt ∧ i2.toInt < (fk 2).toInt ∧ i2.toInt < 2) ∧ (e0f.toInt = 0 ∨ ¬ e1f.toInt = i1.toInt ∨ ¬ e2f.toInt = i2.toInt)) mdB n4B (zPl cr1_ inn1_ k11_) - n4B) + 2 * (zNF (i1.toInt = 1 ∧ 1 < (fk 0).toInt ∧ (0 ≤ i2.toInt ∧ i2.toInt < (fk 2).toInt ∧ i2.toInt < 2) ∧ (e0f.toInt = 0 ∨ ¬ e1f.toInt = i1.toInt ∨ ¬ e2f.toInt = i2.toInt)) (zNF (i1.toInt = 0 ∧ 0 < (fk 0).toInt ∧ (0 ≤ i2.toInt ∧ i2.toInt < (fk 2).toInt ∧ i2.toInt < 2) ∧ (e0f.toInt = 0 ∨ ¬ e1f.toInt = i1.toInt ∨ ¬ e2f.toInt = i2.toInt)) m1f (zMw mdA wyA cr0_ inn0_ k10_)) (zMw mdB wyB cr1_ inn1_ k11_) - m1f); omega) (fun r_122 b1 H locs hw G => ?_)
        refine zAn2 hw ?_
        intro hbs9 h_121
        clear hw
        subst hbs9
        have G : zS T A s.heap s [[zO10 xo t im mk rd po co tr wa wb_ fi cd], wt, z1_, wg0_, wg1_, wwA_75, wwB_87, wff_97, z0_] _ _ := G
        subst h_121
        refine lv_icmp_lt (tgt := 42) hx hb dX11_odds_37 (by decide) (fun c_123 => ?_) (fun c_123 => ?_)
        · have c_123n : b_.toInt < (zWays cr0_ inn0_ k10_ a_).toInt := (fa_lt _ _).mp c_123
          refine lv_aload_n hx hb dX11_odds_42 rfl (lv_at hl 1 rfl) ?_
          refine z_get C G clX11 0 rfl 9 (by decide) m_fl_RX11_65 rfl dX11_odds_43 ?_
          refine zEx2 h_112 ?_
          intro a1_124 a2_125 hbs9
          clear h_112
          subst hbs9
          have G : zS T A s.heap s [[zO10 xo t im mk rd po co tr wa wb_ fi cd], wt, z1_, wg0_, wg1_, wwA_75, wwB_87, [zO3 fi e0f_88 e1f_89 e2f_90 e3f_91 e4f_92 e5f_93 a1_124 a2_125], [zAr T 0 a1_124 m1f_95 r1f_94], [zAr T 0 a2_125 7 r2f_96], z0_] _ _ := G.re rfl
          refine z_get C G clX3 7 rfl 3 (by decide) m_fl_RX11_306 rfl dX11_odds_46 ?_
          refine lv_if_ne (tgt := 54) hx hb dX11_odds_49 (by decide) (fun c_126 => ?_) (fun c_126 => ?_)
          · have c_126n : ¬ e3f_91.toInt = (0 : Int) := fun q => c_126 ((fa_eq _ _).mpr q)
            refine lv_aload_n hx hb dX11_odds_54 rfl (lv_at hl 1 rfl) ?_
            refine z_get C G clX11 0 rfl 9 (by decide) m_fl_RX11_65 rfl dX11_odds_55 ?_
            refine lv_aload_n hx hb dX11_odds_58 rfl (lv_at hl 1 rfl) ?_
            refine lv_iload_n hx hb dX11_odds_59 rfl (lv_at hl 2 rfl) ?_
            refine lv_aload hx hb dX11_odds_60 (lv_at hl 0 rfl) ?_
            have hX := h_116.resolve_left (fun q => absurd (congrArg Int32.toInt q.1) (by show ¬ _ = (0 : Int); omega))
            have hmk : ¬ mdA_65 = 0 := (h_117 hX.2.2.1).elim (fun q => q.2) (fun q => absurd q.1 (by have := hX.2.2.2; omega))
            have hzk : zMk mdA_65 n4A_74 (zPl cr0_ inn0_ k10_) = n4A_74 := by unfold zMk; rw [if_neg hmk]
            have hn9 : zMk mdA_65 n4A_74 (zPl cr0_ inn0_ k10_) ≤ 131072 := by rw [hzk]; exact zPw_le h_102
            refine z_Vq (bc := [[zO10 xo t im mk rd po co tr wa wb_ fi cd], wwA_75, z0_]) (br := [wt, z1_, wg0_, wg1_, wwB_87, [zO3 fi e0f_88 e1f_89 e2f_90 e3f_91 e4f_92 e5f_93 a1_124 a2_125], [zAr T 0 a1_124 m1f_95 r1f_94], [zAr T 0 a2_125 7 r2f_96]]) (As := [.int i1, .ref l0]) (rest := [.ref fi]) C G (c_f_waysInA l T xo t im mk rd po co tr wa wb_ fi cd i1 laA_64 mdA_65 wyA_66 pc_A_67 f1A_68 f2A_69 f3A_70 f4A_71 f5A_72 f6A_73 n4A_74 wwA_75 l0 cr0_ inn0_ k10_ k20_ k30_ k40_ z0_ h_98 hz0_ hI0_ h_102 h_99 (kaOk hI0_ hLq0).1 h_104 (by omega)) (kV_RX11_235 C.2.2.2.2 (Nat.le_of_ble_eq_true rfl) (Nat.le_of_ble_eq_true rfl)) [0, 5, 10] [0, 4, 4] rfl rfl (ci := 10) (qc := (RX11, TX11, 11)) rfl rfl (List.mem_flatten.mpr ⟨_, List.mem_of_getElem? (i := 0) rfl, List.mem_cons_self⟩) rfl rfl hl.1 dX11_odds_62 (Nat.le_of_ble_eq_true rfl) (by show _ + (6 * (zMk mdA_65 n4A_74 (zPl cr0_ inn0_ k10_) - n4A_74)) ≤ 6 * (zNA (i1.toInt = 0 ∧ 0 < (fk 0).toInt ∧ (0 ≤ i2.toInt ∧ i2.toInt < (fk 2).toInt ∧ i2.toInt < 2) ∧ (e0f.toInt = 0 ∨ ¬ e1f.toInt = i1.toInt ∨ ¬ e2f.toInt = i2.toInt)) mdA n4A (zPl cr0_ inn0_ k10_) - n4A) + 6 * (zNA (i1.toInt = 1 ∧ 1 < (fk 0).toInt ∧ (0 ≤ i2.toInt ∧ i2.toInt < (fk 2).toInt ∧ i2.toInt < 2) ∧ (e0f.toInt = 0 ∨ ¬ e1f.toInt = i1.toInt ∨ ¬ e2f.toInt = i2.toInt)) mdB n4B (zPl cr1_ inn1_ k11_) - n4B) + 2 * (zNF (i1.toInt = 1 ∧ 1 < (fk 0).toInt ∧ (0 ≤ i2.toInt ∧ i2.toInt < (fk 2).toInt ∧ i2.toInt < 2) ∧ (e0f.toInt = 0 ∨ ¬ e1f.toInt = i1.toInt ∨ ¬ e2f.toInt = i2.toInt)) (zNF (i1.toInt = 0 ∧ 0 < (fk 0).toInt ∧ (0 ≤ i2.toInt ∧ i2.toInt < (fk 2).toInt ∧ i2.toInt < 2) ∧ (e0f.toInt = 0 ∨ ¬ e1f.toInt = i1.toInt ∨ ¬ e2f.toInt = i2.toInt)) m1f (zMw mdA wyA cr0_ inn0_ k10_)) (zMw mdB wyB cr1_ inn1_ k11_) - m1f); omega) (fun r_141 b1 H locs hw G => ?_)
            refine zEx9 hw ?_
            intro w2_127 m2_128 wy2_129 pc2_130 g1_131 g2_132 g4_133 g5_134 g6_135
            refine zCu6 ?_
            intro hbs9 h_136 h_137 h_138 h_139 h_140
            clear hw
            subst hbs9
            have G : zS T A s.heap s [wt, z1_, wg0_, wg1_, wwB_87, [zO3 fi e0f_88 e1f_89 e2f_90 e3f_91 e4f_92 e5f_93 a1_124 a2_125], [zAr T 0 a1_124 m1f_95 r1f_94], [zAr T 0 a2_125 7 r2f_96], [zO10 xo t im mk rd po co tr wa wb_ fi cd], w2_127, z0_] _ _ := G
            subst h_136
            have hwy9 : 0 ≤ wy2_129.toInt ∧ wy2_129.toInt ≤ 16384 := by have q9 := zWy_in (inn := inn0_) hI0_; rw [h_138]; exact ⟨by omega, q9.2⟩
            refine lv_iload_n hx hb dX11_odds_65 rfl (lv_at hl 4 rfl) ?_
            refine lv_iload hx hb dX11_odds_66 (lv_at hl 5 rfl) ?_
            have hw_142 : bFit T fi e0f_88 e1f_89 e2f_90 e3f_91 e4f_92 e5f_93 r1f_94 m1f_95 r2f_96 [zO3 fi e0f_88 e1f_89 e2f_90 e3f_91 e4f_92 e5f_93 a1_124 a2_125, zAr T 0 a1_124 m1f_95 r1f_94, zAr T 0 a2_125 7 r2f_96] := ⟨a1_124, a2_125, rfl⟩
            have G : zS T A s.heap s [wt, z1_, wg0_, wg1_, wwB_87, [zO3 fi e0f_88 e1f_89 e2f_90 e3f_91 e4f_92 e5f_93 a1_124 a2_125, zAr T 0 a1_124 m1f_95 r1f_94, zAr T 0 a2_125 7 r2f_96], [zO10 xo t im mk rd po co tr wa wb_ fi cd], w2_127, z0_] _ _ := G.re rfl
            refine z_Vi (bc := [[zO3 fi e0f_88 e1f_89 e2f_90 e3f_91 e4f_92 e5f_93 a1_124 a2_125, zAr T 0 a1_124 m1f_95 r1f_94, zAr T 0 a2_125 7 r2f_96], w2_127]) (br := [wt, z1_, wg0_, wg1_, wwB_87, [zO10 xo t im mk rd po co tr wa wb_ fi cd], z0_]) (As := [.ref wa, .int a_, .int b_]) (rest := []) C G (c_pointing l T fi e0f_88 e1f_89 e2f_90 e3f_91 e4f_92 e5f_93 r1f_94 m1f_95 r2f_96 ([zO3 fi e0f_88 e1f_89 e2f_90 e3f_91 e4f_92 e5f_93 a1_124 a2_125, zAr T 0 a1_124 m1f_95 r1f_94, zAr T 0 a2_125 7 r2f_96]) wa l0 m2_128 wy2_129 pc2_130 g1_131 g2_132 f3A_70 g4_133 g5_134 g6_135 (zMk mdA_65 n4A_74 (zPl cr0_ inn0_ k10_)) w2_127 a_ b_ hw_142 h_137 hfm9) (kV_RX11_320 C.2.2.2.2 (Nat.le_of_ble_eq_true rfl) (Nat.le_of_ble_eq_true rfl)) [5, 7] [5, 1] rfl rfl (ci := 3) (qc := (RX3, TX3, 8)) rfl rfl (List.mem_flatten.mpr ⟨_, List.mem_of_getElem? (i := 0) rfl, (bFit_mem hw_142).choose_spec⟩) rfl rfl hl.1 dX11_odds_68 (Nat.le_of_ble_eq_true rfl) (by show _ + 0 ≤ 6 * (zNA (i1.toInt = 0 ∧ 0 < (fk 0).toInt ∧ (0 ≤ i2.toInt ∧ i2.toInt < (fk 2).toInt ∧ i2.toInt < 2) ∧ (e0f.toInt = 0 ∨ ¬ e1f.toInt = i1.toInt ∨ ¬ e2f.toInt = i2.toInt)) mdA n4A (zPl cr0_ inn0_ k10_) - n4A) + 6 * (zNA (i1.toInt = 1 ∧ 1 < (fk 0).toInt ∧ (0 ≤ i2.toInt ∧ i2.toInt < (fk 2).toInt ∧ i2.toInt < 2) ∧ (e0f.toInt = 0 ∨ ¬ e1f.toInt = i1.toInt ∨ ¬ e2f.toInt = i2.toInt)) mdB n4B (zPl cr1_ inn1_ k11_) - n4B) + 2 * (zNF (i1.toInt = 1 ∧ 1 < (fk 0).toInt ∧ (0 ≤ i2.toInt ∧ i2.toInt < (fk 2).toInt ∧ i2.toInt < 2) ∧ (e0f.toInt = 0 ∨ ¬ e1f.toInt = i1.toInt ∨ ¬ e2f.toInt = i2.toInt)) (zNF (i1.toInt = 0 ∧ 0 < (fk 0).toInt ∧ (0 ≤ i2.toInt ∧ i2.toInt < (fk 2).toInt ∧ i2.toInt < 2) ∧ (e0f.toInt = 0 ∨ ¬ e1f.toInt = i1.toInt ∨ ¬ e2f.toInt = i2.toInt)) m1f (zMw mdA wyA cr0_ inn0_ k10_)) (zMw mdB wyB cr1_ inn1_ k11_) - m1f); omega) (fun r_143 b1 H locs hw G => ?_)
            obtain rfl := hw
            have G : zS T A s.heap s [wt, z1_, wg0_, wg1_, wwB_87, [zO10 xo t im mk rd po co tr wa wb_ fi cd], z0_, [zO3 fi e0f_88 e1f_89 e2f_90 e3f_91 e4f_92 e5f_93 a1_124 a2_125, zAr T 0 a1_124 m1f_95 r1f_94, zAr T 0 a2_125 7 r2f_96], w2_127] _ _ := G
            refine lv_istore (lv' := [(7, .int r_143), (6, .ref l0), (0, .ref xo), (1, .int i1), (2, .int i2), (3, .int a_), (4, .int b_), (5, .int w_)]) hx hb dX11_odds_71 hl (by decide) (zLvf_h rfl) (fun ls hl => ?_)
            refine lv_iload hx hb dX11_odds_73 (lv_at hl 0 rfl) ?_
            refine lv_aload_n hx hb dX11_odds_75 rfl (lv_at hl 2 rfl) ?_
            refine z_get C G clX11 5 rfl 9 (by decide) m_fl_RX11_65 rfl dX11_odds_76 ?_
            have G : zS T A s.heap s [wt, z1_, wg0_, wg1_, wwB_87, [zO10 xo t im mk rd po co tr wa wb_ fi cd], z0_, [zO3 fi e0f_88 e1f_89 e2f_90 e3f_91 e4f_92 e5f_93 a1_124 a2_125], [zAr T 0 a1_124 m1f_95 r1f_94], [zAr T 0 a2_125 7 r2f_96], w2_127] _ _ := G.re rfl
            refine z_get C G clX3 7 rfl 3 (by decide) m_fl_RX11_306 rfl dX11_odds_79 ?_
            refine lv_iload hx hb dX11_odds_82 (lv_at hl 7 rfl) ?_
            refine z_Si (bc := []) (br := [wt, z1_, wg0_, wg1_, wwB_87, [zO10 xo t im mk rd po co tr wa wb_ fi cd], z0_, [zO3 fi e0f_88 e1f_89 e2f_90 e3f_91 e4f_92 e5f_93 a1_124 a2_125], [zAr T 0 a1_124 m1f_95 r1f_94], [zAr T 0 a2_125 7 r2f_96], w2_127]) (As := [.int r_143, .int e3f_91, .int w_]) (rest := []) C G (c_inLeastTerms l T r_143 e3f_91 w_) (kS_RX11_262 C.2.2.2.2 (Nat.le_of_ble_eq_true rfl) (Nat.le_of_ble_eq_true rfl)) [] [] rfl rfl rfl rfl hl.1 dX11_odds_84 (Nat.le_of_ble_eq_true rfl) (by show _ + 0 ≤ 6 * (zNA (i1.toInt = 0 ∧ 0 < (fk 0).toInt ∧ (0 ≤ i2.toInt ∧ i2.toInt < (fk 2).toInt ∧ i2.toInt < 2) ∧ (e0f.toInt = 0 ∨ ¬ e1f.toInt = i1.toInt ∨ ¬ e2f.toInt = i2.toInt)) mdA n4A (zPl cr0_ inn0_ k10_) - n4A) + 6 * (zNA (i1.toInt = 1 ∧ 1 < (fk 0).toInt ∧ (0 ≤ i2.toInt ∧ i2.toInt < (fk 2).toInt ∧ i2.toInt < 2) ∧ (e0f.toInt = 0 ∨ ¬ e1f.toInt = i1.toInt ∨ ¬ e2f.toInt = i2.toInt)) mdB n4B (zPl cr1_ inn1_ k11_) - n4B) + 2 * (zNF (i1.toInt = 1 ∧ 1 < (fk 0).toInt ∧ (0 ≤ i2.toInt ∧ i2.toInt < (fk 2).toInt ∧ i2.toInt < 2) ∧ (e0f.toInt = 0 ∨ ¬ e1f.toInt = i1.toInt ∨ ¬ e2f.toInt = i2.toInt)) (zNF (i1.toInt = 0 ∧ 0 < (fk 0).toInt ∧ (0 ≤ i2.toInt ∧ i2.toInt < (fk 2).toInt ∧ i2.toInt < 2) ∧ (e0f.toInt = 0 ∨ ¬ e1f.toInt = i1.toInt ∨ ¬ e2f.toInt = i2.toInt)) m1f (zMw mdA wyA cr0_ inn0_ k10_)) (zMw mdB wyB cr1_ inn1_ k11_) - m1f); omega) (fun r_144 b1 H locs hw G => ?_)
            obtain rfl := hw
            have G : zS T A s.heap s [wt, z1_, wg0_, wg1_, wwB_87, [zO10 xo t im mk rd po co tr wa wb_ fi cd], z0_, [zO3 fi e0f_88 e1f_89 e2f_90 e3f_91 e4f_92 e5f_93 a1_124 a2_125], [zAr T 0 a1_124 m1f_95 r1f_94], [zAr T 0 a2_125 7 r2f_96], w2_127] _ _ := G
            have hw_145 : bFit T fi e0f_88 e1f_89 e2f_90 e3f_91 e4f_92 e5f_93 r1f_94 m1f_95 r2f_96 [zO3 fi e0f_88 e1f_89 e2f_90 e3f_91 e4f_92 e5f_93 a1_124 a2_125, zAr T 0 a1_124 m1f_95 r1f_94, zAr T 0 a2_125 7 r2f_96] := ⟨a1_124, a2_125, rfl⟩
            have G : zS T A s.heap s [wt, z1_, wg0_, wg1_, wwB_87, [zO10 xo t im mk rd po co tr wa wb_ fi cd], z0_, [zO3 fi e0f_88 e1f_89 e2f_90 e3f_91 e4f_92 e5f_93 a1_124 a2_125, zAr T 0 a1_124 m1f_95 r1f_94, zAr T 0 a2_125 7 r2f_96], w2_127] _ _ := G.re rfl
            have G := G.sub (bs' := [[zO10 xo t im mk rd po co tr wa wb_ fi cd], wt, z0_, z1_, wg0_, wg1_, w2_127, wwB_87, [zO3 fi e0f_88 e1f_89 e2f_90 e3f_91 e4f_92 e5f_93 a1_124 a2_125, zAr T 0 a1_124 m1f_95 r1f_94, zAr T 0 a2_125 7 r2f_96]]) [5, 0, 6, 1, 2, 3, 8, 4, 7] rfl
            exact z_back hQz_ (z_iret C hr hlocks G (Nat.le_of_ble_eq_true rfl) (by omega) dX11_odds_87 ⟨l0, m2_128, wy2_129, pc2_130, g1_131, g2_132, f3A_70, g4_133, g5_134, g6_135, (zMk mdA_65 n4A_74 (zPl cr0_ inn0_ k10_)), w2_127, laB_76, mdB_77, wyB_78, pc_B_79, f1B_80, f2B_81, f3B_82, f4B_83, f5B_84, f6B_85, n4B_86, wwB_87, e0f_88, e1f_89, e2f_90, e3f_91, e4f_92, e5f_93, r1f_94, m1f_95, r2f_96, ([zO3 fi e0f_88 e1f_89 e2f_90 e3f_91 e4f_92 e5f_93 a1_124 a2_125, zAr T 0 a1_124 m1f_95 r1f_94, zAr T 0 a2_125 7 r2f_96]), rfl, h_137, (Or.inr rfl), hwy9, (hzk.trans h_101), (by rw [hzk]; exact h_102), (fun _ => h_139), (Or.inr h_140), h_105, h_106, h_107, h_108, h_109, h_110, h_111, hw_145, h_113, h_114, h_115, (fun q => (h_117 q).elim (fun w => Or.inl ⟨w.1, h_139⟩) (fun w => Or.inr ⟨w.1, w.2⟩))⟩)
          · have c_126n : e3f_91.toInt = (0 : Int) := (fa_eq _ _).mp c_126
            refine lv_iconst (v := (-1)) hx hb dX11_odds_52 (by decide) ?_
            have hw_146 : bFit T fi e0f_88 e1f_89 e2f_90 e3f_91 e4f_92 e5f_93 r1f_94 m1f_95 r2f_96 [zO3 fi e0f_88 e1f_89 e2f_90 e3f_91 e4f_92 e5f_93 a1_124 a2_125, zAr T 0 a1_124 m1f_95 r1f_94, zAr T 0 a2_125 7 r2f_96] := ⟨a1_124, a2_125, rfl⟩
            have G : zS T A s.heap s [[zO10 xo t im mk rd po co tr wa wb_ fi cd], wt, z1_, wg0_, wg1_, wwA_75, wwB_87, [zO3 fi e0f_88 e1f_89 e2f_90 e3f_91 e4f_92 e5f_93 a1_124 a2_125, zAr T 0 a1_124 m1f_95 r1f_94, zAr T 0 a2_125 7 r2f_96], z0_] _ _ := G.re rfl
            have G := G.sub (bs' := [[zO10 xo t im mk rd po co tr wa wb_ fi cd], wt, z0_, z1_, wg0_, wg1_, wwA_75, wwB_87, [zO3 fi e0f_88 e1f_89 e2f_90 e3f_91 e4f_92 e5f_93 a1_124 a2_125, zAr T 0 a1_124 m1f_95 r1f_94, zAr T 0 a2_125 7 r2f_96]]) [0, 1, 8, 2, 3, 4, 5, 6, 7] rfl
            exact z_back hQz_ (z_iret C hr hlocks G (Nat.le_of_ble_eq_true rfl) (by omega) dX11_odds_53 ⟨laA_64, mdA_65, wyA_66, pc_A_67, f1A_68, f2A_69, f3A_70, f4A_71, f5A_72, f6A_73, n4A_74, wwA_75, laB_76, mdB_77, wyB_78, pc_B_79, f1B_80, f2B_81, f3B_82, f4B_83, f5B_84, f6B_85, n4B_86, wwB_87, e0f_88, e1f_89, e2f_90, e3f_91, e4f_92, e5f_93, r1f_94, m1f_95, r2f_96, ([zO3 fi e0f_88 e1f_89 e2f_90 e3f_91 e4f_92 e5f_93 a1_124 a2_125, zAr T 0 a1_124 m1f_95 r1f_94, zAr T 0 a2_125 7 r2f_96]), rfl, h_98, h_99, h_100, h_101, h_102, h_103, h_104, h_105, h_106, h_107, h_108, h_109, h_110, h_111, hw_146, h_113, h_114, h_115, h_117⟩)
        · have c_123n : ¬ b_.toInt < (zWays cr0_ inn0_ k10_ a_).toInt := fun q => c_123 ((fa_lt _ _).mpr q)
          refine lv_iconst (v := (-1)) hx hb dX11_odds_40 (by decide) ?_
          have G := G.sub (bs' := [[zO10 xo t im mk rd po co tr wa wb_ fi cd], wt, z0_, z1_, wg0_, wg1_, wwA_75, wwB_87, wff_97]) [0, 1, 8, 2, 3, 4, 5, 6, 7] rfl
          exact z_back hQz_ (z_iret C hr hlocks G (Nat.le_of_ble_eq_true rfl) (by omega) dX11_odds_41 ⟨laA_64, mdA_65, wyA_66, pc_A_67, f1A_68, f2A_69, f3A_70, f4A_71, f5A_72, f6A_73, n4A_74, wwA_75, laB_76, mdB_77, wyB_78, pc_B_79, f1B_80, f2B_81, f3B_82, f4B_83, f5B_84, f6B_85, n4B_86, wwB_87, e0f_88, e1f_89, e2f_90, e3f_91, e4f_92, e5f_93, r1f_94, m1f_95, r2f_96, wff_97, rfl, h_98, h_99, h_100, h_101, h_102, h_103, h_104, h_105, h_106, h_107, h_108, h_109, h_110, h_111, h_112, h_113, h_114, h_115, h_117⟩)
  · have h_6 : i1.toInt = 1 := h_6
    have h_7 : 1 < (fk 0).toInt := h_7
    refine lv_astore (lv' := [(6, .ref l1), (0, .ref xo), (1, .int i1), (2, .int i2), (3, .int a_), (4, .int b_), (5, .int w_)]) hx hb dX11_odds_8 hl (by decide) (zLvf_h rfl) (fun ls hl => ?_)
    refine lv_aload_n hx hb dX11_odds_10 rfl (lv_at hl 1 rfl) ?_
    refine lv_iload_n hx hb dX11_odds_11 rfl (lv_at hl 2 rfl) ?_
    refine lv_iload_n hx hb dX11_odds_12 rfl (lv_at hl 3 rfl) ?_
    refine z_Vi (bc := [[zO10 xo t im mk rd po co tr wa wb_ fi cd], wt, z0_, z1_, wg0_, wg1_, wwA, wwB, wff]) (br := []) (As := [.int i1, .int i2]) (rest := []) C G (c_t_fit l T xo t im mk rd po co tr wa wb_ fi cd l0 l1 d0 d1 g0 g1 ln fl pl ft fk wt cr0_ inn0_ k10_ k20_ k30_ k40_ z0_ cr1_ inn1_ k11_ k21_ k31_ k41_ z1_ gg0_ q10_ q20_ wg0_ gg1_ q11_ q21_ wg1_ laA mdA wyA pc_A f1A f2A f3A f4A f5A f6A n4A wwA laB mdB wyB pc_B f1B f2B f3B f4B f5B f6B n4B wwB e0f e1f e2f e3f e4f e5f r1f m1f r2f wff i1 i2 ht (by first | with_reducible assumption | with_reducible rfl | omega | assumption | rfl) hz0_ (by first | with_reducible assumption | with_reducible rfl | omega | assumption | rfl) hz1_ (by first | with_reducible assumption | with_reducible rfl | omega | assumption | rfl) hg0_ hg1_ hwwA (by first | with_reducible assumption | with_reducible rfl | omega | assumption | rfl) (by first | with_reducible assumption | with_reducible rfl | omega | assumption | rfl) (by first | with_reducible assumption | with_reducible rfl | omega | assumption | rfl) (by first | with_reducible assumption | with_reducible rfl | omega | assumption | rfl) (by first | with_reducible assumption | with_reducible rfl | omega | assumption | rfl) hwwB (by first | with_reducible assumption | with_reducible rfl | omega | assumption | rfl) (by first | with_reducible assumption | with_reducible rfl | omega | assumption | rfl) (by first | with_reducible assumption | with_reducible rfl | omega | assumption | rfl) (by first | with_reducible assumption | with_reducible rfl | omega | assumption | rfl) (by first | with_reducible assumption | with_reducible rfl | omega | assumption | rfl) hwff hfw hf3 hFI) (kV_RX11_302 C.2.2.2.2 (Nat.le_of_ble_eq_true rfl) (Nat.le_of_ble_eq_true rfl)) [0, 8, 1, 2, 3, 4, 5, 6, 7] [0, 0, 0, 0, 0, 0, 0, 0, 0] rfl rfl (ci := 10) (qc := (RX11, TX11, 11)) rfl rfl (List.mem_flatten.mpr ⟨_, List.mem_of_getElem? (i := 0) rfl, List.mem_cons_self⟩) rfl rfl hl.1 dX11_odds_13 (Nat.le_of_ble_eq_true rfl) (by show _ + (6 * (zNA (i1.toInt = 0 ∧ 0 < (fk 0).toInt ∧ (0 ≤ i2.toInt ∧ i2.toInt < (fk 2).toInt ∧ i2.toInt < 2) ∧ (e0f.toInt = 0 ∨ ¬ e1f.toInt = i1.toInt ∨ ¬ e2f.toInt = i2.toInt)) mdA n4A (zPl cr0_ inn0_ k10_) - n4A) + 6 * (zNA (i1.toInt = 1 ∧ 1 < (fk 0).toInt ∧ (0 ≤ i2.toInt ∧ i2.toInt < (fk 2).toInt ∧ i2.toInt < 2) ∧ (e0f.toInt = 0 ∨ ¬ e1f.toInt = i1.toInt ∨ ¬ e2f.toInt = i2.toInt)) mdB n4B (zPl cr1_ inn1_ k11_) - n4B) + 2 * (zNF (i1.toInt = 1 ∧ 1 < (fk 0).toInt ∧ (0 ≤ i2.toInt ∧ i2.toInt < (fk 2).toInt ∧ i2.toInt < 2) ∧ (e0f.toInt = 0 ∨ ¬ e1f.toInt = i1.toInt ∨ ¬ e2f.toInt = i2.toInt)) (zNF (i1.toInt = 0 ∧ 0 < (fk 0).toInt ∧ (0 ≤ i2.toInt ∧ i2.toInt < (fk 2).toInt ∧ i2.toInt < 2) ∧ (e0f.toInt = 0 ∨ ¬ e1f.toInt = i1.toInt ∨ ¬ e2f.toInt = i2.toInt)) m1f (zMw mdA wyA cr0_ inn0_ k10_)) (zMw mdB wyB cr1_ inn1_ k11_) - m1f)) ≤ 6 * (zNA (i1.toInt = 0 ∧ 0 < (fk 0).toInt ∧ (0 ≤ i2.toInt ∧ i2.toInt < (fk 2).toInt ∧ i2.toInt < 2) ∧ (e0f.toInt = 0 ∨ ¬ e1f.toInt = i1.toInt ∨ ¬ e2f.toInt = i2.toInt)) mdA n4A (zPl cr0_ inn0_ k10_) - n4A) + 6 * (zNA (i1.toInt = 1 ∧ 1 < (fk 0).toInt ∧ (0 ≤ i2.toInt ∧ i2.toInt < (fk 2).toInt ∧ i2.toInt < 2) ∧ (e0f.toInt = 0 ∨ ¬ e1f.toInt = i1.toInt ∨ ¬ e2f.toInt = i2.toInt)) mdB n4B (zPl cr1_ inn1_ k11_) - n4B) + 2 * (zNF (i1.toInt = 1 ∧ 1 < (fk 0).toInt ∧ (0 ≤ i2.toInt ∧ i2.toInt < (fk 2).toInt ∧ i2.toInt < 2) ∧ (e0f.toInt = 0 ∨ ¬ e1f.toInt = i1.toInt ∨ ¬ e2f.toInt = i2.toInt)) (zNF (i1.toInt = 0 ∧ 0 < (fk 0).toInt ∧ (0 ≤ i2.toInt ∧ i2.toInt < (fk 2).toInt ∧ i2.toInt < 2) ∧ (e0f.toInt = 0 ∨ ¬ e1f.toInt = i1.toInt ∨ ¬ e2f.toInt = i2.toInt)) m1f (zMw mdA wyA cr0_ inn0_ k10_)) (zMw mdB wyB cr1_ inn1_ k11_) - m1f); omega) (fun r_201 b1 H locs hw G => ?_)
    refine zEx34 hw ?_
    intro laA_147 mdA_148 wyA_149 pc_A_150 f1A_151 f2A_152 f3A_153 f4A_154 f5A_155 f6A_156 n4A_157 wwA_158 laB_159 mdB_160 wyB_161 pc_B_162 f1B_163 f2B_164 f3B_165 f4B_166 f5B_167 f6B_168 n4B_169 wwB_170 e0f_171 e1f_172 e2f_173 e3f_174 e4f_175 e5f_176 r1f_177 m1f_178 r2f_179 wff_180
    refine zCu21 ?_
    intro hbs9 h_181 h_182 h_183 h_184 h_185 h_186 h_187 h_188 h_189 h_190 h_191 h_192 h_193 h_194 h_195 h_196 h_197 h_198 h_199 h_200
    clear hw
    subst hbs9
    have G : zS T A s.heap s [[zO10 xo t im mk rd po co tr wa wb_ fi cd], wt, z0_, z1_, wg0_, wg1_, wwA_158, wwB_170, wff_180] _ _ := G
    replace h_182 : zHd ((mdA_148 = 0 ∨ laA_147 = l0)) := h_182
    replace h_186 : zHd ((¬ mdA = 0 → ¬ mdA_148 = 0)) := h_186
    replace h_187 : zHd ((mdA_148 = 0 ∨ zTab cr0_ inn0_ k10_ k20_ wyA_149 pc_A_150 f1A_151 f2A_152 f5A_155 n4A_157)) := h_187
    replace h_189 : zHd ((mdB_160 = 0 ∨ laB_159 = l1)) := h_189
    replace h_193 : zHd ((¬ mdB = 0 → ¬ mdB_160 = 0)) := h_193
    replace h_194 : zHd ((mdB_160 = 0 ∨ zTab cr1_ inn1_ k11_ k21_ wyB_161 pc_B_162 f1B_163 f2B_164 f5B_167 n4B_169)) := h_194
    replace h_200 : zHd ((¬ e0f_171 = 0 → e1f_172.toInt = 0 ∧ ¬ mdA_148 = 0 ∨ e1f_172.toInt = 1 ∧ ¬ mdB_160 = 0)) := h_200
    have hfm9 : m1f_178 ≤ 16384 := zFw_le h_197
    refine lv_if_eq (tgt := 40) hx hb dX11_odds_16 (by decide) (fun c_202 => ?_) (fun c_202 => ?_)
    · have c_202n : r_201.toInt = (0 : Int) := (fa_eq _ _).mp c_202
      refine lv_iconst (v := (-1)) hx hb dX11_odds_40 (by decide) ?_
      exact z_back hQz_ (z_iret C hr hlocks G (Nat.le_of_ble_eq_true rfl) (by omega) dX11_odds_41 ⟨laA_147, mdA_148, wyA_149, pc_A_150, f1A_151, f2A_152, f3A_153, f4A_154, f5A_155, f6A_156, n4A_157, wwA_158, laB_159, mdB_160, wyB_161, pc_B_162, f1B_163, f2B_164, f3B_165, f4B_166, f5B_167, f6B_168, n4B_169, wwB_170, e0f_171, e1f_172, e2f_173, e3f_174, e4f_175, e5f_176, r1f_177, m1f_178, r2f_179, wff_180, rfl, h_181, h_182, h_183, h_184, h_185, h_186, h_187, h_188, h_189, h_190, h_191, h_192, h_193, h_194, h_195, h_196, h_197, h_198, h_200⟩)
    · have c_202n : ¬ r_201.toInt = (0 : Int) := fun q => c_202 ((fa_eq _ _).mpr q)
      refine lv_aload hx hb dX11_odds_19 (lv_at hl 0 rfl) ?_
      refine lv_ifnull hx hb dX11_odds_21 ?_
      refine lv_iload hx hb dX11_odds_24 (lv_at hl 5 rfl) ?_
      refine lv_if_lt (tgt := 40) hx hb dX11_odds_26 (by decide) (fun c_203 => ?_) (fun c_203 => ?_)
      · have c_203n : b_.toInt < (0 : Int) := (fa_lt _ _).mp c_203
        refine lv_iconst (v := (-1)) hx hb dX11_odds_40 (by decide) ?_
        exact z_back hQz_ (z_iret C hr hlocks G (Nat.le_of_ble_eq_true rfl) (by omega) dX11_odds_41 ⟨laA_147, mdA_148, wyA_149, pc_A_150, f1A_151, f2A_152, f3A_153, f4A_154, f5A_155, f6A_156, n4A_157, wwA_158, laB_159, mdB_160, wyB_161, pc_B_162, f1B_163, f2B_164, f3B_165, f4B_166, f5B_167, f6B_168, n4B_169, wwB_170, e0f_171, e1f_172, e2f_173, e3f_174, e4f_175, e5f_176, r1f_177, m1f_178, r2f_179, wff_180, rfl, h_181, h_182, h_183, h_184, h_185, h_186, h_187, h_188, h_189, h_190, h_191, h_192, h_193, h_194, h_195, h_196, h_197, h_198, h_200⟩)
      · have c_203n : ¬ b_.toInt < (0 : Int) := fun q => c_203 ((fa_lt _ _).mpr q)
        refine lv_iload hx hb dX11_odds_29 (lv_at hl 5 rfl) ?_
        refine lv_aload hx hb dX11_odds_31 (lv_at hl 0 rfl) ?_
        refine lv_iload_n hx hb dX11_odds_33 rfl (lv_at hl 4 rfl) ?_
        refine z_Vi (bc := [z1_]) (br := [[zO10 xo t im mk rd po co tr wa wb_ fi cd], wt, z0_, wg0_, wg1_, wwA_158, wwB_170, wff_180]) (As := [.int a_]) (rest := [.int b_]) C G (c_waysOut l T l1 cr1_ inn1_ k11_ k21_ k31_ k41_ z1_ a_ hz1_) (kV_RX11_221 C.2.2.2.2 (Nat.le_of_ble_eq_true rfl) (Nat.le_of_ble_eq_true rfl)) [3] [3] rfl rfl (ci := 4) (qc := (RX4, TX4, 6)) rfl rfl (List.mem_flatten.mpr ⟨_, List.mem_of_getElem? (i := 0) rfl, (bLand_mem hz1_).choose_spec⟩) rfl rfl hl.1 dX11_odds_34 (Nat.le_of_ble_eq_true rfl) (by show _ + 0 ≤ 6 * (zNA (i1.toInt = 0 ∧ 0 < (fk 0).toInt ∧ (0 ≤ i2.toInt ∧ i2.toInt < (fk 2).toInt ∧ i2.toInt < 2) ∧ (e0f.toInt = 0 ∨ ¬ e1f.toInt = i1.toInt ∨ ¬ e2f.toInt = i2.toInt)) mdA n4A (zPl cr0_ inn0_ k10_) - n4A) + 6 * (zNA (i1.toInt = 1 ∧ 1 < (fk 0).toInt ∧ (0 ≤ i2.toInt ∧ i2.toInt < (fk 2).toInt ∧ i2.toInt < 2) ∧ (e0f.toInt = 0 ∨ ¬ e1f.toInt = i1.toInt ∨ ¬ e2f.toInt = i2.toInt)) mdB n4B (zPl cr1_ inn1_ k11_) - n4B) + 2 * (zNF (i1.toInt = 1 ∧ 1 < (fk 0).toInt ∧ (0 ≤ i2.toInt ∧ i2.toInt < (fk 2).toInt ∧ i2.toInt < 2) ∧ (e0f.toInt = 0 ∨ ¬ e1f.toInt = i1.toInt ∨ ¬ e2f.toInt = i2.toInt)) (zNF (i1.toInt = 0 ∧ 0 < (fk 0).toInt ∧ (0 ≤ i2.toInt ∧ i2.toInt < (fk 2).toInt ∧ i2.toInt < 2) ∧ (e0f.toInt = 0 ∨ ¬ e1f.toInt = i1.toInt ∨ ¬ e2f.toInt = i2.toInt)) m1f (zMw mdA wyA cr0_ inn0_ k10_)) (zMw mdB wyB cr1_ inn1_ k11_) - m1f); omega) (fun r_205 b1 H locs hw G => ?_)
        refine zAn2 hw ?_
        intro hbs9 h_204
        clear hw
        subst hbs9
        have G : zS T A s.heap s [[zO10 xo t im mk rd po co tr wa wb_ fi cd], wt, z0_, wg0_, wg1_, wwA_158, wwB_170, wff_180, z1_] _ _ := G
        subst h_204
        refine lv_icmp_lt (tgt := 42) hx hb dX11_odds_37 (by decide) (fun c_206 => ?_) (fun c_206 => ?_)
        · have c_206n : b_.toInt < (zWays cr1_ inn1_ k11_ a_).toInt := (fa_lt _ _).mp c_206
          refine lv_aload_n hx hb dX11_odds_42 rfl (lv_at hl 1 rfl) ?_
          refine z_get C G clX11 0 rfl 9 (by decide) m_fl_RX11_65 rfl dX11_odds_43 ?_
          refine zEx2 h_195 ?_
          intro a1_207 a2_208 hbs9
          clear h_195
          subst hbs9
          have G : zS T A s.heap s [[zO10 xo t im mk rd po co tr wa wb_ fi cd], wt, z0_, wg0_, wg1_, wwA_158, wwB_170, [zO3 fi e0f_171 e1f_172 e2f_173 e3f_174 e4f_175 e5f_176 a1_207 a2_208], [zAr T 0 a1_207 m1f_178 r1f_177], [zAr T 0 a2_208 7 r2f_179], z1_] _ _ := G.re rfl
          refine z_get C G clX3 7 rfl 3 (by decide) m_fl_RX11_306 rfl dX11_odds_46 ?_
          refine lv_if_ne (tgt := 54) hx hb dX11_odds_49 (by decide) (fun c_209 => ?_) (fun c_209 => ?_)
          · have c_209n : ¬ e3f_174.toInt = (0 : Int) := fun q => c_209 ((fa_eq _ _).mpr q)
            refine lv_aload_n hx hb dX11_odds_54 rfl (lv_at hl 1 rfl) ?_
            refine z_get C G clX11 0 rfl 9 (by decide) m_fl_RX11_65 rfl dX11_odds_55 ?_
            refine lv_aload_n hx hb dX11_odds_58 rfl (lv_at hl 1 rfl) ?_
            refine lv_iload_n hx hb dX11_odds_59 rfl (lv_at hl 2 rfl) ?_
            refine lv_aload hx hb dX11_odds_60 (lv_at hl 0 rfl) ?_
            have hX := h_199.resolve_left (fun q => absurd (congrArg Int32.toInt q.1) (by show ¬ _ = (0 : Int); omega))
            have hmk : ¬ mdB_160 = 0 := (h_200 hX.2.2.1).elim (fun q => absurd q.1 (by have := hX.2.2.2; omega)) (fun q => q.2)
            have hzk : zMk mdB_160 n4B_169 (zPl cr1_ inn1_ k11_) = n4B_169 := by unfold zMk; rw [if_neg hmk]
            have hn9 : zMk mdB_160 n4B_169 (zPl cr1_ inn1_ k11_) ≤ 131072 := by rw [hzk]; exact zPw_le h_192
            refine z_Vq (bc := [[zO10 xo t im mk rd po co tr wa wb_ fi cd], wwB_170, z1_]) (br := [wt, z0_, wg0_, wg1_, wwA_158, [zO3 fi e0f_171 e1f_172 e2f_173 e3f_174 e4f_175 e5f_176 a1_207 a2_208], [zAr T 0 a1_207 m1f_178 r1f_177], [zAr T 0 a2_208 7 r2f_179]]) (As := [.int i1, .ref l1]) (rest := [.ref fi]) C G (c_f_waysInB l T xo t im mk rd po co tr wa wb_ fi cd i1 laB_159 mdB_160 wyB_161 pc_B_162 f1B_163 f2B_164 f3B_165 f4B_166 f5B_167 f6B_168 n4B_169 wwB_170 l1 cr1_ inn1_ k11_ k21_ k31_ k41_ z1_ h_188 hz1_ hI1_ h_192 h_189 (kaOk hI1_ hLq1).1 h_194 (by omega)) (kV_RX11_235 C.2.2.2.2 (Nat.le_of_ble_eq_true rfl) (Nat.le_of_ble_eq_true rfl)) [0, 6, 10] [0, 5, 3] rfl rfl (ci := 10) (qc := (RX11, TX11, 11)) rfl rfl (List.mem_flatten.mpr ⟨_, List.mem_of_getElem? (i := 0) rfl, List.mem_cons_self⟩) rfl rfl hl.1 dX11_odds_62 (Nat.le_of_ble_eq_true rfl) (by show _ + (6 * (zMk mdB_160 n4B_169 (zPl cr1_ inn1_ k11_) - n4B_169)) ≤ 6 * (zNA (i1.toInt = 0 ∧ 0 < (fk 0).toInt ∧ (0 ≤ i2.toInt ∧ i2.toInt < (fk 2).toInt ∧ i2.toInt < 2) ∧ (e0f.toInt = 0 ∨ ¬ e1f.toInt = i1.toInt ∨ ¬ e2f.toInt = i2.toInt)) mdA n4A (zPl cr0_ inn0_ k10_) - n4A) + 6 * (zNA (i1.toInt = 1 ∧ 1 < (fk 0).toInt ∧ (0 ≤ i2.toInt ∧ i2.toInt < (fk 2).toInt ∧ i2.toInt < 2) ∧ (e0f.toInt = 0 ∨ ¬ e1f.toInt = i1.toInt ∨ ¬ e2f.toInt = i2.toInt)) mdB n4B (zPl cr1_ inn1_ k11_) - n4B) + 2 * (zNF (i1.toInt = 1 ∧ 1 < (fk 0).toInt ∧ (0 ≤ i2.toInt ∧ i2.toInt < (fk 2).toInt ∧ i2.toInt < 2) ∧ (e0f.toInt = 0 ∨ ¬ e1f.toInt = i1.toInt ∨ ¬ e2f.toInt = i2.toInt)) (zNF (i1.toInt = 0 ∧ 0 < (fk 0).toInt ∧ (0 ≤ i2.toInt ∧ i2.toInt < (fk 2).toInt ∧ i2.toInt < 2) ∧ (e0f.toInt = 0 ∨ ¬ e1f.toInt = i1.toInt ∨ ¬ e2f.toInt = i2.toInt)) m1f (zMw mdA wyA cr0_ inn0_ k10_)) (zMw mdB wyB cr1_ inn1_ k11_) - m1f); omega) (fun r_224 b1 H locs hw G => ?_)
            refine zEx9 hw ?_
            intro w2_210 m2_211 wy2_212 pc2_213 g1_214 g2_215 g4_216 g5_217 g6_218
            refine zCu6 ?_
            intro hbs9 h_219 h_220 h_221 h_222 h_223
            clear hw
            subst hbs9
            have G : zS T A s.heap s [wt, z0_, wg0_, wg1_, wwA_158, [zO3 fi e0f_171 e1f_172 e2f_173 e3f_174 e4f_175 e5f_176 a1_207 a2_208], [zAr T 0 a1_207 m1f_178 r1f_177], [zAr T 0 a2_208 7 r2f_179], [zO10 xo t im mk rd po co tr wa wb_ fi cd], w2_210, z1_] _ _ := G
            subst h_219
            have hwy9 : 0 ≤ wy2_212.toInt ∧ wy2_212.toInt ≤ 16384 := by have q9 := zWy_in (inn := inn1_) hI1_; rw [h_221]; exact ⟨by omega, q9.2⟩
            refine lv_iload_n hx hb dX11_odds_65 rfl (lv_at hl 4 rfl) ?_
            refine lv_iload hx hb dX11_odds_66 (lv_at hl 5 rfl) ?_
            have hw_225 : bFit T fi e0f_171 e1f_172 e2f_173 e3f_174 e4f_175 e5f_176 r1f_177 m1f_178 r2f_179 [zO3 fi e0f_171 e1f_172 e2f_173 e3f_174 e4f_175 e5f_176 a1_207 a2_208, zAr T 0 a1_207 m1f_178 r1f_177, zAr T 0 a2_208 7 r2f_179] := ⟨a1_207, a2_208, rfl⟩
            have G : zS T A s.heap s [wt, z0_, wg0_, wg1_, wwA_158, [zO3 fi e0f_171 e1f_172 e2f_173 e3f_174 e4f_175 e5f_176 a1_207 a2_208, zAr T 0 a1_207 m1f_178 r1f_177, zAr T 0 a2_208 7 r2f_179], [zO10 xo t im mk rd po co tr wa wb_ fi cd], w2_210, z1_] _ _ := G.re rfl
            refine z_Vi (bc := [[zO3 fi e0f_171 e1f_172 e2f_173 e3f_174 e4f_175 e5f_176 a1_207 a2_208, zAr T 0 a1_207 m1f_178 r1f_177, zAr T 0 a2_208 7 r2f_179], w2_210]) (br := [wt, z0_, wg0_, wg1_, wwA_158, [zO10 xo t im mk rd po co tr wa wb_ fi cd], z1_]) (As := [.ref wb_, .int a_, .int b_]) (rest := []) C G (c_pointing l T fi e0f_171 e1f_172 e2f_173 e3f_174 e4f_175 e5f_176 r1f_177 m1f_178 r2f_179 ([zO3 fi e0f_171 e1f_172 e2f_173 e3f_174 e4f_175 e5f_176 a1_207 a2_208, zAr T 0 a1_207 m1f_178 r1f_177, zAr T 0 a2_208 7 r2f_179]) wb_ l1 m2_211 wy2_212 pc2_213 g1_214 g2_215 f3B_165 g4_216 g5_217 g6_218 (zMk mdB_160 n4B_169 (zPl cr1_ inn1_ k11_)) w2_210 a_ b_ hw_225 h_220 hfm9) (kV_RX11_320 C.2.2.2.2 (Nat.le_of_ble_eq_true rfl) (Nat.le_of_ble_eq_true rfl)) [5, 7] [5, 1] rfl rfl (ci := 3) (qc := (RX3, TX3, 8)) rfl rfl (List.mem_flatten.mpr ⟨_, List.mem_of_getElem? (i := 0) rfl, (bFit_mem hw_225).choose_spec⟩) rfl rfl hl.1 dX11_odds_68 (Nat.le_of_ble_eq_true rfl) (by show _ + 0 ≤ 6 * (zNA (i1.toInt = 0 ∧ 0 < (fk 0).toInt ∧ (0 ≤ i2.toInt ∧ i2.toInt < (fk 2).toInt ∧ i2.toInt < 2) ∧ (e0f.toInt = 0 ∨ ¬ e1f.toInt = i1.toInt ∨ ¬ e2f.toInt = i2.toInt)) mdA n4A (zPl cr0_ inn0_ k10_) - n4A) + 6 * (zNA (i1.toInt = 1 ∧ 1 < (fk 0).toInt ∧ (0 ≤ i2.toInt ∧ i2.toInt < (fk 2).toInt ∧ i2.toInt < 2) ∧ (e0f.toInt = 0 ∨ ¬ e1f.toInt = i1.toInt ∨ ¬ e2f.toInt = i2.toInt)) mdB n4B (zPl cr1_ inn1_ k11_) - n4B) + 2 * (zNF (i1.toInt = 1 ∧ 1 < (fk 0).toInt ∧ (0 ≤ i2.toInt ∧ i2.toInt < (fk 2).toInt ∧ i2.toInt < 2) ∧ (e0f.toInt = 0 ∨ ¬ e1f.toInt = i1.toInt ∨ ¬ e2f.toInt = i2.toInt)) (zNF (i1.toInt = 0 ∧ 0 < (fk 0).toInt ∧ (0 ≤ i2.toInt ∧ i2.toInt < (fk 2).toInt ∧ i2.toInt < 2) ∧ (e0f.toInt = 0 ∨ ¬ e1f.toInt = i1.toInt ∨ ¬ e2f.toInt = i2.toInt)) m1f (zMw mdA wyA cr0_ inn0_ k10_)) (zMw mdB wyB cr1_ inn1_ k11_) - m1f); omega) (fun r_226 b1 H locs hw G => ?_)
            obtain rfl := hw
            have G : zS T A s.heap s [wt, z0_, wg0_, wg1_, wwA_158, [zO10 xo t im mk rd po co tr wa wb_ fi cd], z1_, [zO3 fi e0f_171 e1f_172 e2f_173 e3f_174 e4f_175 e5f_176 a1_207 a2_208, zAr T 0 a1_207 m1f_178 r1f_177, zAr T 0 a2_208 7 r2f_179], w2_210] _ _ := G
            refine lv_istore (lv' := [(7, .int r_226), (6, .ref l1), (0, .ref xo), (1, .int i1), (2, .int i2), (3, .int a_), (4, .int b_), (5, .int w_)]) hx hb dX11_odds_71 hl (by decide) (zLvf_h rfl) (fun ls hl => ?_)
            refine lv_iload hx hb dX11_odds_73 (lv_at hl 0 rfl) ?_
            refine lv_aload_n hx hb dX11_odds_75 rfl (lv_at hl 2 rfl) ?_
            refine z_get C G clX11 5 rfl 9 (by decide) m_fl_RX11_65 rfl dX11_odds_76 ?_
            have G : zS T A s.heap s [wt, z0_, wg0_, wg1_, wwA_158, [zO10 xo t im mk rd po co tr wa wb_ fi cd], z1_, [zO3 fi e0f_171 e1f_172 e2f_173 e3f_174 e4f_175 e5f_176 a1_207 a2_208], [zAr T 0 a1_207 m1f_178 r1f_177], [zAr T 0 a2_208 7 r2f_179], w2_210] _ _ := G.re rfl
            refine z_get C G clX3 7 rfl 3 (by decide) m_fl_RX11_306 rfl dX11_odds_79 ?_
            refine lv_iload hx hb dX11_odds_82 (lv_at hl 7 rfl) ?_
            refine z_Si (bc := []) (br := [wt, z0_, wg0_, wg1_, wwA_158, [zO10 xo t im mk rd po co tr wa wb_ fi cd], z1_, [zO3 fi e0f_171 e1f_172 e2f_173 e3f_174 e4f_175 e5f_176 a1_207 a2_208], [zAr T 0 a1_207 m1f_178 r1f_177], [zAr T 0 a2_208 7 r2f_179], w2_210]) (As := [.int r_226, .int e3f_174, .int w_]) (rest := []) C G (c_inLeastTerms l T r_226 e3f_174 w_) (kS_RX11_262 C.2.2.2.2 (Nat.le_of_ble_eq_true rfl) (Nat.le_of_ble_eq_true rfl)) [] [] rfl rfl rfl rfl hl.1 dX11_odds_84 (Nat.le_of_ble_eq_true rfl) (by show _ + 0 ≤ 6 * (zNA (i1.toInt = 0 ∧ 0 < (fk 0).toInt ∧ (0 ≤ i2.toInt ∧ i2.toInt < (fk 2).toInt ∧ i2.toInt < 2) ∧ (e0f.toInt = 0 ∨ ¬ e1f.toInt = i1.toInt ∨ ¬ e2f.toInt = i2.toInt)) mdA n4A (zPl cr0_ inn0_ k10_) - n4A) + 6 * (zNA (i1.toInt = 1 ∧ 1 < (fk 0).toInt ∧ (0 ≤ i2.toInt ∧ i2.toInt < (fk 2).toInt ∧ i2.toInt < 2) ∧ (e0f.toInt = 0 ∨ ¬ e1f.toInt = i1.toInt ∨ ¬ e2f.toInt = i2.toInt)) mdB n4B (zPl cr1_ inn1_ k11_) - n4B) + 2 * (zNF (i1.toInt = 1 ∧ 1 < (fk 0).toInt ∧ (0 ≤ i2.toInt ∧ i2.toInt < (fk 2).toInt ∧ i2.toInt < 2) ∧ (e0f.toInt = 0 ∨ ¬ e1f.toInt = i1.toInt ∨ ¬ e2f.toInt = i2.toInt)) (zNF (i1.toInt = 0 ∧ 0 < (fk 0).toInt ∧ (0 ≤ i2.toInt ∧ i2.toInt < (fk 2).toInt ∧ i2.toInt < 2) ∧ (e0f.toInt = 0 ∨ ¬ e1f.toInt = i1.toInt ∨ ¬ e2f.toInt = i2.toInt)) m1f (zMw mdA wyA cr0_ inn0_ k10_)) (zMw mdB wyB cr1_ inn1_ k11_) - m1f); omega) (fun r_227 b1 H locs hw G => ?_)
            obtain rfl := hw
            have G : zS T A s.heap s [wt, z0_, wg0_, wg1_, wwA_158, [zO10 xo t im mk rd po co tr wa wb_ fi cd], z1_, [zO3 fi e0f_171 e1f_172 e2f_173 e3f_174 e4f_175 e5f_176 a1_207 a2_208], [zAr T 0 a1_207 m1f_178 r1f_177], [zAr T 0 a2_208 7 r2f_179], w2_210] _ _ := G
            have hw_228 : bFit T fi e0f_171 e1f_172 e2f_173 e3f_174 e4f_175 e5f_176 r1f_177 m1f_178 r2f_179 [zO3 fi e0f_171 e1f_172 e2f_173 e3f_174 e4f_175 e5f_176 a1_207 a2_208, zAr T 0 a1_207 m1f_178 r1f_177, zAr T 0 a2_208 7 r2f_179] := ⟨a1_207, a2_208, rfl⟩
            have G : zS T A s.heap s [wt, z0_, wg0_, wg1_, wwA_158, [zO10 xo t im mk rd po co tr wa wb_ fi cd], z1_, [zO3 fi e0f_171 e1f_172 e2f_173 e3f_174 e4f_175 e5f_176 a1_207 a2_208, zAr T 0 a1_207 m1f_178 r1f_177, zAr T 0 a2_208 7 r2f_179], w2_210] _ _ := G.re rfl
            have G := G.sub (bs' := [[zO10 xo t im mk rd po co tr wa wb_ fi cd], wt, z0_, z1_, wg0_, wg1_, wwA_158, w2_210, [zO3 fi e0f_171 e1f_172 e2f_173 e3f_174 e4f_175 e5f_176 a1_207 a2_208, zAr T 0 a1_207 m1f_178 r1f_177, zAr T 0 a2_208 7 r2f_179]]) [5, 0, 1, 6, 2, 3, 4, 8, 7] rfl
            exact z_back hQz_ (z_iret C hr hlocks G (Nat.le_of_ble_eq_true rfl) (by omega) dX11_odds_87 ⟨laA_147, mdA_148, wyA_149, pc_A_150, f1A_151, f2A_152, f3A_153, f4A_154, f5A_155, f6A_156, n4A_157, wwA_158, l1, m2_211, wy2_212, pc2_213, g1_214, g2_215, f3B_165, g4_216, g5_217, g6_218, (zMk mdB_160 n4B_169 (zPl cr1_ inn1_ k11_)), w2_210, e0f_171, e1f_172, e2f_173, e3f_174, e4f_175, e5f_176, r1f_177, m1f_178, r2f_179, ([zO3 fi e0f_171 e1f_172 e2f_173 e3f_174 e4f_175 e5f_176 a1_207 a2_208, zAr T 0 a1_207 m1f_178 r1f_177, zAr T 0 a2_208 7 r2f_179]), rfl, h_181, h_182, h_183, h_184, h_185, h_186, h_187, h_220, (Or.inr rfl), hwy9, (hzk.trans h_191), (by rw [hzk]; exact h_192), (fun _ => h_222), (Or.inr h_223), hw_228, h_196, h_197, h_198, (fun q => (h_200 q).elim (fun w => Or.inl ⟨w.1, w.2⟩) (fun w => Or.inr ⟨w.1, h_222⟩))⟩)
          · have c_209n : e3f_174.toInt = (0 : Int) := (fa_eq _ _).mp c_209
            refine lv_iconst (v := (-1)) hx hb dX11_odds_52 (by decide) ?_
            have hw_229 : bFit T fi e0f_171 e1f_172 e2f_173 e3f_174 e4f_175 e5f_176 r1f_177 m1f_178 r2f_179 [zO3 fi e0f_171 e1f_172 e2f_173 e3f_174 e4f_175 e5f_176 a1_207 a2_208, zAr T 0 a1_207 m1f_178 r1f_177, zAr T 0 a2_208 7 r2f_179] := ⟨a1_207, a2_208, rfl⟩
            have G : zS T A s.heap s [[zO10 xo t im mk rd po co tr wa wb_ fi cd], wt, z0_, wg0_, wg1_, wwA_158, wwB_170, [zO3 fi e0f_171 e1f_172 e2f_173 e3f_174 e4f_175 e5f_176 a1_207 a2_208, zAr T 0 a1_207 m1f_178 r1f_177, zAr T 0 a2_208 7 r2f_179], z1_] _ _ := G.re rfl
            have G := G.sub (bs' := [[zO10 xo t im mk rd po co tr wa wb_ fi cd], wt, z0_, z1_, wg0_, wg1_, wwA_158, wwB_170, [zO3 fi e0f_171 e1f_172 e2f_173 e3f_174 e4f_175 e5f_176 a1_207 a2_208, zAr T 0 a1_207 m1f_178 r1f_177, zAr T 0 a2_208 7 r2f_179]]) [0, 1, 2, 8, 3, 4, 5, 6, 7] rfl
            exact z_back hQz_ (z_iret C hr hlocks G (Nat.le_of_ble_eq_true rfl) (by omega) dX11_odds_53 ⟨laA_147, mdA_148, wyA_149, pc_A_150, f1A_151, f2A_152, f3A_153, f4A_154, f5A_155, f6A_156, n4A_157, wwA_158, laB_159, mdB_160, wyB_161, pc_B_162, f1B_163, f2B_164, f3B_165, f4B_166, f5B_167, f6B_168, n4B_169, wwB_170, e0f_171, e1f_172, e2f_173, e3f_174, e4f_175, e5f_176, r1f_177, m1f_178, r2f_179, ([zO3 fi e0f_171 e1f_172 e2f_173 e3f_174 e4f_175 e5f_176 a1_207 a2_208, zAr T 0 a1_207 m1f_178 r1f_177, zAr T 0 a2_208 7 r2f_179]), rfl, h_181, h_182, h_183, h_184, h_185, h_186, h_187, h_188, h_189, h_190, h_191, h_192, h_193, h_194, hw_229, h_196, h_197, h_198, h_200⟩)
        · have c_206n : ¬ b_.toInt < (zWays cr1_ inn1_ k11_ a_).toInt := fun q => c_206 ((fa_lt _ _).mpr q)
          refine lv_iconst (v := (-1)) hx hb dX11_odds_40 (by decide) ?_
          have G := G.sub (bs' := [[zO10 xo t im mk rd po co tr wa wb_ fi cd], wt, z0_, z1_, wg0_, wg1_, wwA_158, wwB_170, wff_180]) [0, 1, 2, 8, 3, 4, 5, 6, 7] rfl
          exact z_back hQz_ (z_iret C hr hlocks G (Nat.le_of_ble_eq_true rfl) (by omega) dX11_odds_41 ⟨laA_147, mdA_148, wyA_149, pc_A_150, f1A_151, f2A_152, f3A_153, f4A_154, f5A_155, f6A_156, n4A_157, wwA_158, laB_159, mdB_160, wyB_161, pc_B_162, f1B_163, f2B_164, f3B_165, f4B_166, f5B_167, f6B_168, n4B_169, wwB_170, e0f_171, e1f_172, e2f_173, e3f_174, e4f_175, e5f_176, r1f_177, m1f_178, r2f_179, wff_180, rfl, h_181, h_182, h_183, h_184, h_185, h_186, h_187, h_188, h_189, h_190, h_191, h_192, h_193, h_194, h_195, h_196, h_197, h_198, h_200⟩)
set_option maxHeartbeats 4000000 in
set_option maxRecDepth 100000 in
/-- c_t_lot -/
theorem c_t_lot (l : Launch) (T : zTy) (xo : Nat) (t : Nat) (im : Nat) (mk : Nat) (rd : Nat) (po : Nat) (co : Nat) (tr : Nat) (wa : Nat) (wb_ : Nat) (fi : Nat) (cd : Nat) (l0 : Nat) (l1 : Nat) (d0 : Nat) (d1 : Nat) (g0 : Nat) (g1 : Nat) (ln : Int32) (fl : Int32) (pl : Int32) (ft : Nat → Int32) (fk : Nat → Int32) (wt : va_W) (cr0_ : Int32) (inn0_ : Int32) (k10_ : Nat → Int32) (k20_ : Nat → Int32) (k30_ : Nat → Int32) (k40_ : Nat → Int32) (z0_ : va_W) (cr1_ : Int32) (inn1_ : Int32) (k11_ : Nat → Int32) (k21_ : Nat → Int32) (k31_ : Nat → Int32) (k41_ : Nat → Int32) (z1_ : va_W) (laA : Nat) (mdA : Int32) (wyA : Int32) (pc_A : Int32) (f1A : Nat → Int32) (f2A : Nat → Int32) (f3A : Nat → Int32) (f4A : Nat → Int32) (f5A : Nat → Int32) (f6A : Nat → Int32) (n4A : Nat) (wwA : va_W) (laB : Nat) (mdB : Int32) (wyB : Int32) (pc_B : Int32) (f1B : Nat → Int32) (f2B : Nat → Int32) (f3B : Nat → Int32) (f4B : Nat → Int32) (f5B : Nat → Int32) (f6B : Nat → Int32) (n4B : Nat) (wwB : va_W) (i1 : Int32) (a_ : Int32) (b_ : Int32) (w_ : Int32) (ht : bTold T t l0 l1 d0 d1 g0 g1 ln fl pl ft fk wt) (hK : zKT fk) (hz0_ : bLand T l0 cr0_ inn0_ k10_ k20_ k30_ k40_ z0_) (hI0_ : zLI cr0_ k10_ k30_) (hz1_ : bLand T l1 cr1_ inn1_ k11_ k21_ k31_ k41_ z1_) (hI1_ : zLI cr1_ k11_ k31_) (hwwA : bWays T wa laA mdA wyA pc_A f1A f2A f3A f4A f5A f6A n4A wwA) (hpwA : zPw n4A) (hmdA : mdA = 0 ∨ laA = l0) (hwmA : 0 ≤ wyA.toInt ∧ wyA.toInt ≤ 16384) (hTbA : mdA = 0 ∨ zTab cr0_ inn0_ k10_ k20_ wyA pc_A f1A f2A f5A n4A) (hLq0 : zLq cr0_ k10_ k20_) (hwwB : bWays T wb_ laB mdB wyB pc_B f1B f2B f3B f4B f5B f6B n4B wwB) (hpwB : zPw n4B) (hmdB : mdB = 0 ∨ laB = l1) (hwmB : 0 ≤ wyB.toInt ∧ wyB.toInt ≤ 16384) (hTbB : mdB = 0 ∨ zTab cr1_ inn1_ k11_ k21_ wyB pc_B f1B f2B f5B n4B) (hLq1 : zLq cr1_ k11_ k21_) : zMi l T yX11_lot cX11_lot 9 (some .int) 7 3 (6 * (zNA (i1.toInt = 0 ∧ 0 < (fk 0).toInt ∧ 0 ≤ a_.toInt ∧ a_.toInt < cr0_.toInt ∧ a_.toInt < 7 ∧ 0 ≤ b_.toInt ∧ b_.toInt < cr0_.toInt ∧ b_.toInt < 7 ∧ ¬ zBit inn0_ b_ = 0) mdA n4A (zPl cr0_ inn0_ k10_) - n4A) + 6 * (zNA (i1.toInt = 1 ∧ 1 < (fk 0).toInt ∧ 0 ≤ a_.toInt ∧ a_.toInt < cr1_.toInt ∧ a_.toInt < 7 ∧ 0 ≤ b_.toInt ∧ b_.toInt < cr1_.toInt ∧ b_.toInt < 7 ∧ ¬ zBit inn1_ b_ = 0) mdB n4B (zPl cr1_ inn1_ k11_) - n4B)) [.ref xo, .int i1, .int a_, .int b_, .int w_] [[zO10 xo t im mk rd po co tr wa wb_ fi cd], wt, z0_, z1_, wwA, wwB] (fun (r : Int32) bs => ∃ (laA_2 : Nat) (mdA_2 : Int32) (wyA_2 : Int32) (pc_A_2 : Int32) (f1A_2 : Nat → Int32) (f2A_2 : Nat → Int32) (f3A_2 : Nat → Int32) (f4A_2 : Nat → Int32) (f5A_2 : Nat → Int32) (f6A_2 : Nat → Int32) (n4A_2 : Nat) (wwA_2 : va_W) (laB_2 : Nat) (mdB_2 : Int32) (wyB_2 : Int32) (pc_B_2 : Int32) (f1B_2 : Nat → Int32) (f2B_2 : Nat → Int32) (f3B_2 : Nat → Int32) (f4B_2 : Nat → Int32) (f5B_2 : Nat → Int32) (f6B_2 : Nat → Int32) (n4B_2 : Nat) (wwB_2 : va_W), bs = [[zO10 xo t im mk rd po co tr wa wb_ fi cd], wt, z0_, z1_, wwA_2, wwB_2] ∧ bWays T wa laA_2 mdA_2 wyA_2 pc_A_2 f1A_2 f2A_2 f3A_2 f4A_2 f5A_2 f6A_2 n4A_2 wwA_2 ∧ (mdA_2 = 0 ∨ laA_2 = l0) ∧ (0 ≤ wyA_2.toInt ∧ wyA_2.toInt ≤ 16384) ∧ n4A_2 = zNA (i1.toInt = 0 ∧ 0 < (fk 0).toInt ∧ 0 ≤ a_.toInt ∧ a_.toInt < cr0_.toInt ∧ a_.toInt < 7 ∧ 0 ≤ b_.toInt ∧ b_.toInt < cr0_.toInt ∧ b_.toInt < 7 ∧ ¬ zBit inn0_ b_ = 0) mdA n4A (zPl cr0_ inn0_ k10_) ∧ zPw n4A_2 ∧ (¬ mdA = 0 → ¬ mdA_2 = 0) ∧ (mdA_2 = 0 ∨ zTab cr0_ inn0_ k10_ k20_ wyA_2 pc_A_2 f1A_2 f2A_2 f5A_2 n4A_2) ∧ bWays T wb_ laB_2 mdB_2 wyB_2 pc_B_2 f1B_2 f2B_2 f3B_2 f4B_2 f5B_2 f6B_2 n4B_2 wwB_2 ∧ (mdB_2 = 0 ∨ laB_2 = l1) ∧ (0 ≤ wyB_2.toInt ∧ wyB_2.toInt ≤ 16384) ∧ n4B_2 = zNA (i1.toInt = 1 ∧ 1 < (fk 0).toInt ∧ 0 ≤ a_.toInt ∧ a_.toInt < cr1_.toInt ∧ a_.toInt < 7 ∧ 0 ≤ b_.toInt ∧ b_.toInt < cr1_.toInt ∧ b_.toInt < 7 ∧ ¬ zBit inn1_ b_ = 0) mdB n4B (zPl cr1_ inn1_ k11_) ∧ zPw n4B_2 ∧ (¬ mdB = 0 → ¬ mdB_2 = 0) ∧ (mdB_2 = 0 ∨ zTab cr1_ inn1_ k11_ k21_ wyB_2 pc_B_2 f1B_2 f2B_2 f5B_2 n4B_2)) := by
  refine zMi_of (own := RX11) (by decide) rfl (Nat.le_of_ble_eq_true rfl) ?_
  intro p e s m args below meth c A ls C hr hlocks hnm hAe G hl
  refine zHide (fun Qz_ hQz_ => ?_)
  have hx := C.1
  have hb := C.2.1
  replace hmdA : zHd (mdA = 0 ∨ laA = l0) := hmdA
  replace hTbA : zHd (mdA = 0 ∨ zTab cr0_ inn0_ k10_ k20_ wyA pc_A f1A f2A f5A n4A) := hTbA
  replace hmdB : zHd (mdB = 0 ∨ laB = l1) := hmdB
  replace hTbB : zHd (mdB = 0 ∨ zTab cr1_ inn1_ k11_ k21_ wyB pc_B f1B f2B f5B n4B) := hTbB
  have hl : lv_has ls 9 [(0, .ref xo), (1, .int i1), (2, .int a_), (3, .int b_), (4, .int w_)] := hl
  refine lv_aload_n hx hb dX11_lot_0 rfl (lv_at hl 0 rfl) ?_
  refine z_get C G clX11 0 rfl 0 (by decide) m_fl_RX11_10 rfl dX11_lot_1 ?_
  refine lv_iload_n hx hb dX11_lot_4 rfl (lv_at hl 1 rfl) ?_
  refine z_Vq (bc := [wt]) (br := [[zO10 xo t im mk rd po co tr wa wb_ fi cd], z0_, z1_, wwA, wwB]) (As := [.int i1]) (rest := []) C G (c_landAt l T t l0 l1 d0 d1 g0 g1 ln fl pl ft fk wt i1 ht) (kV_RX11_121 C.2.2.2.2 (Nat.le_of_ble_eq_true rfl) (Nat.le_of_ble_eq_true rfl)) [1] [1] rfl rfl (ci := 8) (qc := (RX9, TX9, 8)) rfl rfl (List.mem_flatten.mpr ⟨_, List.mem_of_getElem? (i := 0) rfl, (bTold_mem ht).choose_spec⟩) rfl rfl hl.1 dX11_lot_5 (Nat.le_of_ble_eq_true rfl) (by show _ + 0 ≤ 6 * (zNA (i1.toInt = 0 ∧ 0 < (fk 0).toInt ∧ 0 ≤ a_.toInt ∧ a_.toInt < cr0_.toInt ∧ a_.toInt < 7 ∧ 0 ≤ b_.toInt ∧ b_.toInt < cr0_.toInt ∧ b_.toInt < 7 ∧ ¬ zBit inn0_ b_ = 0) mdA n4A (zPl cr0_ inn0_ k10_) - n4A) + 6 * (zNA (i1.toInt = 1 ∧ 1 < (fk 0).toInt ∧ 0 ≤ a_.toInt ∧ a_.toInt < cr1_.toInt ∧ a_.toInt < 7 ∧ 0 ≤ b_.toInt ∧ b_.toInt < cr1_.toInt ∧ b_.toInt < 7 ∧ ¬ zBit inn1_ b_ = 0) mdB n4B (zPl cr1_ inn1_ k11_) - n4B); omega) (fun r_2 b1 H locs hw G => ?_)
  refine zAn2 hw ?_
  intro hbs9 hc_1
  clear hw
  subst hbs9
  have G : zS T A s.heap s [[zO10 xo t im mk rd po co tr wa wb_ fi cd], z0_, z1_, wwA, wwB, wt] _ _ := G
  rcases hc_1 with ⟨rfl, h_3⟩ | ⟨rfl, h_4, h_5⟩ | ⟨rfl, h_6, h_7⟩
  · have h_3 : (i1.toInt < 0 ∨ (fk 0).toInt ≤ i1.toInt ∨ 2 ≤ i1.toInt) := h_3
    refine lv_astoreN (lv' := [(5, .null), (0, .ref xo), (1, .int i1), (2, .int a_), (3, .int b_), (4, .int w_)]) hx hb dX11_lot_8 hl (by decide) (zLvf_h rfl) (fun ls hl => ?_)
    refine lv_aloadN hx hb dX11_lot_10 (lv_at hl 0 rfl) ?_
    refine lv_ifnullN (tgt := 33) hx hb dX11_lot_12 (by decide) ?_
    refine lv_iconst (v := (-1)) hx hb dX11_lot_33 (by decide) ?_
    have G := G.sub (bs' := [[zO10 xo t im mk rd po co tr wa wb_ fi cd], wt, z0_, z1_, wwA, wwB]) [0, 5, 1, 2, 3, 4] rfl
    exact z_back hQz_ (z_iret C hr hlocks G (Nat.le_of_ble_eq_true rfl) (by omega) dX11_lot_34 ⟨laA, mdA, wyA, pc_A, f1A, f2A, f3A, f4A, f5A, f6A, n4A, wwA, laB, mdB, wyB, pc_B, f1B, f2B, f3B, f4B, f5B, f6B, n4B, wwB, rfl, hwwA, hmdA, hwmA, (by first | exact hNAo.symm | exact (zNA_n (by first | omega | grind)).symm), hpwA, (fun q => q), hTbA, hwwB, hmdB, hwmB, (by first | exact hNAo.symm | exact (zNA_n (by first | omega | grind)).symm), hpwB, (fun q => q), hTbB⟩)
  · have h_4 : i1.toInt = 0 := h_4
    have h_5 : 0 < (fk 0).toInt := h_5
    refine lv_astore (lv' := [(5, .ref l0), (0, .ref xo), (1, .int i1), (2, .int a_), (3, .int b_), (4, .int w_)]) hx hb dX11_lot_8 hl (by decide) (zLvf_h rfl) (fun ls hl => ?_)
    refine lv_aload hx hb dX11_lot_10 (lv_at hl 0 rfl) ?_
    refine lv_ifnull hx hb dX11_lot_12 ?_
    refine lv_aload hx hb dX11_lot_15 (lv_at hl 0 rfl) ?_
    refine lv_iload_n hx hb dX11_lot_17 rfl (lv_at hl 3 rfl) ?_
    refine z_Vi (bc := [z0_]) (br := [[zO10 xo t im mk rd po co tr wa wb_ fi cd], z1_, wwA, wwB, wt]) (As := [.int a_]) (rest := []) C G (c_has l T l0 cr0_ inn0_ k10_ k20_ k30_ k40_ z0_ a_ hz0_) (kV_RX11_160 C.2.2.2.2 (Nat.le_of_ble_eq_true rfl) (Nat.le_of_ble_eq_true rfl)) [1] [1] rfl rfl (ci := 4) (qc := (RX4, TX4, 6)) rfl rfl (List.mem_flatten.mpr ⟨_, List.mem_of_getElem? (i := 0) rfl, (bLand_mem hz0_).choose_spec⟩) rfl rfl hl.1 dX11_lot_18 (Nat.le_of_ble_eq_true rfl) (by show _ + 0 ≤ 6 * (zNA (i1.toInt = 0 ∧ 0 < (fk 0).toInt ∧ 0 ≤ a_.toInt ∧ a_.toInt < cr0_.toInt ∧ a_.toInt < 7 ∧ 0 ≤ b_.toInt ∧ b_.toInt < cr0_.toInt ∧ b_.toInt < 7 ∧ ¬ zBit inn0_ b_ = 0) mdA n4A (zPl cr0_ inn0_ k10_) - n4A) + 6 * (zNA (i1.toInt = 1 ∧ 1 < (fk 0).toInt ∧ 0 ≤ a_.toInt ∧ a_.toInt < cr1_.toInt ∧ a_.toInt < 7 ∧ 0 ≤ b_.toInt ∧ b_.toInt < cr1_.toInt ∧ b_.toInt < 7 ∧ ¬ zBit inn1_ b_ = 0) mdB n4B (zPl cr1_ inn1_ k11_) - n4B); omega) (fun r_9 b1 H locs hw G => ?_)
    refine zAn2 hw ?_
    intro hbs9 hc_8
    clear hw
    subst hbs9
    have G : zS T A s.heap s [[zO10 xo t im mk rd po co tr wa wb_ fi cd], z1_, wwA, wwB, wt, z0_] _ _ := G
    rcases hc_8 with ⟨rfl, h_10, h_11, h_12⟩ | ⟨rfl, h_13⟩
    · have h_10 : 0 ≤ a_.toInt := h_10
      have h_11 : a_.toInt < cr0_.toInt := h_11
      have h_12 : a_.toInt < 7 := h_12
      refine lv_if_eq (tgt := 33) hx hb dX11_lot_21 (by decide) (fun q => absurd q (by decide)) (fun _ => ?_)
      refine lv_aload hx hb dX11_lot_24 (lv_at hl 0 rfl) ?_
      refine lv_iload_n hx hb dX11_lot_26 rfl (lv_at hl 4 rfl) ?_
      refine z_Vi (bc := [z0_]) (br := [[zO10 xo t im mk rd po co tr wa wb_ fi cd], z1_, wwA, wwB, wt]) (As := [.int b_]) (rest := []) C G (c_isInn l T l0 cr0_ inn0_ k10_ k20_ k30_ k40_ z0_ b_ hz0_) (kV_RX11_174 C.2.2.2.2 (Nat.le_of_ble_eq_true rfl) (Nat.le_of_ble_eq_true rfl)) [5] [5] rfl rfl (ci := 4) (qc := (RX4, TX4, 6)) rfl rfl (List.mem_flatten.mpr ⟨_, List.mem_of_getElem? (i := 0) rfl, (bLand_mem hz0_).choose_spec⟩) rfl rfl hl.1 dX11_lot_27 (Nat.le_of_ble_eq_true rfl) (by show _ + 0 ≤ 6 * (zNA (i1.toInt = 0 ∧ 0 < (fk 0).toInt ∧ 0 ≤ a_.toInt ∧ a_.toInt < cr0_.toInt ∧ a_.toInt < 7 ∧ 0 ≤ b_.toInt ∧ b_.toInt < cr0_.toInt ∧ b_.toInt < 7 ∧ ¬ zBit inn0_ b_ = 0) mdA n4A (zPl cr0_ inn0_ k10_) - n4A) + 6 * (zNA (i1.toInt = 1 ∧ 1 < (fk 0).toInt ∧ 0 ≤ a_.toInt ∧ a_.toInt < cr1_.toInt ∧ a_.toInt < 7 ∧ 0 ≤ b_.toInt ∧ b_.toInt < cr1_.toInt ∧ b_.toInt < 7 ∧ ¬ zBit inn1_ b_ = 0) mdB n4B (zPl cr1_ inn1_ k11_) - n4B); omega) (fun r_15 b1 H locs hw G => ?_)
      refine zAn2 hw ?_
      intro hbs9 hc_14
      clear hw
      subst hbs9
      have G : zS T A s.heap s [[zO10 xo t im mk rd po co tr wa wb_ fi cd], z1_, wwA, wwB, wt, z0_] _ _ := G
      rcases hc_14 with ⟨rfl, h_16, h_17, h_18, h_19⟩ | ⟨rfl, h_20⟩
      · have h_16 : 0 ≤ b_.toInt := h_16
        have h_17 : b_.toInt < cr0_.toInt := h_17
        have h_18 : b_.toInt < 7 := h_18
        have h_19 : ¬ zBit inn0_ b_ = 0 := h_19
        refine lv_if_ne (tgt := 35) hx hb dX11_lot_30 (by decide) (fun _ => ?_) (fun q => absurd q (by decide))
        refine lv_aload_n hx hb dX11_lot_35 rfl (lv_at hl 1 rfl) ?_
        refine lv_iload_n hx hb dX11_lot_36 rfl (lv_at hl 2 rfl) ?_
        refine lv_aload hx hb dX11_lot_37 (lv_at hl 0 rfl) ?_
        have hNAm : zNA (i1.toInt = 0 ∧ 0 < (fk 0).toInt ∧ 0 ≤ a_.toInt ∧ a_.toInt < cr0_.toInt ∧ a_.toInt < 7 ∧ 0 ≤ b_.toInt ∧ b_.toInt < cr0_.toInt ∧ b_.toInt < 7 ∧ ¬ zBit inn0_ b_ = 0) mdA n4A (zPl cr0_ inn0_ k10_) = zMk mdA n4A (zPl cr0_ inn0_ k10_) := zNA_y (by first | omega | (repeat' (first | omega | assumption | constructor)))
        have hNAo : zNA (i1.toInt = 1 ∧ 1 < (fk 0).toInt ∧ 0 ≤ a_.toInt ∧ a_.toInt < cr1_.toInt ∧ a_.toInt < 7 ∧ 0 ≤ b_.toInt ∧ b_.toInt < cr1_.toInt ∧ b_.toInt < 7 ∧ ¬ zBit inn1_ b_ = 0) mdB n4B (zPl cr1_ inn1_ k11_) = n4B := zNA_n (by omega)
        have hn9 : zMk mdA n4A (zPl cr0_ inn0_ k10_) ≤ 131072 := zPw_le (zMk_pw hpwA)
        refine z_Vq (bc := [[zO10 xo t im mk rd po co tr wa wb_ fi cd], wwA, z0_]) (br := [z1_, wwB, wt]) (As := [.int i1, .ref l0]) (rest := []) C G (c_f_waysInA l T xo t im mk rd po co tr wa wb_ fi cd i1 laA mdA wyA pc_A f1A f2A f3A f4A f5A f6A n4A wwA l0 cr0_ inn0_ k10_ k20_ k30_ k40_ z0_ hwwA hz0_ hI0_ hpwA hmdA (kaOk hI0_ hLq0).1 hTbA (by omega)) (kV_RX11_235 C.2.2.2.2 (Nat.le_of_ble_eq_true rfl) (Nat.le_of_ble_eq_true rfl)) [0, 2, 5] [0, 1, 2] rfl rfl (ci := 10) (qc := (RX11, TX11, 11)) rfl rfl (List.mem_flatten.mpr ⟨_, List.mem_of_getElem? (i := 0) rfl, List.mem_cons_self⟩) rfl rfl hl.1 dX11_lot_39 (Nat.le_of_ble_eq_true rfl) (by show _ + (6 * (zMk mdA n4A (zPl cr0_ inn0_ k10_) - n4A)) ≤ 6 * (zNA (i1.toInt = 0 ∧ 0 < (fk 0).toInt ∧ 0 ≤ a_.toInt ∧ a_.toInt < cr0_.toInt ∧ a_.toInt < 7 ∧ 0 ≤ b_.toInt ∧ b_.toInt < cr0_.toInt ∧ b_.toInt < 7 ∧ ¬ zBit inn0_ b_ = 0) mdA n4A (zPl cr0_ inn0_ k10_) - n4A) + 6 * (zNA (i1.toInt = 1 ∧ 1 < (fk 0).toInt ∧ 0 ≤ a_.toInt ∧ a_.toInt < cr1_.toInt ∧ a_.toInt < 7 ∧ 0 ≤ b_.toInt ∧ b_.toInt < cr1_.toInt ∧ b_.toInt < 7 ∧ ¬ zBit inn1_ b_ = 0) mdB n4B (zPl cr1_ inn1_ k11_) - n4B); omega) (fun r_35 b1 H locs hw G => ?_)
        refine zEx9 hw ?_
        intro w2_21 m2_22 wy2_23 pc2_24 g1_25 g2_26 g4_27 g5_28 g6_29
        refine zCu6 ?_
        intro hbs9 h_30 h_31 h_32 h_33 h_34
        clear hw
        subst hbs9
        have G : zS T A s.heap s [z1_, wwB, wt, [zO10 xo t im mk rd po co tr wa wb_ fi cd], w2_21, z0_] _ _ := G
        subst h_30
        have hwy9 : 0 ≤ wy2_23.toInt ∧ wy2_23.toInt ≤ 16384 := by have q9 := zWy_in (inn := inn0_) hI0_; rw [h_32]; exact ⟨by omega, q9.2⟩
        have hp79 : aPr (aW cr0_ inn0_ k10_) 7 ≤ 16384 := aPr_7 hI0_
        have hwN9 : wy2_23 = nI (aPr (aW cr0_ inn0_ k10_) 7) := h_32.trans (zWy_z hI0_)
        have hwT9 : wy2_23.toInt = ((aPr (aW cr0_ inn0_ k10_) 7 : Nat) : Int) := by rw [hwN9, nI_toInt (by omega)]
        have hOk9 := (kaOk (inn := inn0_) hI0_ hLq0).1
        have hc79 := hI0_.1
        refine lv_astore (lv' := [(6, .ref wa), (5, .ref l0), (0, .ref xo), (1, .int i1), (2, .int a_), (3, .int b_), (4, .int w_)]) hx hb dX11_lot_42 hl (by decide) (zLvf_h rfl) (fun ls hl => ?_)
        refine lv_iconst (v := 0) hx hb dX11_lot_44 (by decide) ?_
        refine lv_istore (lv' := [(7, .int 0), (6, .ref wa), (5, .ref l0), (0, .ref xo), (1, .int i1), (2, .int a_), (3, .int b_), (4, .int w_)]) hx hb dX11_lot_45 hl (by decide) (zLvf_h rfl) (fun ls hl => ?_)
        refine lv_iconst (v := 0) hx hb dX11_lot_47 (by decide) ?_
        refine lv_istore (lv' := [(8, .int 0), (7, .int 0), (6, .ref wa), (5, .ref l0), (0, .ref xo), (1, .int i1), (2, .int a_), (3, .int b_), (4, .int w_)]) hx hb dX11_lot_48 hl (by decide) (zLvf_h rfl) (fun ls hl => ?_)
        refine zEx6 h_31 ?_
        intro a1_36 a2_37 a3_38 a4_39 a5_40 a6_41 hbs9
        clear h_31
        subst hbs9
        have G : zS T A s.heap s [z1_, wwB, wt, [zO10 xo t im mk rd po co tr wa wb_ fi cd], [zO0 wa m2_22 wy2_23 l0 pc2_24 a1_36 a2_37 a3_38 a4_39 a5_40 a6_41], [zAr T 0 a1_36 7 g1_25], [zAr T 0 a2_37 7 g2_26], [zAr T 0 a3_38 7 f3A], [zAr T 0 a4_39 (zMk mdA n4A (zPl cr0_ inn0_ k10_)) g4_27], [zAr T 0 a5_40 (zMk mdA n4A (zPl cr0_ inn0_ k10_)) g5_28], [zAr T 0 a6_41 (zMk mdA n4A (zPl cr0_ inn0_ k10_)) g6_29], z0_] _ _ := G.re rfl
        have hw_42 : bWays T wa l0 m2_22 wy2_23 pc2_24 g1_25 g2_26 f3A g4_27 g5_28 g6_29 (zMk mdA n4A (zPl cr0_ inn0_ k10_)) [zO0 wa m2_22 wy2_23 l0 pc2_24 a1_36 a2_37 a3_38 a4_39 a5_40 a6_41, zAr T 0 a1_36 7 g1_25, zAr T 0 a2_37 7 g2_26, zAr T 0 a3_38 7 f3A, zAr T 0 a4_39 (zMk mdA n4A (zPl cr0_ inn0_ k10_)) g4_27, zAr T 0 a5_40 (zMk mdA n4A (zPl cr0_ inn0_ k10_)) g5_28, zAr T 0 a6_41 (zMk mdA n4A (zPl cr0_ inn0_ k10_)) g6_29] := ⟨a1_36, a2_37, a3_38, a4_39, a5_40, a6_41, rfl⟩
        have G : zS T A s.heap s [z1_, wwB, wt, [zO10 xo t im mk rd po co tr wa wb_ fi cd], [zO0 wa m2_22 wy2_23 l0 pc2_24 a1_36 a2_37 a3_38 a4_39 a5_40 a6_41, zAr T 0 a1_36 7 g1_25, zAr T 0 a2_37 7 g2_26, zAr T 0 a3_38 7 f3A, zAr T 0 a4_39 (zMk mdA n4A (zPl cr0_ inn0_ k10_)) g4_27, zAr T 0 a5_40 (zMk mdA n4A (zPl cr0_ inn0_ k10_)) g5_28, zAr T 0 a6_41 (zMk mdA n4A (zPl cr0_ inn0_ k10_)) g6_29], z0_] _ _ := G.re rfl
        refine z_lp2 (T := T) 50 (fun (i : Nat) (u7 : Int32) => [z1_, wwB, wt, [zO10 xo t im mk rd po co tr wa wb_ fi cd], [zO0 wa m2_22 wy2_23 l0 pc2_24 a1_36 a2_37 a3_38 a4_39 a5_40 a6_41, zAr T 0 a1_36 7 g1_25, zAr T 0 a2_37 7 g2_26, zAr T 0 a3_38 7 f3A, zAr T 0 a4_39 (zMk mdA n4A (zPl cr0_ inn0_ k10_)) g4_27, zAr T 0 a5_40 (zMk mdA n4A (zPl cr0_ inn0_ k10_)) g5_28, zAr T 0 a6_41 (zMk mdA n4A (zPl cr0_ inn0_ k10_)) g6_29], z0_]) (fun (i : Nat) (u7 : Int32) => [(8, .int (nI i)), (7, .int u7), (6, .ref wa), (5, .ref l0), (0, .ref xo), (1, .int i1), (2, .int a_), (3, .int b_), (4, .int w_)]) (fun (i : Nat) (u7 : Int32) => i ≤ aPr (aW cr0_ inn0_ k10_) 7) (fun (i : Nat) (u7 : Int32) => aPr (aW cr0_ inn0_ k10_) 7 - i) ?_ 0 0 (show 0 ≤ aPr (aW cr0_ inn0_ k10_) 7 from (Nat.zero_le _)) G (lv_sub hl [0, 1, 2, 3, 4, 5, 6, 7, 8] rfl)
        intro i u7 hi ih_50 H locs ls G hl
        replace hi : i ≤ aPr (aW cr0_ inn0_ k10_) 7 := hi
        replace G : zS T A s.heap s [z1_, wwB, wt, [zO10 xo t im mk rd po co tr wa wb_ fi cd], [zO0 wa m2_22 wy2_23 l0 pc2_24 a1_36 a2_37 a3_38 a4_39 a5_40 a6_41, zAr T 0 a1_36 7 g1_25, zAr T 0 a2_37 7 g2_26, zAr T 0 a3_38 7 f3A, zAr T 0 a4_39 (zMk mdA n4A (zPl cr0_ inn0_ k10_)) g4_27, zAr T 0 a5_40 (zMk mdA n4A (zPl cr0_ inn0_ k10_)) g5_28, zAr T 0 a6_41 (zMk mdA n4A (zPl cr0_ inn0_ k10_)) g6_29], z0_] _ _ := G
        replace hl : lv_has ls 9 [(8, .int (nI i)), (7, .int u7), (6, .ref wa), (5, .ref l0), (0, .ref xo), (1, .int i1), (2, .int a_), (3, .int b_), (4, .int w_)] := hl
        refine lv_iload hx hb dX11_lot_50 (lv_at hl 0 rfl) ?_
        refine lv_aload hx hb dX11_lot_52 (lv_at hl 2 rfl) ?_
        have G : zS T A s.heap s [z1_, wwB, wt, [zO10 xo t im mk rd po co tr wa wb_ fi cd], [zO0 wa m2_22 wy2_23 l0 pc2_24 a1_36 a2_37 a3_38 a4_39 a5_40 a6_41], [zAr T 0 a1_36 7 g1_25], [zAr T 0 a2_37 7 g2_26], [zAr T 0 a3_38 7 f3A], [zAr T 0 a4_39 (zMk mdA n4A (zPl cr0_ inn0_ k10_)) g4_27], [zAr T 0 a5_40 (zMk mdA n4A (zPl cr0_ inn0_ k10_)) g5_28], [zAr T 0 a6_41 (zMk mdA n4A (zPl cr0_ inn0_ k10_)) g6_29], z0_] _ _ := G.re rfl
        refine z_get C G clX0 4 rfl 1 (by decide) m_fl_RX11_257 rfl dX11_lot_54 ?_
        refine lv_icmp_ge (tgt := 81) hx hb dX11_lot_57 (by decide) (fun c_43 => ?_) (fun c_43 => ?_)
        · have c_43n : wy2_23.toInt ≤ (i : Int) := by have q := (fa_le _ _).mp c_43; rw [nI_toInt (n := i) (by omega)] at q; exact q
          refine lv_iload hx hb dX11_lot_81 (lv_at hl 1 rfl) ?_
          refine lv_aload hx hb dX11_lot_83 (lv_at hl 2 rfl) ?_
          refine z_get C G clX0 4 rfl 1 (by decide) m_fl_RX11_257 rfl dX11_lot_85 ?_
          refine lv_iload hx hb dX11_lot_88 (lv_at hl 8 rfl) ?_
          refine z_Si (bc := []) (br := [z1_, wwB, wt, [zO10 xo t im mk rd po co tr wa wb_ fi cd], [zO0 wa m2_22 wy2_23 l0 pc2_24 a1_36 a2_37 a3_38 a4_39 a5_40 a6_41], [zAr T 0 a1_36 7 g1_25], [zAr T 0 a2_37 7 g2_26], [zAr T 0 a3_38 7 f3A], [zAr T 0 a4_39 (zMk mdA n4A (zPl cr0_ inn0_ k10_)) g4_27], [zAr T 0 a5_40 (zMk mdA n4A (zPl cr0_ inn0_ k10_)) g5_28], [zAr T 0 a6_41 (zMk mdA n4A (zPl cr0_ inn0_ k10_)) g6_29], z0_]) (As := [.int u7, .int wy2_23, .int w_]) (rest := []) C G (c_inLeastTerms l T u7 wy2_23 w_) (kS_RX11_262 C.2.2.2.2 (Nat.le_of_ble_eq_true rfl) (Nat.le_of_ble_eq_true rfl)) [] [] rfl rfl rfl rfl hl.1 dX11_lot_90 (Nat.le_of_ble_eq_true rfl) (by show _ + 0 ≤ 6 * (zNA (i1.toInt = 0 ∧ 0 < (fk 0).toInt ∧ 0 ≤ a_.toInt ∧ a_.toInt < cr0_.toInt ∧ a_.toInt < 7 ∧ 0 ≤ b_.toInt ∧ b_.toInt < cr0_.toInt ∧ b_.toInt < 7 ∧ ¬ zBit inn0_ b_ = 0) mdA n4A (zPl cr0_ inn0_ k10_) - n4A) + 6 * (zNA (i1.toInt = 1 ∧ 1 < (fk 0).toInt ∧ 0 ≤ a_.toInt ∧ a_.toInt < cr1_.toInt ∧ a_.toInt < 7 ∧ 0 ≤ b_.toInt ∧ b_.toInt < cr1_.toInt ∧ b_.toInt < 7 ∧ ¬ zBit inn1_ b_ = 0) mdB n4B (zPl cr1_ inn1_ k11_) - n4B); omega) (fun r_44 b1 H locs hw G => ?_)
          obtain rfl := hw
          have G : zS T A s.heap s [z1_, wwB, wt, [zO10 xo t im mk rd po co tr wa wb_ fi cd], [zO0 wa m2_22 wy2_23 l0 pc2_24 a1_36 a2_37 a3_38 a4_39 a5_40 a6_41], [zAr T 0 a1_36 7 g1_25], [zAr T 0 a2_37 7 g2_26], [zAr T 0 a3_38 7 f3A], [zAr T 0 a4_39 (zMk mdA n4A (zPl cr0_ inn0_ k10_)) g4_27], [zAr T 0 a5_40 (zMk mdA n4A (zPl cr0_ inn0_ k10_)) g5_28], [zAr T 0 a6_41 (zMk mdA n4A (zPl cr0_ inn0_ k10_)) g6_29], z0_] _ _ := G
          have hw_45 : bWays T wa l0 m2_22 wy2_23 pc2_24 g1_25 g2_26 f3A g4_27 g5_28 g6_29 (zMk mdA n4A (zPl cr0_ inn0_ k10_)) [zO0 wa m2_22 wy2_23 l0 pc2_24 a1_36 a2_37 a3_38 a4_39 a5_40 a6_41, zAr T 0 a1_36 7 g1_25, zAr T 0 a2_37 7 g2_26, zAr T 0 a3_38 7 f3A, zAr T 0 a4_39 (zMk mdA n4A (zPl cr0_ inn0_ k10_)) g4_27, zAr T 0 a5_40 (zMk mdA n4A (zPl cr0_ inn0_ k10_)) g5_28, zAr T 0 a6_41 (zMk mdA n4A (zPl cr0_ inn0_ k10_)) g6_29] := ⟨a1_36, a2_37, a3_38, a4_39, a5_40, a6_41, rfl⟩
          have G : zS T A s.heap s [z1_, wwB, wt, [zO10 xo t im mk rd po co tr wa wb_ fi cd], [zO0 wa m2_22 wy2_23 l0 pc2_24 a1_36 a2_37 a3_38 a4_39 a5_40 a6_41, zAr T 0 a1_36 7 g1_25, zAr T 0 a2_37 7 g2_26, zAr T 0 a3_38 7 f3A, zAr T 0 a4_39 (zMk mdA n4A (zPl cr0_ inn0_ k10_)) g4_27, zAr T 0 a5_40 (zMk mdA n4A (zPl cr0_ inn0_ k10_)) g5_28, zAr T 0 a6_41 (zMk mdA n4A (zPl cr0_ inn0_ k10_)) g6_29], z0_] _ _ := G.re rfl
          have G := G.sub (bs' := [[zO10 xo t im mk rd po co tr wa wb_ fi cd], wt, z0_, z1_, [zO0 wa m2_22 wy2_23 l0 pc2_24 a1_36 a2_37 a3_38 a4_39 a5_40 a6_41, zAr T 0 a1_36 7 g1_25, zAr T 0 a2_37 7 g2_26, zAr T 0 a3_38 7 f3A, zAr T 0 a4_39 (zMk mdA n4A (zPl cr0_ inn0_ k10_)) g4_27, zAr T 0 a5_40 (zMk mdA n4A (zPl cr0_ inn0_ k10_)) g5_28, zAr T 0 a6_41 (zMk mdA n4A (zPl cr0_ inn0_ k10_)) g6_29], wwB]) [3, 2, 5, 0, 4, 1] rfl
          exact z_back hQz_ (z_iret C hr hlocks G (Nat.le_of_ble_eq_true rfl) (by omega) dX11_lot_93 ⟨l0, m2_22, wy2_23, pc2_24, g1_25, g2_26, f3A, g4_27, g5_28, g6_29, (zMk mdA n4A (zPl cr0_ inn0_ k10_)), ([zO0 wa m2_22 wy2_23 l0 pc2_24 a1_36 a2_37 a3_38 a4_39 a5_40 a6_41, zAr T 0 a1_36 7 g1_25, zAr T 0 a2_37 7 g2_26, zAr T 0 a3_38 7 f3A, zAr T 0 a4_39 (zMk mdA n4A (zPl cr0_ inn0_ k10_)) g4_27, zAr T 0 a5_40 (zMk mdA n4A (zPl cr0_ inn0_ k10_)) g5_28, zAr T 0 a6_41 (zMk mdA n4A (zPl cr0_ inn0_ k10_)) g6_29]), laB, mdB, wyB, pc_B, f1B, f2B, f3B, f4B, f5B, f6B, n4B, wwB, rfl, hw_45, (Or.inr rfl), hwy9, hNAm.symm, (zMk_pw hpwA), (fun _ => h_33), (Or.inr h_34), hwwB, hmdB, hwmB, (by first | exact hNAo.symm | exact (zNA_n (by first | omega | grind)).symm), hpwB, (fun q => q), hTbB⟩)
        · have c_43n : ¬ wy2_23.toInt ≤ (i : Int) := fun q => c_43 ((fa_le _ _).mpr (by rw [nI_toInt (n := i) (by omega)]; exact q))
          refine lv_aload hx hb dX11_lot_60 (lv_at hl 2 rfl) ?_
          refine lv_iload hx hb dX11_lot_62 (lv_at hl 0 rfl) ?_
          refine lv_iload_n hx hb dX11_lot_64 rfl (lv_at hl 6 rfl) ?_
          have hw_46 : bWays T wa l0 m2_22 wy2_23 pc2_24 g1_25 g2_26 f3A g4_27 g5_28 g6_29 (zMk mdA n4A (zPl cr0_ inn0_ k10_)) [zO0 wa m2_22 wy2_23 l0 pc2_24 a1_36 a2_37 a3_38 a4_39 a5_40 a6_41, zAr T 0 a1_36 7 g1_25, zAr T 0 a2_37 7 g2_26, zAr T 0 a3_38 7 f3A, zAr T 0 a4_39 (zMk mdA n4A (zPl cr0_ inn0_ k10_)) g4_27, zAr T 0 a5_40 (zMk mdA n4A (zPl cr0_ inn0_ k10_)) g5_28, zAr T 0 a6_41 (zMk mdA n4A (zPl cr0_ inn0_ k10_)) g6_29] := ⟨a1_36, a2_37, a3_38, a4_39, a5_40, a6_41, rfl⟩
          have G : zS T A s.heap s [z1_, wwB, wt, [zO10 xo t im mk rd po co tr wa wb_ fi cd], [zO0 wa m2_22 wy2_23 l0 pc2_24 a1_36 a2_37 a3_38 a4_39 a5_40 a6_41, zAr T 0 a1_36 7 g1_25, zAr T 0 a2_37 7 g2_26, zAr T 0 a3_38 7 f3A, zAr T 0 a4_39 (zMk mdA n4A (zPl cr0_ inn0_ k10_)) g4_27, zAr T 0 a5_40 (zMk mdA n4A (zPl cr0_ inn0_ k10_)) g5_28, zAr T 0 a6_41 (zMk mdA n4A (zPl cr0_ inn0_ k10_)) g6_29], z0_] _ _ := G.re rfl
          refine z_Vi (bc := [[zO0 wa m2_22 wy2_23 l0 pc2_24 a1_36 a2_37 a3_38 a4_39 a5_40 a6_41, zAr T 0 a1_36 7 g1_25, zAr T 0 a2_37 7 g2_26, zAr T 0 a3_38 7 f3A, zAr T 0 a4_39 (zMk mdA n4A (zPl cr0_ inn0_ k10_)) g4_27, zAr T 0 a5_40 (zMk mdA n4A (zPl cr0_ inn0_ k10_)) g5_28, zAr T 0 a6_41 (zMk mdA n4A (zPl cr0_ inn0_ k10_)) g6_29]]) (br := [z1_, wwB, wt, [zO10 xo t im mk rd po co tr wa wb_ fi cd], z0_]) (As := [.int (nI i), .int a_]) (rest := []) C G (c_where l T wa l0 m2_22 wy2_23 pc2_24 g1_25 g2_26 f3A g4_27 g5_28 g6_29 (zMk mdA n4A (zPl cr0_ inn0_ k10_)) ([zO0 wa m2_22 wy2_23 l0 pc2_24 a1_36 a2_37 a3_38 a4_39 a5_40 a6_41, zAr T 0 a1_36 7 g1_25, zAr T 0 a2_37 7 g2_26, zAr T 0 a3_38 7 f3A, zAr T 0 a4_39 (zMk mdA n4A (zPl cr0_ inn0_ k10_)) g4_27, zAr T 0 a5_40 (zMk mdA n4A (zPl cr0_ inn0_ k10_)) g5_28, zAr T 0 a6_41 (zMk mdA n4A (zPl cr0_ inn0_ k10_)) g6_29]) (nI i) a_ hw_46 (by first | with_reducible assumption | with_reducible rfl | omega | assumption | rfl)) (kV_RX11_260 C.2.2.2.2 (Nat.le_of_ble_eq_true rfl) (Nat.le_of_ble_eq_true rfl)) [4] [4] rfl rfl (ci := 0) (qc := (RX0, TX0, 10)) rfl rfl (List.mem_flatten.mpr ⟨_, List.mem_of_getElem? (i := 0) rfl, (bWays_mem hw_46).choose_spec⟩) rfl rfl hl.1 dX11_lot_65 (Nat.le_of_ble_eq_true rfl) (by show _ + 0 ≤ 6 * (zNA (i1.toInt = 0 ∧ 0 < (fk 0).toInt ∧ 0 ≤ a_.toInt ∧ a_.toInt < cr0_.toInt ∧ a_.toInt < 7 ∧ 0 ≤ b_.toInt ∧ b_.toInt < cr0_.toInt ∧ b_.toInt < 7 ∧ ¬ zBit inn0_ b_ = 0) mdA n4A (zPl cr0_ inn0_ k10_) - n4A) + 6 * (zNA (i1.toInt = 1 ∧ 1 < (fk 0).toInt ∧ 0 ≤ a_.toInt ∧ a_.toInt < cr1_.toInt ∧ a_.toInt < 7 ∧ 0 ≤ b_.toInt ∧ b_.toInt < cr1_.toInt ∧ b_.toInt < 7 ∧ ¬ zBit inn1_ b_ = 0) mdB n4B (zPl cr1_ inn1_ k11_) - n4B); omega) (fun r_48 b1 H locs hw G => ?_)
          refine zAn2 hw ?_
          intro hbs9 h_47
          clear hw
          subst hbs9
          have G : zS T A s.heap s [z1_, wwB, wt, [zO10 xo t im mk rd po co tr wa wb_ fi cd], z0_, [zO0 wa m2_22 wy2_23 l0 pc2_24 a1_36 a2_37 a3_38 a4_39 a5_40 a6_41, zAr T 0 a1_36 7 g1_25, zAr T 0 a2_37 7 g2_26, zAr T 0 a3_38 7 f3A, zAr T 0 a4_39 (zMk mdA n4A (zPl cr0_ inn0_ k10_)) g4_27, zAr T 0 a5_40 (zMk mdA n4A (zPl cr0_ inn0_ k10_)) g5_28, zAr T 0 a6_41 (zMk mdA n4A (zPl cr0_ inn0_ k10_)) g6_29]] _ _ := G
          subst h_47
          refine lv_iload_n hx hb dX11_lot_68 rfl (lv_at hl 7 rfl) ?_
          refine lv_icmp_ne (tgt := 75) hx hb dX11_lot_69 (by decide) (fun c_49 => ?_) (fun c_49 => ?_)
          · have c_49n : ¬ (zEntry g5_28 (zMk mdA n4A (zPl cr0_ inn0_ k10_)) (nI i) a_ &&& 7).toInt = b_.toInt := fun q => c_49 ((fa_eq _ _).mpr q)
            refine lv_iinc (v := nI (i + 1)) (lv' := [(8, .int (nI (i + 1))), (7, .int u7), (6, .ref wa), (5, .ref l0), (0, .ref xo), (1, .int i1), (2, .int a_), (3, .int b_), (4, .int w_)]) hx hb dX11_lot_75 hl (k := 0) rfl (z_inc i 1) (by decide) (zLvf_h rfl) (fun ls hl => ?_)
            refine lv_goto (tgt := 50) hx hb dX11_lot_78 (by decide) ?_
            have G := G.sub (bs' := [z1_, wwB, wt, [zO10 xo t im mk rd po co tr wa wb_ fi cd], [zO0 wa m2_22 wy2_23 l0 pc2_24 a1_36 a2_37 a3_38 a4_39 a5_40 a6_41, zAr T 0 a1_36 7 g1_25, zAr T 0 a2_37 7 g2_26, zAr T 0 a3_38 7 f3A, zAr T 0 a4_39 (zMk mdA n4A (zPl cr0_ inn0_ k10_)) g4_27, zAr T 0 a5_40 (zMk mdA n4A (zPl cr0_ inn0_ k10_)) g5_28, zAr T 0 a6_41 (zMk mdA n4A (zPl cr0_ inn0_ k10_)) g6_29], z0_]) [0, 1, 2, 3, 5, 4] rfl
            exact ih_50 (i + 1) u7 (show (i + 1) ≤ aPr (aW cr0_ inn0_ k10_) 7 from (by omega)) (show aPr (aW cr0_ inn0_ k10_) 7 - (i + 1) < aPr (aW cr0_ inn0_ k10_) 7 - i from by omega) _ _ ls G (lv_sub hl [0, 1, 2, 3, 4, 5, 6, 7, 8] rfl)
          · have c_49n : (zEntry g5_28 (zMk mdA n4A (zPl cr0_ inn0_ k10_)) (nI i) a_ &&& 7).toInt = b_.toInt := (fa_eq _ _).mp c_49
            refine lv_iinc (v := u7 + 1) (lv' := [(7, .int (u7 + 1)), (8, .int (nI i)), (6, .ref wa), (5, .ref l0), (0, .ref xo), (1, .int i1), (2, .int a_), (3, .int b_), (4, .int w_)]) hx hb dX11_lot_72 hl (k := 1) rfl rfl (by decide) (zLvf_h rfl) (fun ls hl => ?_)
            refine lv_iinc (v := nI (i + 1)) (lv' := [(8, .int (nI (i + 1))), (7, .int (u7 + 1)), (6, .ref wa), (5, .ref l0), (0, .ref xo), (1, .int i1), (2, .int a_), (3, .int b_), (4, .int w_)]) hx hb dX11_lot_75 hl (k := 1) rfl (z_inc i 1) (by decide) (zLvf_h rfl) (fun ls hl => ?_)
            refine lv_goto (tgt := 50) hx hb dX11_lot_78 (by decide) ?_
            have G := G.sub (bs' := [z1_, wwB, wt, [zO10 xo t im mk rd po co tr wa wb_ fi cd], [zO0 wa m2_22 wy2_23 l0 pc2_24 a1_36 a2_37 a3_38 a4_39 a5_40 a6_41, zAr T 0 a1_36 7 g1_25, zAr T 0 a2_37 7 g2_26, zAr T 0 a3_38 7 f3A, zAr T 0 a4_39 (zMk mdA n4A (zPl cr0_ inn0_ k10_)) g4_27, zAr T 0 a5_40 (zMk mdA n4A (zPl cr0_ inn0_ k10_)) g5_28, zAr T 0 a6_41 (zMk mdA n4A (zPl cr0_ inn0_ k10_)) g6_29], z0_]) [0, 1, 2, 3, 5, 4] rfl
            exact ih_50 (i + 1) (u7 + 1) (show (i + 1) ≤ aPr (aW cr0_ inn0_ k10_) 7 from (by omega)) (show aPr (aW cr0_ inn0_ k10_) 7 - (i + 1) < aPr (aW cr0_ inn0_ k10_) 7 - i from by omega) _ _ ls G (lv_sub hl [0, 1, 2, 3, 4, 5, 6, 7, 8] rfl)
      · have h_20 : (b_.toInt < 0 ∨ cr0_.toInt ≤ b_.toInt ∨ 7 ≤ b_.toInt ∨ zBit inn0_ b_ = 0) := h_20
        refine lv_if_ne (tgt := 35) hx hb dX11_lot_30 (by decide) (fun q => absurd (by decide) q) (fun _ => ?_)
        refine lv_iconst (v := (-1)) hx hb dX11_lot_33 (by decide) ?_
        have G := G.sub (bs' := [[zO10 xo t im mk rd po co tr wa wb_ fi cd], wt, z0_, z1_, wwA, wwB]) [0, 4, 5, 1, 2, 3] rfl
        exact z_back hQz_ (z_iret C hr hlocks G (Nat.le_of_ble_eq_true rfl) (by omega) dX11_lot_34 ⟨laA, mdA, wyA, pc_A, f1A, f2A, f3A, f4A, f5A, f6A, n4A, wwA, laB, mdB, wyB, pc_B, f1B, f2B, f3B, f4B, f5B, f6B, n4B, wwB, rfl, hwwA, hmdA, hwmA, (by first | exact hNAo.symm | exact (zNA_n (by first | omega | grind)).symm), hpwA, (fun q => q), hTbA, hwwB, hmdB, hwmB, (by first | exact hNAo.symm | exact (zNA_n (by first | omega | grind)).symm), hpwB, (fun q => q), hTbB⟩)
    · have h_13 : (a_.toInt < 0 ∨ cr0_.toInt ≤ a_.toInt ∨ 7 ≤ a_.toInt) := h_13
      refine lv_if_eq (tgt := 33) hx hb dX11_lot_21 (by decide) (fun _ => ?_) (fun q => absurd (by decide) q)
      refine lv_iconst (v := (-1)) hx hb dX11_lot_33 (by decide) ?_
      have G := G.sub (bs' := [[zO10 xo t im mk rd po co tr wa wb_ fi cd], wt, z0_, z1_, wwA, wwB]) [0, 4, 5, 1, 2, 3] rfl
      exact z_back hQz_ (z_iret C hr hlocks G (Nat.le_of_ble_eq_true rfl) (by omega) dX11_lot_34 ⟨laA, mdA, wyA, pc_A, f1A, f2A, f3A, f4A, f5A, f6A, n4A, wwA, laB, mdB, wyB, pc_B, f1B, f2B, f3B, f4B, f5B, f6B, n4B, wwB, rfl, hwwA, hmdA, hwmA, (by first | exact hNAo.symm | exact (zNA_n (by first | omega | grind)).symm), hpwA, (fun q => q), hTbA, hwwB, hmdB, hwmB, (by first | exact hNAo.symm | exact (zNA_n (by first | omega | grind)).symm), hpwB, (fun q => q), hTbB⟩)
  · have h_6 : i1.toInt = 1 := h_6
    have h_7 : 1 < (fk 0).toInt := h_7
    refine lv_astore (lv' := [(5, .ref l1), (0, .ref xo), (1, .int i1), (2, .int a_), (3, .int b_), (4, .int w_)]) hx hb dX11_lot_8 hl (by decide) (zLvf_h rfl) (fun ls hl => ?_)
    refine lv_aload hx hb dX11_lot_10 (lv_at hl 0 rfl) ?_
    refine lv_ifnull hx hb dX11_lot_12 ?_
    refine lv_aload hx hb dX11_lot_15 (lv_at hl 0 rfl) ?_
    refine lv_iload_n hx hb dX11_lot_17 rfl (lv_at hl 3 rfl) ?_
    refine z_Vi (bc := [z1_]) (br := [[zO10 xo t im mk rd po co tr wa wb_ fi cd], z0_, wwA, wwB, wt]) (As := [.int a_]) (rest := []) C G (c_has l T l1 cr1_ inn1_ k11_ k21_ k31_ k41_ z1_ a_ hz1_) (kV_RX11_160 C.2.2.2.2 (Nat.le_of_ble_eq_true rfl) (Nat.le_of_ble_eq_true rfl)) [2] [2] rfl rfl (ci := 4) (qc := (RX4, TX4, 6)) rfl rfl (List.mem_flatten.mpr ⟨_, List.mem_of_getElem? (i := 0) rfl, (bLand_mem hz1_).choose_spec⟩) rfl rfl hl.1 dX11_lot_18 (Nat.le_of_ble_eq_true rfl) (by show _ + 0 ≤ 6 * (zNA (i1.toInt = 0 ∧ 0 < (fk 0).toInt ∧ 0 ≤ a_.toInt ∧ a_.toInt < cr0_.toInt ∧ a_.toInt < 7 ∧ 0 ≤ b_.toInt ∧ b_.toInt < cr0_.toInt ∧ b_.toInt < 7 ∧ ¬ zBit inn0_ b_ = 0) mdA n4A (zPl cr0_ inn0_ k10_) - n4A) + 6 * (zNA (i1.toInt = 1 ∧ 1 < (fk 0).toInt ∧ 0 ≤ a_.toInt ∧ a_.toInt < cr1_.toInt ∧ a_.toInt < 7 ∧ 0 ≤ b_.toInt ∧ b_.toInt < cr1_.toInt ∧ b_.toInt < 7 ∧ ¬ zBit inn1_ b_ = 0) mdB n4B (zPl cr1_ inn1_ k11_) - n4B); omega) (fun r_51 b1 H locs hw G => ?_)
    refine zAn2 hw ?_
    intro hbs9 hc_50
    clear hw
    subst hbs9
    have G : zS T A s.heap s [[zO10 xo t im mk rd po co tr wa wb_ fi cd], z0_, wwA, wwB, wt, z1_] _ _ := G
    rcases hc_50 with ⟨rfl, h_52, h_53, h_54⟩ | ⟨rfl, h_55⟩
    · have h_52 : 0 ≤ a_.toInt := h_52
      have h_53 : a_.toInt < cr1_.toInt := h_53
      have h_54 : a_.toInt < 7 := h_54
      refine lv_if_eq (tgt := 33) hx hb dX11_lot_21 (by decide) (fun q => absurd q (by decide)) (fun _ => ?_)
      refine lv_aload hx hb dX11_lot_24 (lv_at hl 0 rfl) ?_
      refine lv_iload_n hx hb dX11_lot_26 rfl (lv_at hl 4 rfl) ?_
      refine z_Vi (bc := [z1_]) (br := [[zO10 xo t im mk rd po co tr wa wb_ fi cd], z0_, wwA, wwB, wt]) (As := [.int b_]) (rest := []) C G (c_isInn l T l1 cr1_ inn1_ k11_ k21_ k31_ k41_ z1_ b_ hz1_) (kV_RX11_174 C.2.2.2.2 (Nat.le_of_ble_eq_true rfl) (Nat.le_of_ble_eq_true rfl)) [5] [5] rfl rfl (ci := 4) (qc := (RX4, TX4, 6)) rfl rfl (List.mem_flatten.mpr ⟨_, List.mem_of_getElem? (i := 0) rfl, (bLand_mem hz1_).choose_spec⟩) rfl rfl hl.1 dX11_lot_27 (Nat.le_of_ble_eq_true rfl) (by show _ + 0 ≤ 6 * (zNA (i1.toInt = 0 ∧ 0 < (fk 0).toInt ∧ 0 ≤ a_.toInt ∧ a_.toInt < cr0_.toInt ∧ a_.toInt < 7 ∧ 0 ≤ b_.toInt ∧ b_.toInt < cr0_.toInt ∧ b_.toInt < 7 ∧ ¬ zBit inn0_ b_ = 0) mdA n4A (zPl cr0_ inn0_ k10_) - n4A) + 6 * (zNA (i1.toInt = 1 ∧ 1 < (fk 0).toInt ∧ 0 ≤ a_.toInt ∧ a_.toInt < cr1_.toInt ∧ a_.toInt < 7 ∧ 0 ≤ b_.toInt ∧ b_.toInt < cr1_.toInt ∧ b_.toInt < 7 ∧ ¬ zBit inn1_ b_ = 0) mdB n4B (zPl cr1_ inn1_ k11_) - n4B); omega) (fun r_57 b1 H locs hw G => ?_)
      refine zAn2 hw ?_
      intro hbs9 hc_56
      clear hw
      subst hbs9
      have G : zS T A s.heap s [[zO10 xo t im mk rd po co tr wa wb_ fi cd], z0_, wwA, wwB, wt, z1_] _ _ := G
      rcases hc_56 with ⟨rfl, h_58, h_59, h_60, h_61⟩ | ⟨rfl, h_62⟩
      · have h_58 : 0 ≤ b_.toInt := h_58
        have h_59 : b_.toInt < cr1_.toInt := h_59
        have h_60 : b_.toInt < 7 := h_60
        have h_61 : ¬ zBit inn1_ b_ = 0 := h_61
        refine lv_if_ne (tgt := 35) hx hb dX11_lot_30 (by decide) (fun _ => ?_) (fun q => absurd q (by decide))
        refine lv_aload_n hx hb dX11_lot_35 rfl (lv_at hl 1 rfl) ?_
        refine lv_iload_n hx hb dX11_lot_36 rfl (lv_at hl 2 rfl) ?_
        refine lv_aload hx hb dX11_lot_37 (lv_at hl 0 rfl) ?_
        have hNAm : zNA (i1.toInt = 1 ∧ 1 < (fk 0).toInt ∧ 0 ≤ a_.toInt ∧ a_.toInt < cr1_.toInt ∧ a_.toInt < 7 ∧ 0 ≤ b_.toInt ∧ b_.toInt < cr1_.toInt ∧ b_.toInt < 7 ∧ ¬ zBit inn1_ b_ = 0) mdB n4B (zPl cr1_ inn1_ k11_) = zMk mdB n4B (zPl cr1_ inn1_ k11_) := zNA_y (by first | omega | (repeat' (first | omega | assumption | constructor)))
        have hNAo : zNA (i1.toInt = 0 ∧ 0 < (fk 0).toInt ∧ 0 ≤ a_.toInt ∧ a_.toInt < cr0_.toInt ∧ a_.toInt < 7 ∧ 0 ≤ b_.toInt ∧ b_.toInt < cr0_.toInt ∧ b_.toInt < 7 ∧ ¬ zBit inn0_ b_ = 0) mdA n4A (zPl cr0_ inn0_ k10_) = n4A := zNA_n (by omega)
        have hn9 : zMk mdB n4B (zPl cr1_ inn1_ k11_) ≤ 131072 := zPw_le (zMk_pw hpwB)
        refine z_Vq (bc := [[zO10 xo t im mk rd po co tr wa wb_ fi cd], wwB, z1_]) (br := [z0_, wwA, wt]) (As := [.int i1, .ref l1]) (rest := []) C G (c_f_waysInB l T xo t im mk rd po co tr wa wb_ fi cd i1 laB mdB wyB pc_B f1B f2B f3B f4B f5B f6B n4B wwB l1 cr1_ inn1_ k11_ k21_ k31_ k41_ z1_ hwwB hz1_ hI1_ hpwB hmdB (kaOk hI1_ hLq1).1 hTbB (by omega)) (kV_RX11_235 C.2.2.2.2 (Nat.le_of_ble_eq_true rfl) (Nat.le_of_ble_eq_true rfl)) [0, 3, 5] [0, 2, 1] rfl rfl (ci := 10) (qc := (RX11, TX11, 11)) rfl rfl (List.mem_flatten.mpr ⟨_, List.mem_of_getElem? (i := 0) rfl, List.mem_cons_self⟩) rfl rfl hl.1 dX11_lot_39 (Nat.le_of_ble_eq_true rfl) (by show _ + (6 * (zMk mdB n4B (zPl cr1_ inn1_ k11_) - n4B)) ≤ 6 * (zNA (i1.toInt = 0 ∧ 0 < (fk 0).toInt ∧ 0 ≤ a_.toInt ∧ a_.toInt < cr0_.toInt ∧ a_.toInt < 7 ∧ 0 ≤ b_.toInt ∧ b_.toInt < cr0_.toInt ∧ b_.toInt < 7 ∧ ¬ zBit inn0_ b_ = 0) mdA n4A (zPl cr0_ inn0_ k10_) - n4A) + 6 * (zNA (i1.toInt = 1 ∧ 1 < (fk 0).toInt ∧ 0 ≤ a_.toInt ∧ a_.toInt < cr1_.toInt ∧ a_.toInt < 7 ∧ 0 ≤ b_.toInt ∧ b_.toInt < cr1_.toInt ∧ b_.toInt < 7 ∧ ¬ zBit inn1_ b_ = 0) mdB n4B (zPl cr1_ inn1_ k11_) - n4B); omega) (fun r_77 b1 H locs hw G => ?_)
        refine zEx9 hw ?_
        intro w2_63 m2_64 wy2_65 pc2_66 g1_67 g2_68 g4_69 g5_70 g6_71
        refine zCu6 ?_
        intro hbs9 h_72 h_73 h_74 h_75 h_76
        clear hw
        subst hbs9
        have G : zS T A s.heap s [z0_, wwA, wt, [zO10 xo t im mk rd po co tr wa wb_ fi cd], w2_63, z1_] _ _ := G
        subst h_72
        have hwy9 : 0 ≤ wy2_65.toInt ∧ wy2_65.toInt ≤ 16384 := by have q9 := zWy_in (inn := inn1_) hI1_; rw [h_74]; exact ⟨by omega, q9.2⟩
        have hp79 : aPr (aW cr1_ inn1_ k11_) 7 ≤ 16384 := aPr_7 hI1_
        have hwN9 : wy2_65 = nI (aPr (aW cr1_ inn1_ k11_) 7) := h_74.trans (zWy_z hI1_)
        have hwT9 : wy2_65.toInt = ((aPr (aW cr1_ inn1_ k11_) 7 : Nat) : Int) := by rw [hwN9, nI_toInt (by omega)]
        have hOk9 := (kaOk (inn := inn1_) hI1_ hLq1).1
        have hc79 := hI1_.1
        refine lv_astore (lv' := [(6, .ref wb_), (5, .ref l1), (0, .ref xo), (1, .int i1), (2, .int a_), (3, .int b_), (4, .int w_)]) hx hb dX11_lot_42 hl (by decide) (zLvf_h rfl) (fun ls hl => ?_)
        refine lv_iconst (v := 0) hx hb dX11_lot_44 (by decide) ?_
        refine lv_istore (lv' := [(7, .int 0), (6, .ref wb_), (5, .ref l1), (0, .ref xo), (1, .int i1), (2, .int a_), (3, .int b_), (4, .int w_)]) hx hb dX11_lot_45 hl (by decide) (zLvf_h rfl) (fun ls hl => ?_)
        refine lv_iconst (v := 0) hx hb dX11_lot_47 (by decide) ?_
        refine lv_istore (lv' := [(8, .int 0), (7, .int 0), (6, .ref wb_), (5, .ref l1), (0, .ref xo), (1, .int i1), (2, .int a_), (3, .int b_), (4, .int w_)]) hx hb dX11_lot_48 hl (by decide) (zLvf_h rfl) (fun ls hl => ?_)
        refine zEx6 h_73 ?_
        intro a1_78 a2_79 a3_80 a4_81 a5_82 a6_83 hbs9
        clear h_73
        subst hbs9
        have G : zS T A s.heap s [z0_, wwA, wt, [zO10 xo t im mk rd po co tr wa wb_ fi cd], [zO0 wb_ m2_64 wy2_65 l1 pc2_66 a1_78 a2_79 a3_80 a4_81 a5_82 a6_83], [zAr T 0 a1_78 7 g1_67], [zAr T 0 a2_79 7 g2_68], [zAr T 0 a3_80 7 f3B], [zAr T 0 a4_81 (zMk mdB n4B (zPl cr1_ inn1_ k11_)) g4_69], [zAr T 0 a5_82 (zMk mdB n4B (zPl cr1_ inn1_ k11_)) g5_70], [zAr T 0 a6_83 (zMk mdB n4B (zPl cr1_ inn1_ k11_)) g6_71], z1_] _ _ := G.re rfl
        have hw_84 : bWays T wb_ l1 m2_64 wy2_65 pc2_66 g1_67 g2_68 f3B g4_69 g5_70 g6_71 (zMk mdB n4B (zPl cr1_ inn1_ k11_)) [zO0 wb_ m2_64 wy2_65 l1 pc2_66 a1_78 a2_79 a3_80 a4_81 a5_82 a6_83, zAr T 0 a1_78 7 g1_67, zAr T 0 a2_79 7 g2_68, zAr T 0 a3_80 7 f3B, zAr T 0 a4_81 (zMk mdB n4B (zPl cr1_ inn1_ k11_)) g4_69, zAr T 0 a5_82 (zMk mdB n4B (zPl cr1_ inn1_ k11_)) g5_70, zAr T 0 a6_83 (zMk mdB n4B (zPl cr1_ inn1_ k11_)) g6_71] := ⟨a1_78, a2_79, a3_80, a4_81, a5_82, a6_83, rfl⟩
        have G : zS T A s.heap s [z0_, wwA, wt, [zO10 xo t im mk rd po co tr wa wb_ fi cd], [zO0 wb_ m2_64 wy2_65 l1 pc2_66 a1_78 a2_79 a3_80 a4_81 a5_82 a6_83, zAr T 0 a1_78 7 g1_67, zAr T 0 a2_79 7 g2_68, zAr T 0 a3_80 7 f3B, zAr T 0 a4_81 (zMk mdB n4B (zPl cr1_ inn1_ k11_)) g4_69, zAr T 0 a5_82 (zMk mdB n4B (zPl cr1_ inn1_ k11_)) g5_70, zAr T 0 a6_83 (zMk mdB n4B (zPl cr1_ inn1_ k11_)) g6_71], z1_] _ _ := G.re rfl
        refine z_lp2 (T := T) 50 (fun (i : Nat) (u7 : Int32) => [z0_, wwA, wt, [zO10 xo t im mk rd po co tr wa wb_ fi cd], [zO0 wb_ m2_64 wy2_65 l1 pc2_66 a1_78 a2_79 a3_80 a4_81 a5_82 a6_83, zAr T 0 a1_78 7 g1_67, zAr T 0 a2_79 7 g2_68, zAr T 0 a3_80 7 f3B, zAr T 0 a4_81 (zMk mdB n4B (zPl cr1_ inn1_ k11_)) g4_69, zAr T 0 a5_82 (zMk mdB n4B (zPl cr1_ inn1_ k11_)) g5_70, zAr T 0 a6_83 (zMk mdB n4B (zPl cr1_ inn1_ k11_)) g6_71], z1_]) (fun (i : Nat) (u7 : Int32) => [(8, .int (nI i)), (7, .int u7), (6, .ref wb_), (5, .ref l1), (0, .ref xo), (1, .int i1), (2, .int a_), (3, .int b_), (4, .int w_)]) (fun (i : Nat) (u7 : Int32) => i ≤ aPr (aW cr1_ inn1_ k11_) 7) (fun (i : Nat) (u7 : Int32) => aPr (aW cr1_ inn1_ k11_) 7 - i) ?_ 0 0 (show 0 ≤ aPr (aW cr1_ inn1_ k11_) 7 from (Nat.zero_le _)) G (lv_sub hl [0, 1, 2, 3, 4, 5, 6, 7, 8] rfl)
        intro i u7 hi ih_50 H locs ls G hl
        replace hi : i ≤ aPr (aW cr1_ inn1_ k11_) 7 := hi
        replace G : zS T A s.heap s [z0_, wwA, wt, [zO10 xo t im mk rd po co tr wa wb_ fi cd], [zO0 wb_ m2_64 wy2_65 l1 pc2_66 a1_78 a2_79 a3_80 a4_81 a5_82 a6_83, zAr T 0 a1_78 7 g1_67, zAr T 0 a2_79 7 g2_68, zAr T 0 a3_80 7 f3B, zAr T 0 a4_81 (zMk mdB n4B (zPl cr1_ inn1_ k11_)) g4_69, zAr T 0 a5_82 (zMk mdB n4B (zPl cr1_ inn1_ k11_)) g5_70, zAr T 0 a6_83 (zMk mdB n4B (zPl cr1_ inn1_ k11_)) g6_71], z1_] _ _ := G
        replace hl : lv_has ls 9 [(8, .int (nI i)), (7, .int u7), (6, .ref wb_), (5, .ref l1), (0, .ref xo), (1, .int i1), (2, .int a_), (3, .int b_), (4, .int w_)] := hl
        refine lv_iload hx hb dX11_lot_50 (lv_at hl 0 rfl) ?_
        refine lv_aload hx hb dX11_lot_52 (lv_at hl 2 rfl) ?_
        have G : zS T A s.heap s [z0_, wwA, wt, [zO10 xo t im mk rd po co tr wa wb_ fi cd], [zO0 wb_ m2_64 wy2_65 l1 pc2_66 a1_78 a2_79 a3_80 a4_81 a5_82 a6_83], [zAr T 0 a1_78 7 g1_67], [zAr T 0 a2_79 7 g2_68], [zAr T 0 a3_80 7 f3B], [zAr T 0 a4_81 (zMk mdB n4B (zPl cr1_ inn1_ k11_)) g4_69], [zAr T 0 a5_82 (zMk mdB n4B (zPl cr1_ inn1_ k11_)) g5_70], [zAr T 0 a6_83 (zMk mdB n4B (zPl cr1_ inn1_ k11_)) g6_71], z1_] _ _ := G.re rfl
        refine z_get C G clX0 4 rfl 1 (by decide) m_fl_RX11_257 rfl dX11_lot_54 ?_
        refine lv_icmp_ge (tgt := 81) hx hb dX11_lot_57 (by decide) (fun c_85 => ?_) (fun c_85 => ?_)
        · have c_85n : wy2_65.toInt ≤ (i : Int) := by have q := (fa_le _ _).mp c_85; rw [nI_toInt (n := i) (by omega)] at q; exact q
          refine lv_iload hx hb dX11_lot_81 (lv_at hl 1 rfl) ?_
          refine lv_aload hx hb dX11_lot_83 (lv_at hl 2 rfl) ?_
          refine z_get C G clX0 4 rfl 1 (by decide) m_fl_RX11_257 rfl dX11_lot_85 ?_
          refine lv_iload hx hb dX11_lot_88 (lv_at hl 8 rfl) ?_
          refine z_Si (bc := []) (br := [z0_, wwA, wt, [zO10 xo t im mk rd po co tr wa wb_ fi cd], [zO0 wb_ m2_64 wy2_65 l1 pc2_66 a1_78 a2_79 a3_80 a4_81 a5_82 a6_83], [zAr T 0 a1_78 7 g1_67], [zAr T 0 a2_79 7 g2_68], [zAr T 0 a3_80 7 f3B], [zAr T 0 a4_81 (zMk mdB n4B (zPl cr1_ inn1_ k11_)) g4_69], [zAr T 0 a5_82 (zMk mdB n4B (zPl cr1_ inn1_ k11_)) g5_70], [zAr T 0 a6_83 (zMk mdB n4B (zPl cr1_ inn1_ k11_)) g6_71], z1_]) (As := [.int u7, .int wy2_65, .int w_]) (rest := []) C G (c_inLeastTerms l T u7 wy2_65 w_) (kS_RX11_262 C.2.2.2.2 (Nat.le_of_ble_eq_true rfl) (Nat.le_of_ble_eq_true rfl)) [] [] rfl rfl rfl rfl hl.1 dX11_lot_90 (Nat.le_of_ble_eq_true rfl) (by show _ + 0 ≤ 6 * (zNA (i1.toInt = 0 ∧ 0 < (fk 0).toInt ∧ 0 ≤ a_.toInt ∧ a_.toInt < cr0_.toInt ∧ a_.toInt < 7 ∧ 0 ≤ b_.toInt ∧ b_.toInt < cr0_.toInt ∧ b_.toInt < 7 ∧ ¬ zBit inn0_ b_ = 0) mdA n4A (zPl cr0_ inn0_ k10_) - n4A) + 6 * (zNA (i1.toInt = 1 ∧ 1 < (fk 0).toInt ∧ 0 ≤ a_.toInt ∧ a_.toInt < cr1_.toInt ∧ a_.toInt < 7 ∧ 0 ≤ b_.toInt ∧ b_.toInt < cr1_.toInt ∧ b_.toInt < 7 ∧ ¬ zBit inn1_ b_ = 0) mdB n4B (zPl cr1_ inn1_ k11_) - n4B); omega) (fun r_86 b1 H locs hw G => ?_)
          obtain rfl := hw
          have G : zS T A s.heap s [z0_, wwA, wt, [zO10 xo t im mk rd po co tr wa wb_ fi cd], [zO0 wb_ m2_64 wy2_65 l1 pc2_66 a1_78 a2_79 a3_80 a4_81 a5_82 a6_83], [zAr T 0 a1_78 7 g1_67], [zAr T 0 a2_79 7 g2_68], [zAr T 0 a3_80 7 f3B], [zAr T 0 a4_81 (zMk mdB n4B (zPl cr1_ inn1_ k11_)) g4_69], [zAr T 0 a5_82 (zMk mdB n4B (zPl cr1_ inn1_ k11_)) g5_70], [zAr T 0 a6_83 (zMk mdB n4B (zPl cr1_ inn1_ k11_)) g6_71], z1_] _ _ := G
          have hw_87 : bWays T wb_ l1 m2_64 wy2_65 pc2_66 g1_67 g2_68 f3B g4_69 g5_70 g6_71 (zMk mdB n4B (zPl cr1_ inn1_ k11_)) [zO0 wb_ m2_64 wy2_65 l1 pc2_66 a1_78 a2_79 a3_80 a4_81 a5_82 a6_83, zAr T 0 a1_78 7 g1_67, zAr T 0 a2_79 7 g2_68, zAr T 0 a3_80 7 f3B, zAr T 0 a4_81 (zMk mdB n4B (zPl cr1_ inn1_ k11_)) g4_69, zAr T 0 a5_82 (zMk mdB n4B (zPl cr1_ inn1_ k11_)) g5_70, zAr T 0 a6_83 (zMk mdB n4B (zPl cr1_ inn1_ k11_)) g6_71] := ⟨a1_78, a2_79, a3_80, a4_81, a5_82, a6_83, rfl⟩
          have G : zS T A s.heap s [z0_, wwA, wt, [zO10 xo t im mk rd po co tr wa wb_ fi cd], [zO0 wb_ m2_64 wy2_65 l1 pc2_66 a1_78 a2_79 a3_80 a4_81 a5_82 a6_83, zAr T 0 a1_78 7 g1_67, zAr T 0 a2_79 7 g2_68, zAr T 0 a3_80 7 f3B, zAr T 0 a4_81 (zMk mdB n4B (zPl cr1_ inn1_ k11_)) g4_69, zAr T 0 a5_82 (zMk mdB n4B (zPl cr1_ inn1_ k11_)) g5_70, zAr T 0 a6_83 (zMk mdB n4B (zPl cr1_ inn1_ k11_)) g6_71], z1_] _ _ := G.re rfl
          have G := G.sub (bs' := [[zO10 xo t im mk rd po co tr wa wb_ fi cd], wt, z0_, z1_, wwA, [zO0 wb_ m2_64 wy2_65 l1 pc2_66 a1_78 a2_79 a3_80 a4_81 a5_82 a6_83, zAr T 0 a1_78 7 g1_67, zAr T 0 a2_79 7 g2_68, zAr T 0 a3_80 7 f3B, zAr T 0 a4_81 (zMk mdB n4B (zPl cr1_ inn1_ k11_)) g4_69, zAr T 0 a5_82 (zMk mdB n4B (zPl cr1_ inn1_ k11_)) g5_70, zAr T 0 a6_83 (zMk mdB n4B (zPl cr1_ inn1_ k11_)) g6_71]]) [3, 2, 0, 5, 1, 4] rfl
          exact z_back hQz_ (z_iret C hr hlocks G (Nat.le_of_ble_eq_true rfl) (by omega) dX11_lot_93 ⟨laA, mdA, wyA, pc_A, f1A, f2A, f3A, f4A, f5A, f6A, n4A, wwA, l1, m2_64, wy2_65, pc2_66, g1_67, g2_68, f3B, g4_69, g5_70, g6_71, (zMk mdB n4B (zPl cr1_ inn1_ k11_)), ([zO0 wb_ m2_64 wy2_65 l1 pc2_66 a1_78 a2_79 a3_80 a4_81 a5_82 a6_83, zAr T 0 a1_78 7 g1_67, zAr T 0 a2_79 7 g2_68, zAr T 0 a3_80 7 f3B, zAr T 0 a4_81 (zMk mdB n4B (zPl cr1_ inn1_ k11_)) g4_69, zAr T 0 a5_82 (zMk mdB n4B (zPl cr1_ inn1_ k11_)) g5_70, zAr T 0 a6_83 (zMk mdB n4B (zPl cr1_ inn1_ k11_)) g6_71]), rfl, hwwA, hmdA, hwmA, (by first | exact hNAo.symm | exact (zNA_n (by first | omega | grind)).symm), hpwA, (fun q => q), hTbA, hw_87, (Or.inr rfl), hwy9, hNAm.symm, (zMk_pw hpwB), (fun _ => h_75), (Or.inr h_76)⟩)
        · have c_85n : ¬ wy2_65.toInt ≤ (i : Int) := fun q => c_85 ((fa_le _ _).mpr (by rw [nI_toInt (n := i) (by omega)]; exact q))
          refine lv_aload hx hb dX11_lot_60 (lv_at hl 2 rfl) ?_
          refine lv_iload hx hb dX11_lot_62 (lv_at hl 0 rfl) ?_
          refine lv_iload_n hx hb dX11_lot_64 rfl (lv_at hl 6 rfl) ?_
          have hw_88 : bWays T wb_ l1 m2_64 wy2_65 pc2_66 g1_67 g2_68 f3B g4_69 g5_70 g6_71 (zMk mdB n4B (zPl cr1_ inn1_ k11_)) [zO0 wb_ m2_64 wy2_65 l1 pc2_66 a1_78 a2_79 a3_80 a4_81 a5_82 a6_83, zAr T 0 a1_78 7 g1_67, zAr T 0 a2_79 7 g2_68, zAr T 0 a3_80 7 f3B, zAr T 0 a4_81 (zMk mdB n4B (zPl cr1_ inn1_ k11_)) g4_69, zAr T 0 a5_82 (zMk mdB n4B (zPl cr1_ inn1_ k11_)) g5_70, zAr T 0 a6_83 (zMk mdB n4B (zPl cr1_ inn1_ k11_)) g6_71] := ⟨a1_78, a2_79, a3_80, a4_81, a5_82, a6_83, rfl⟩
          have G : zS T A s.heap s [z0_, wwA, wt, [zO10 xo t im mk rd po co tr wa wb_ fi cd], [zO0 wb_ m2_64 wy2_65 l1 pc2_66 a1_78 a2_79 a3_80 a4_81 a5_82 a6_83, zAr T 0 a1_78 7 g1_67, zAr T 0 a2_79 7 g2_68, zAr T 0 a3_80 7 f3B, zAr T 0 a4_81 (zMk mdB n4B (zPl cr1_ inn1_ k11_)) g4_69, zAr T 0 a5_82 (zMk mdB n4B (zPl cr1_ inn1_ k11_)) g5_70, zAr T 0 a6_83 (zMk mdB n4B (zPl cr1_ inn1_ k11_)) g6_71], z1_] _ _ := G.re rfl
          refine z_Vi (bc := [[zO0 wb_ m2_64 wy2_65 l1 pc2_66 a1_78 a2_79 a3_80 a4_81 a5_82 a6_83, zAr T 0 a1_78 7 g1_67, zAr T 0 a2_79 7 g2_68, zAr T 0 a3_80 7 f3B, zAr T 0 a4_81 (zMk mdB n4B (zPl cr1_ inn1_ k11_)) g4_69, zAr T 0 a5_82 (zMk mdB n4B (zPl cr1_ inn1_ k11_)) g5_70, zAr T 0 a6_83 (zMk mdB n4B (zPl cr1_ inn1_ k11_)) g6_71]]) (br := [z0_, wwA, wt, [zO10 xo t im mk rd po co tr wa wb_ fi cd], z1_]) (As := [.int (nI i), .int a_]) (rest := []) C G (c_where l T wb_ l1 m2_64 wy2_65 pc2_66 g1_67 g2_68 f3B g4_69 g5_70 g6_71 (zMk mdB n4B (zPl cr1_ inn1_ k11_)) ([zO0 wb_ m2_64 wy2_65 l1 pc2_66 a1_78 a2_79 a3_80 a4_81 a5_82 a6_83, zAr T 0 a1_78 7 g1_67, zAr T 0 a2_79 7 g2_68, zAr T 0 a3_80 7 f3B, zAr T 0 a4_81 (zMk mdB n4B (zPl cr1_ inn1_ k11_)) g4_69, zAr T 0 a5_82 (zMk mdB n4B (zPl cr1_ inn1_ k11_)) g5_70, zAr T 0 a6_83 (zMk mdB n4B (zPl cr1_ inn1_ k11_)) g6_71]) (nI i) a_ hw_88 (by first | with_reducible assumption | with_reducible rfl | omega | assumption | rfl)) (kV_RX11_260 C.2.2.2.2 (Nat.le_of_ble_eq_true rfl) (Nat.le_of_ble_eq_true rfl)) [4] [4] rfl rfl (ci := 0) (qc := (RX0, TX0, 10)) rfl rfl (List.mem_flatten.mpr ⟨_, List.mem_of_getElem? (i := 0) rfl, (bWays_mem hw_88).choose_spec⟩) rfl rfl hl.1 dX11_lot_65 (Nat.le_of_ble_eq_true rfl) (by show _ + 0 ≤ 6 * (zNA (i1.toInt = 0 ∧ 0 < (fk 0).toInt ∧ 0 ≤ a_.toInt ∧ a_.toInt < cr0_.toInt ∧ a_.toInt < 7 ∧ 0 ≤ b_.toInt ∧ b_.toInt < cr0_.toInt ∧ b_.toInt < 7 ∧ ¬ zBit inn0_ b_ = 0) mdA n4A (zPl cr0_ inn0_ k10_) - n4A) + 6 * (zNA (i1.toInt = 1 ∧ 1 < (fk 0).toInt ∧ 0 ≤ a_.toInt ∧ a_.toInt < cr1_.toInt ∧ a_.toInt < 7 ∧ 0 ≤ b_.toInt ∧ b_.toInt < cr1_.toInt ∧ b_.toInt < 7 ∧ ¬ zBit inn1_ b_ = 0) mdB n4B (zPl cr1_ inn1_ k11_) - n4B); omega) (fun r_90 b1 H locs hw G => ?_)
          refine zAn2 hw ?_
          intro hbs9 h_89
          clear hw
          subst hbs9
          have G : zS T A s.heap s [z0_, wwA, wt, [zO10 xo t im mk rd po co tr wa wb_ fi cd], z1_, [zO0 wb_ m2_64 wy2_65 l1 pc2_66 a1_78 a2_79 a3_80 a4_81 a5_82 a6_83, zAr T 0 a1_78 7 g1_67, zAr T 0 a2_79 7 g2_68, zAr T 0 a3_80 7 f3B, zAr T 0 a4_81 (zMk mdB n4B (zPl cr1_ inn1_ k11_)) g4_69, zAr T 0 a5_82 (zMk mdB n4B (zPl cr1_ inn1_ k11_)) g5_70, zAr T 0 a6_83 (zMk mdB n4B (zPl cr1_ inn1_ k11_)) g6_71]] _ _ := G
          subst h_89
          refine lv_iload_n hx hb dX11_lot_68 rfl (lv_at hl 7 rfl) ?_
          refine lv_icmp_ne (tgt := 75) hx hb dX11_lot_69 (by decide) (fun c_91 => ?_) (fun c_91 => ?_)
          · have c_91n : ¬ (zEntry g5_70 (zMk mdB n4B (zPl cr1_ inn1_ k11_)) (nI i) a_ &&& 7).toInt = b_.toInt := fun q => c_91 ((fa_eq _ _).mpr q)
            refine lv_iinc (v := nI (i + 1)) (lv' := [(8, .int (nI (i + 1))), (7, .int u7), (6, .ref wb_), (5, .ref l1), (0, .ref xo), (1, .int i1), (2, .int a_), (3, .int b_), (4, .int w_)]) hx hb dX11_lot_75 hl (k := 0) rfl (z_inc i 1) (by decide) (zLvf_h rfl) (fun ls hl => ?_)
            refine lv_goto (tgt := 50) hx hb dX11_lot_78 (by decide) ?_
            have G := G.sub (bs' := [z0_, wwA, wt, [zO10 xo t im mk rd po co tr wa wb_ fi cd], [zO0 wb_ m2_64 wy2_65 l1 pc2_66 a1_78 a2_79 a3_80 a4_81 a5_82 a6_83, zAr T 0 a1_78 7 g1_67, zAr T 0 a2_79 7 g2_68, zAr T 0 a3_80 7 f3B, zAr T 0 a4_81 (zMk mdB n4B (zPl cr1_ inn1_ k11_)) g4_69, zAr T 0 a5_82 (zMk mdB n4B (zPl cr1_ inn1_ k11_)) g5_70, zAr T 0 a6_83 (zMk mdB n4B (zPl cr1_ inn1_ k11_)) g6_71], z1_]) [0, 1, 2, 3, 5, 4] rfl
            exact ih_50 (i + 1) u7 (show (i + 1) ≤ aPr (aW cr1_ inn1_ k11_) 7 from (by omega)) (show aPr (aW cr1_ inn1_ k11_) 7 - (i + 1) < aPr (aW cr1_ inn1_ k11_) 7 - i from by omega) _ _ ls G (lv_sub hl [0, 1, 2, 3, 4, 5, 6, 7, 8] rfl)
          · have c_91n : (zEntry g5_70 (zMk mdB n4B (zPl cr1_ inn1_ k11_)) (nI i) a_ &&& 7).toInt = b_.toInt := (fa_eq _ _).mp c_91
            refine lv_iinc (v := u7 + 1) (lv' := [(7, .int (u7 + 1)), (8, .int (nI i)), (6, .ref wb_), (5, .ref l1), (0, .ref xo), (1, .int i1), (2, .int a_), (3, .int b_), (4, .int w_)]) hx hb dX11_lot_72 hl (k := 1) rfl rfl (by decide) (zLvf_h rfl) (fun ls hl => ?_)
            refine lv_iinc (v := nI (i + 1)) (lv' := [(8, .int (nI (i + 1))), (7, .int (u7 + 1)), (6, .ref wb_), (5, .ref l1), (0, .ref xo), (1, .int i1), (2, .int a_), (3, .int b_), (4, .int w_)]) hx hb dX11_lot_75 hl (k := 1) rfl (z_inc i 1) (by decide) (zLvf_h rfl) (fun ls hl => ?_)
            refine lv_goto (tgt := 50) hx hb dX11_lot_78 (by decide) ?_
            have G := G.sub (bs' := [z0_, wwA, wt, [zO10 xo t im mk rd po co tr wa wb_ fi cd], [zO0 wb_ m2_64 wy2_65 l1 pc2_66 a1_78 a2_79 a3_80 a4_81 a5_82 a6_83, zAr T 0 a1_78 7 g1_67, zAr T 0 a2_79 7 g2_68, zAr T 0 a3_80 7 f3B, zAr T 0 a4_81 (zMk mdB n4B (zPl cr1_ inn1_ k11_)) g4_69, zAr T 0 a5_82 (zMk mdB n4B (zPl cr1_ inn1_ k11_)) g5_70, zAr T 0 a6_83 (zMk mdB n4B (zPl cr1_ inn1_ k11_)) g6_71], z1_]) [0, 1, 2, 3, 5, 4] rfl
            exact ih_50 (i + 1) (u7 + 1) (show (i + 1) ≤ aPr (aW cr1_ inn1_ k11_) 7 from (by omega)) (show aPr (aW cr1_ inn1_ k11_) 7 - (i + 1) < aPr (aW cr1_ inn1_ k11_) 7 - i from by omega) _ _ ls G (lv_sub hl [0, 1, 2, 3, 4, 5, 6, 7, 8] rfl)
      · have h_62 : (b_.toInt < 0 ∨ cr1_.toInt ≤ b_.toInt ∨ 7 ≤ b_.toInt ∨ zBit inn1_ b_ = 0) := h_62
        refine lv_if_ne (tgt := 35) hx hb dX11_lot_30 (by decide) (fun q => absurd (by decide) q) (fun _ => ?_)
        refine lv_iconst (v := (-1)) hx hb dX11_lot_33 (by decide) ?_
        have G := G.sub (bs' := [[zO10 xo t im mk rd po co tr wa wb_ fi cd], wt, z0_, z1_, wwA, wwB]) [0, 4, 1, 5, 2, 3] rfl
        exact z_back hQz_ (z_iret C hr hlocks G (Nat.le_of_ble_eq_true rfl) (by omega) dX11_lot_34 ⟨laA, mdA, wyA, pc_A, f1A, f2A, f3A, f4A, f5A, f6A, n4A, wwA, laB, mdB, wyB, pc_B, f1B, f2B, f3B, f4B, f5B, f6B, n4B, wwB, rfl, hwwA, hmdA, hwmA, (by first | exact hNAo.symm | exact (zNA_n (by first | omega | grind)).symm), hpwA, (fun q => q), hTbA, hwwB, hmdB, hwmB, (by first | exact hNAo.symm | exact (zNA_n (by first | omega | grind)).symm), hpwB, (fun q => q), hTbB⟩)
    · have h_55 : (a_.toInt < 0 ∨ cr1_.toInt ≤ a_.toInt ∨ 7 ≤ a_.toInt) := h_55
      refine lv_if_eq (tgt := 33) hx hb dX11_lot_21 (by decide) (fun _ => ?_) (fun q => absurd (by decide) q)
      refine lv_iconst (v := (-1)) hx hb dX11_lot_33 (by decide) ?_
      have G := G.sub (bs' := [[zO10 xo t im mk rd po co tr wa wb_ fi cd], wt, z0_, z1_, wwA, wwB]) [0, 4, 1, 5, 2, 3] rfl
      exact z_back hQz_ (z_iret C hr hlocks G (Nat.le_of_ble_eq_true rfl) (by omega) dX11_lot_34 ⟨laA, mdA, wyA, pc_A, f1A, f2A, f3A, f4A, f5A, f6A, n4A, wwA, laB, mdB, wyB, pc_B, f1B, f2B, f3B, f4B, f5B, f6B, n4B, wwB, rfl, hwwA, hmdA, hwmA, (by first | exact hNAo.symm | exact (zNA_n (by first | omega | grind)).symm), hpwA, (fun q => q), hTbA, hwwB, hmdB, hwmB, (by first | exact hNAo.symm | exact (zNA_n (by first | omega | grind)).symm), hpwB, (fun q => q), hTbB⟩)
set_option maxHeartbeats 4000000 in
set_option maxRecDepth 100000 in
/-- c_t_mean -/
theorem c_t_mean (l : Launch) (T : zTy) (xo : Nat) (t : Nat) (im : Nat) (mk : Nat) (rd : Nat) (po : Nat) (co : Nat) (tr : Nat) (wa : Nat) (wb_ : Nat) (fi : Nat) (cd : Nat) (l0 : Nat) (l1 : Nat) (d0 : Nat) (d1 : Nat) (g0 : Nat) (g1 : Nat) (ln : Int32) (fl : Int32) (pl : Int32) (ft : Nat → Int32) (fk : Nat → Int32) (wt : va_W) (cr0_ : Int32) (inn0_ : Int32) (k10_ : Nat → Int32) (k20_ : Nat → Int32) (k30_ : Nat → Int32) (k40_ : Nat → Int32) (z0_ : va_W) (cr1_ : Int32) (inn1_ : Int32) (k11_ : Nat → Int32) (k21_ : Nat → Int32) (k31_ : Nat → Int32) (k41_ : Nat → Int32) (z1_ : va_W) (laA : Nat) (mdA : Int32) (wyA : Int32) (pc_A : Int32) (f1A : Nat → Int32) (f2A : Nat → Int32) (f3A : Nat → Int32) (f4A : Nat → Int32) (f5A : Nat → Int32) (f6A : Nat → Int32) (n4A : Nat) (wwA : va_W) (laB : Nat) (mdB : Int32) (wyB : Int32) (pc_B : Int32) (f1B : Nat → Int32) (f2B : Nat → Int32) (f3B : Nat → Int32) (f4B : Nat → Int32) (f5B : Nat → Int32) (f6B : Nat → Int32) (n4B : Nat) (wwB : va_W) (i1 : Int32) (a_ : Int32) (w_ : Int32) (ht : bTold T t l0 l1 d0 d1 g0 g1 ln fl pl ft fk wt) (hK : zKT fk) (hz0_ : bLand T l0 cr0_ inn0_ k10_ k20_ k30_ k40_ z0_) (hI0_ : zLI cr0_ k10_ k30_) (hz1_ : bLand T l1 cr1_ inn1_ k11_ k21_ k31_ k41_ z1_) (hI1_ : zLI cr1_ k11_ k31_) (hwwA : bWays T wa laA mdA wyA pc_A f1A f2A f3A f4A f5A f6A n4A wwA) (hpwA : zPw n4A) (hmdA : mdA = 0 ∨ laA = l0) (hwmA : 0 ≤ wyA.toInt ∧ wyA.toInt ≤ 16384) (hTbA : mdA = 0 ∨ zTab cr0_ inn0_ k10_ k20_ wyA pc_A f1A f2A f5A n4A) (hLq0 : zLq cr0_ k10_ k20_) (hwwB : bWays T wb_ laB mdB wyB pc_B f1B f2B f3B f4B f5B f6B n4B wwB) (hpwB : zPw n4B) (hmdB : mdB = 0 ∨ laB = l1) (hwmB : 0 ≤ wyB.toInt ∧ wyB.toInt ≤ 16384) (hTbB : mdB = 0 ∨ zTab cr1_ inn1_ k11_ k21_ wyB pc_B f1B f2B f5B n4B) (hLq1 : zLq cr1_ k11_ k21_) : zMi l T yX11_mean cX11_mean 8 (some .int) 7 3 (6 * (zNA (i1.toInt = 0 ∧ 0 < (fk 0).toInt ∧ 0 ≤ a_.toInt ∧ a_.toInt < cr0_.toInt ∧ a_.toInt < 7) mdA n4A (zPl cr0_ inn0_ k10_) - n4A) + 6 * (zNA (i1.toInt = 1 ∧ 1 < (fk 0).toInt ∧ 0 ≤ a_.toInt ∧ a_.toInt < cr1_.toInt ∧ a_.toInt < 7) mdB n4B (zPl cr1_ inn1_ k11_) - n4B)) [.ref xo, .int i1, .int a_, .int w_] [[zO10 xo t im mk rd po co tr wa wb_ fi cd], wt, z0_, z1_, wwA, wwB] (fun (r : Int32) bs => ∃ (laA_2 : Nat) (mdA_2 : Int32) (wyA_2 : Int32) (pc_A_2 : Int32) (f1A_2 : Nat → Int32) (f2A_2 : Nat → Int32) (f3A_2 : Nat → Int32) (f4A_2 : Nat → Int32) (f5A_2 : Nat → Int32) (f6A_2 : Nat → Int32) (n4A_2 : Nat) (wwA_2 : va_W) (laB_2 : Nat) (mdB_2 : Int32) (wyB_2 : Int32) (pc_B_2 : Int32) (f1B_2 : Nat → Int32) (f2B_2 : Nat → Int32) (f3B_2 : Nat → Int32) (f4B_2 : Nat → Int32) (f5B_2 : Nat → Int32) (f6B_2 : Nat → Int32) (n4B_2 : Nat) (wwB_2 : va_W), bs = [[zO10 xo t im mk rd po co tr wa wb_ fi cd], wt, z0_, z1_, wwA_2, wwB_2] ∧ bWays T wa laA_2 mdA_2 wyA_2 pc_A_2 f1A_2 f2A_2 f3A_2 f4A_2 f5A_2 f6A_2 n4A_2 wwA_2 ∧ (mdA_2 = 0 ∨ laA_2 = l0) ∧ (0 ≤ wyA_2.toInt ∧ wyA_2.toInt ≤ 16384) ∧ n4A_2 = zNA (i1.toInt = 0 ∧ 0 < (fk 0).toInt ∧ 0 ≤ a_.toInt ∧ a_.toInt < cr0_.toInt ∧ a_.toInt < 7) mdA n4A (zPl cr0_ inn0_ k10_) ∧ zPw n4A_2 ∧ (¬ mdA = 0 → ¬ mdA_2 = 0) ∧ (mdA_2 = 0 ∨ zTab cr0_ inn0_ k10_ k20_ wyA_2 pc_A_2 f1A_2 f2A_2 f5A_2 n4A_2) ∧ bWays T wb_ laB_2 mdB_2 wyB_2 pc_B_2 f1B_2 f2B_2 f3B_2 f4B_2 f5B_2 f6B_2 n4B_2 wwB_2 ∧ (mdB_2 = 0 ∨ laB_2 = l1) ∧ (0 ≤ wyB_2.toInt ∧ wyB_2.toInt ≤ 16384) ∧ n4B_2 = zNA (i1.toInt = 1 ∧ 1 < (fk 0).toInt ∧ 0 ≤ a_.toInt ∧ a_.toInt < cr1_.toInt ∧ a_.toInt < 7) mdB n4B (zPl cr1_ inn1_ k11_) ∧ zPw n4B_2 ∧ (¬ mdB = 0 → ¬ mdB_2 = 0) ∧ (mdB_2 = 0 ∨ zTab cr1_ inn1_ k11_ k21_ wyB_2 pc_B_2 f1B_2 f2B_2 f5B_2 n4B_2)) := by
  refine zMi_of (own := RX11) (by decide) rfl (Nat.le_of_ble_eq_true rfl) ?_
  intro p e s m args below meth c A ls C hr hlocks hnm hAe G hl
  refine zHide (fun Qz_ hQz_ => ?_)
  have hx := C.1
  have hb := C.2.1
  replace hmdA : zHd (mdA = 0 ∨ laA = l0) := hmdA
  replace hTbA : zHd (mdA = 0 ∨ zTab cr0_ inn0_ k10_ k20_ wyA pc_A f1A f2A f5A n4A) := hTbA
  replace hmdB : zHd (mdB = 0 ∨ laB = l1) := hmdB
  replace hTbB : zHd (mdB = 0 ∨ zTab cr1_ inn1_ k11_ k21_ wyB pc_B f1B f2B f5B n4B) := hTbB
  have hl : lv_has ls 8 [(0, .ref xo), (1, .int i1), (2, .int a_), (3, .int w_)] := hl
  refine lv_aload_n hx hb dX11_mean_0 rfl (lv_at hl 0 rfl) ?_
  refine z_get C G clX11 0 rfl 0 (by decide) m_fl_RX11_10 rfl dX11_mean_1 ?_
  refine lv_iload_n hx hb dX11_mean_4 rfl (lv_at hl 1 rfl) ?_
  refine z_Vq (bc := [wt]) (br := [[zO10 xo t im mk rd po co tr wa wb_ fi cd], z0_, z1_, wwA, wwB]) (As := [.int i1]) (rest := []) C G (c_landAt l T t l0 l1 d0 d1 g0 g1 ln fl pl ft fk wt i1 ht) (kV_RX11_121 C.2.2.2.2 (Nat.le_of_ble_eq_true rfl) (Nat.le_of_ble_eq_true rfl)) [1] [1] rfl rfl (ci := 8) (qc := (RX9, TX9, 8)) rfl rfl (List.mem_flatten.mpr ⟨_, List.mem_of_getElem? (i := 0) rfl, (bTold_mem ht).choose_spec⟩) rfl rfl hl.1 dX11_mean_5 (Nat.le_of_ble_eq_true rfl) (by show _ + 0 ≤ 6 * (zNA (i1.toInt = 0 ∧ 0 < (fk 0).toInt ∧ 0 ≤ a_.toInt ∧ a_.toInt < cr0_.toInt ∧ a_.toInt < 7) mdA n4A (zPl cr0_ inn0_ k10_) - n4A) + 6 * (zNA (i1.toInt = 1 ∧ 1 < (fk 0).toInt ∧ 0 ≤ a_.toInt ∧ a_.toInt < cr1_.toInt ∧ a_.toInt < 7) mdB n4B (zPl cr1_ inn1_ k11_) - n4B); omega) (fun r_2 b1 H locs hw G => ?_)
  refine zAn2 hw ?_
  intro hbs9 hc_1
  clear hw
  subst hbs9
  have G : zS T A s.heap s [[zO10 xo t im mk rd po co tr wa wb_ fi cd], z0_, z1_, wwA, wwB, wt] _ _ := G
  rcases hc_1 with ⟨rfl, h_3⟩ | ⟨rfl, h_4, h_5⟩ | ⟨rfl, h_6, h_7⟩
  · have h_3 : (i1.toInt < 0 ∨ (fk 0).toInt ≤ i1.toInt ∨ 2 ≤ i1.toInt) := h_3
    refine lv_astoreN (lv' := [(4, .null), (0, .ref xo), (1, .int i1), (2, .int a_), (3, .int w_)]) hx hb dX11_mean_8 hl (by decide) (zLvf_h rfl) (fun ls hl => ?_)
    refine lv_aloadN hx hb dX11_mean_10 (lv_at hl 0 rfl) ?_
    refine lv_ifnullN (tgt := 24) hx hb dX11_mean_12 (by decide) ?_
    refine lv_iconst (v := (-1)) hx hb dX11_mean_24 (by decide) ?_
    have G := G.sub (bs' := [[zO10 xo t im mk rd po co tr wa wb_ fi cd], wt, z0_, z1_, wwA, wwB]) [0, 5, 1, 2, 3, 4] rfl
    exact z_back hQz_ (z_iret C hr hlocks G (Nat.le_of_ble_eq_true rfl) (by omega) dX11_mean_25 ⟨laA, mdA, wyA, pc_A, f1A, f2A, f3A, f4A, f5A, f6A, n4A, wwA, laB, mdB, wyB, pc_B, f1B, f2B, f3B, f4B, f5B, f6B, n4B, wwB, rfl, hwwA, hmdA, hwmA, (by first | exact hNAo.symm | exact (zNA_n (by first | omega | grind)).symm), hpwA, (fun q => q), hTbA, hwwB, hmdB, hwmB, (by first | exact hNAo.symm | exact (zNA_n (by first | omega | grind)).symm), hpwB, (fun q => q), hTbB⟩)
  · have h_4 : i1.toInt = 0 := h_4
    have h_5 : 0 < (fk 0).toInt := h_5
    refine lv_astore (lv' := [(4, .ref l0), (0, .ref xo), (1, .int i1), (2, .int a_), (3, .int w_)]) hx hb dX11_mean_8 hl (by decide) (zLvf_h rfl) (fun ls hl => ?_)
    refine lv_aload hx hb dX11_mean_10 (lv_at hl 0 rfl) ?_
    refine lv_ifnull hx hb dX11_mean_12 ?_
    refine lv_aload hx hb dX11_mean_15 (lv_at hl 0 rfl) ?_
    refine lv_iload_n hx hb dX11_mean_17 rfl (lv_at hl 3 rfl) ?_
    refine z_Vi (bc := [z0_]) (br := [[zO10 xo t im mk rd po co tr wa wb_ fi cd], z1_, wwA, wwB, wt]) (As := [.int a_]) (rest := []) C G (c_has l T l0 cr0_ inn0_ k10_ k20_ k30_ k40_ z0_ a_ hz0_) (kV_RX11_160 C.2.2.2.2 (Nat.le_of_ble_eq_true rfl) (Nat.le_of_ble_eq_true rfl)) [1] [1] rfl rfl (ci := 4) (qc := (RX4, TX4, 6)) rfl rfl (List.mem_flatten.mpr ⟨_, List.mem_of_getElem? (i := 0) rfl, (bLand_mem hz0_).choose_spec⟩) rfl rfl hl.1 dX11_mean_18 (Nat.le_of_ble_eq_true rfl) (by show _ + 0 ≤ 6 * (zNA (i1.toInt = 0 ∧ 0 < (fk 0).toInt ∧ 0 ≤ a_.toInt ∧ a_.toInt < cr0_.toInt ∧ a_.toInt < 7) mdA n4A (zPl cr0_ inn0_ k10_) - n4A) + 6 * (zNA (i1.toInt = 1 ∧ 1 < (fk 0).toInt ∧ 0 ≤ a_.toInt ∧ a_.toInt < cr1_.toInt ∧ a_.toInt < 7) mdB n4B (zPl cr1_ inn1_ k11_) - n4B); omega) (fun r_9 b1 H locs hw G => ?_)
    refine zAn2 hw ?_
    intro hbs9 hc_8
    clear hw
    subst hbs9
    have G : zS T A s.heap s [[zO10 xo t im mk rd po co tr wa wb_ fi cd], z1_, wwA, wwB, wt, z0_] _ _ := G
    rcases hc_8 with ⟨rfl, h_10, h_11, h_12⟩ | ⟨rfl, h_13⟩
    · have h_10 : 0 ≤ a_.toInt := h_10
      have h_11 : a_.toInt < cr0_.toInt := h_11
      have h_12 : a_.toInt < 7 := h_12
      refine lv_if_ne (tgt := 26) hx hb dX11_mean_21 (by decide) (fun _ => ?_) (fun q => absurd q (by decide))
      refine lv_aload_n hx hb dX11_mean_26 rfl (lv_at hl 1 rfl) ?_
      refine lv_iload_n hx hb dX11_mean_27 rfl (lv_at hl 2 rfl) ?_
      refine lv_aload hx hb dX11_mean_28 (lv_at hl 0 rfl) ?_
      have hNAm : zNA (i1.toInt = 0 ∧ 0 < (fk 0).toInt ∧ 0 ≤ a_.toInt ∧ a_.toInt < cr0_.toInt ∧ a_.toInt < 7) mdA n4A (zPl cr0_ inn0_ k10_) = zMk mdA n4A (zPl cr0_ inn0_ k10_) := zNA_y (by first | omega | (repeat' (first | omega | assumption | constructor)))
      have hNAo : zNA (i1.toInt = 1 ∧ 1 < (fk 0).toInt ∧ 0 ≤ a_.toInt ∧ a_.toInt < cr1_.toInt ∧ a_.toInt < 7) mdB n4B (zPl cr1_ inn1_ k11_) = n4B := zNA_n (by omega)
      have hn9 : zMk mdA n4A (zPl cr0_ inn0_ k10_) ≤ 131072 := zPw_le (zMk_pw hpwA)
      refine z_Vq (bc := [[zO10 xo t im mk rd po co tr wa wb_ fi cd], wwA, z0_]) (br := [z1_, wwB, wt]) (As := [.int i1, .ref l0]) (rest := []) C G (c_f_waysInA l T xo t im mk rd po co tr wa wb_ fi cd i1 laA mdA wyA pc_A f1A f2A f3A f4A f5A f6A n4A wwA l0 cr0_ inn0_ k10_ k20_ k30_ k40_ z0_ hwwA hz0_ hI0_ hpwA hmdA (kaOk hI0_ hLq0).1 hTbA (by omega)) (kV_RX11_235 C.2.2.2.2 (Nat.le_of_ble_eq_true rfl) (Nat.le_of_ble_eq_true rfl)) [0, 2, 5] [0, 1, 2] rfl rfl (ci := 10) (qc := (RX11, TX11, 11)) rfl rfl (List.mem_flatten.mpr ⟨_, List.mem_of_getElem? (i := 0) rfl, List.mem_cons_self⟩) rfl rfl hl.1 dX11_mean_30 (Nat.le_of_ble_eq_true rfl) (by show _ + (6 * (zMk mdA n4A (zPl cr0_ inn0_ k10_) - n4A)) ≤ 6 * (zNA (i1.toInt = 0 ∧ 0 < (fk 0).toInt ∧ 0 ≤ a_.toInt ∧ a_.toInt < cr0_.toInt ∧ a_.toInt < 7) mdA n4A (zPl cr0_ inn0_ k10_) - n4A) + 6 * (zNA (i1.toInt = 1 ∧ 1 < (fk 0).toInt ∧ 0 ≤ a_.toInt ∧ a_.toInt < cr1_.toInt ∧ a_.toInt < 7) mdB n4B (zPl cr1_ inn1_ k11_) - n4B); omega) (fun r_28 b1 H locs hw G => ?_)
      refine zEx9 hw ?_
      intro w2_14 m2_15 wy2_16 pc2_17 g1_18 g2_19 g4_20 g5_21 g6_22
      refine zCu6 ?_
      intro hbs9 h_23 h_24 h_25 h_26 h_27
      clear hw
      subst hbs9
      have G : zS T A s.heap s [z1_, wwB, wt, [zO10 xo t im mk rd po co tr wa wb_ fi cd], w2_14, z0_] _ _ := G
      subst h_23
      have hwy9 : 0 ≤ wy2_16.toInt ∧ wy2_16.toInt ≤ 16384 := by have q9 := zWy_in (inn := inn0_) hI0_; rw [h_25]; exact ⟨by omega, q9.2⟩
      have hp79 : aPr (aW cr0_ inn0_ k10_) 7 ≤ 16384 := aPr_7 hI0_
      have hwN9 : wy2_16 = nI (aPr (aW cr0_ inn0_ k10_) 7) := h_25.trans (zWy_z hI0_)
      have hwT9 : wy2_16.toInt = ((aPr (aW cr0_ inn0_ k10_) 7 : Nat) : Int) := by rw [hwN9, nI_toInt (by omega)]
      have hOk9 := (kaOk (inn := inn0_) hI0_ hLq0).1
      have hc79 := hI0_.1
      refine lv_astore (lv' := [(5, .ref wa), (4, .ref l0), (0, .ref xo), (1, .int i1), (2, .int a_), (3, .int w_)]) hx hb dX11_mean_33 hl (by decide) (zLvf_h rfl) (fun ls hl => ?_)
      refine lv_iconst (v := 0) hx hb dX11_mean_35 (by decide) ?_
      refine lv_istore (lv' := [(6, .int 0), (5, .ref wa), (4, .ref l0), (0, .ref xo), (1, .int i1), (2, .int a_), (3, .int w_)]) hx hb dX11_mean_36 hl (by decide) (zLvf_h rfl) (fun ls hl => ?_)
      refine lv_iconst (v := 0) hx hb dX11_mean_38 (by decide) ?_
      refine lv_istore (lv' := [(7, .int 0), (6, .int 0), (5, .ref wa), (4, .ref l0), (0, .ref xo), (1, .int i1), (2, .int a_), (3, .int w_)]) hx hb dX11_mean_39 hl (by decide) (zLvf_h rfl) (fun ls hl => ?_)
      refine zEx6 h_24 ?_
      intro a1_29 a2_30 a3_31 a4_32 a5_33 a6_34 hbs9
      clear h_24
      subst hbs9
      have G : zS T A s.heap s [z1_, wwB, wt, [zO10 xo t im mk rd po co tr wa wb_ fi cd], [zO0 wa m2_15 wy2_16 l0 pc2_17 a1_29 a2_30 a3_31 a4_32 a5_33 a6_34], [zAr T 0 a1_29 7 g1_18], [zAr T 0 a2_30 7 g2_19], [zAr T 0 a3_31 7 f3A], [zAr T 0 a4_32 (zMk mdA n4A (zPl cr0_ inn0_ k10_)) g4_20], [zAr T 0 a5_33 (zMk mdA n4A (zPl cr0_ inn0_ k10_)) g5_21], [zAr T 0 a6_34 (zMk mdA n4A (zPl cr0_ inn0_ k10_)) g6_22], z0_] _ _ := G.re rfl
      have hw_35 : bWays T wa l0 m2_15 wy2_16 pc2_17 g1_18 g2_19 f3A g4_20 g5_21 g6_22 (zMk mdA n4A (zPl cr0_ inn0_ k10_)) [zO0 wa m2_15 wy2_16 l0 pc2_17 a1_29 a2_30 a3_31 a4_32 a5_33 a6_34, zAr T 0 a1_29 7 g1_18, zAr T 0 a2_30 7 g2_19, zAr T 0 a3_31 7 f3A, zAr T 0 a4_32 (zMk mdA n4A (zPl cr0_ inn0_ k10_)) g4_20, zAr T 0 a5_33 (zMk mdA n4A (zPl cr0_ inn0_ k10_)) g5_21, zAr T 0 a6_34 (zMk mdA n4A (zPl cr0_ inn0_ k10_)) g6_22] := ⟨a1_29, a2_30, a3_31, a4_32, a5_33, a6_34, rfl⟩
      have G : zS T A s.heap s [z1_, wwB, wt, [zO10 xo t im mk rd po co tr wa wb_ fi cd], [zO0 wa m2_15 wy2_16 l0 pc2_17 a1_29 a2_30 a3_31 a4_32 a5_33 a6_34, zAr T 0 a1_29 7 g1_18, zAr T 0 a2_30 7 g2_19, zAr T 0 a3_31 7 f3A, zAr T 0 a4_32 (zMk mdA n4A (zPl cr0_ inn0_ k10_)) g4_20, zAr T 0 a5_33 (zMk mdA n4A (zPl cr0_ inn0_ k10_)) g5_21, zAr T 0 a6_34 (zMk mdA n4A (zPl cr0_ inn0_ k10_)) g6_22], z0_] _ _ := G.re rfl
      refine z_lp2 (T := T) 41 (fun (i : Nat) (u6 : Int32) => [z1_, wwB, wt, [zO10 xo t im mk rd po co tr wa wb_ fi cd], [zO0 wa m2_15 wy2_16 l0 pc2_17 a1_29 a2_30 a3_31 a4_32 a5_33 a6_34, zAr T 0 a1_29 7 g1_18, zAr T 0 a2_30 7 g2_19, zAr T 0 a3_31 7 f3A, zAr T 0 a4_32 (zMk mdA n4A (zPl cr0_ inn0_ k10_)) g4_20, zAr T 0 a5_33 (zMk mdA n4A (zPl cr0_ inn0_ k10_)) g5_21, zAr T 0 a6_34 (zMk mdA n4A (zPl cr0_ inn0_ k10_)) g6_22], z0_]) (fun (i : Nat) (u6 : Int32) => [(7, .int (nI i)), (6, .int u6), (5, .ref wa), (4, .ref l0), (0, .ref xo), (1, .int i1), (2, .int a_), (3, .int w_)]) (fun (i : Nat) (u6 : Int32) => i ≤ aPr (aW cr0_ inn0_ k10_) 7) (fun (i : Nat) (u6 : Int32) => aPr (aW cr0_ inn0_ k10_) 7 - i) ?_ 0 0 (show 0 ≤ aPr (aW cr0_ inn0_ k10_) 7 from (Nat.zero_le _)) G (lv_sub hl [0, 1, 2, 3, 4, 5, 6, 7] rfl)
      intro i u6 hi ih_41 H locs ls G hl
      replace hi : i ≤ aPr (aW cr0_ inn0_ k10_) 7 := hi
      replace G : zS T A s.heap s [z1_, wwB, wt, [zO10 xo t im mk rd po co tr wa wb_ fi cd], [zO0 wa m2_15 wy2_16 l0 pc2_17 a1_29 a2_30 a3_31 a4_32 a5_33 a6_34, zAr T 0 a1_29 7 g1_18, zAr T 0 a2_30 7 g2_19, zAr T 0 a3_31 7 f3A, zAr T 0 a4_32 (zMk mdA n4A (zPl cr0_ inn0_ k10_)) g4_20, zAr T 0 a5_33 (zMk mdA n4A (zPl cr0_ inn0_ k10_)) g5_21, zAr T 0 a6_34 (zMk mdA n4A (zPl cr0_ inn0_ k10_)) g6_22], z0_] _ _ := G
      replace hl : lv_has ls 8 [(7, .int (nI i)), (6, .int u6), (5, .ref wa), (4, .ref l0), (0, .ref xo), (1, .int i1), (2, .int a_), (3, .int w_)] := hl
      refine lv_iload hx hb dX11_mean_41 (lv_at hl 0 rfl) ?_
      refine lv_aload hx hb dX11_mean_43 (lv_at hl 2 rfl) ?_
      have G : zS T A s.heap s [z1_, wwB, wt, [zO10 xo t im mk rd po co tr wa wb_ fi cd], [zO0 wa m2_15 wy2_16 l0 pc2_17 a1_29 a2_30 a3_31 a4_32 a5_33 a6_34], [zAr T 0 a1_29 7 g1_18], [zAr T 0 a2_30 7 g2_19], [zAr T 0 a3_31 7 f3A], [zAr T 0 a4_32 (zMk mdA n4A (zPl cr0_ inn0_ k10_)) g4_20], [zAr T 0 a5_33 (zMk mdA n4A (zPl cr0_ inn0_ k10_)) g5_21], [zAr T 0 a6_34 (zMk mdA n4A (zPl cr0_ inn0_ k10_)) g6_22], z0_] _ _ := G.re rfl
      refine z_get C G clX0 4 rfl 1 (by decide) m_fl_RX11_257 rfl dX11_mean_45 ?_
      refine lv_icmp_ge (tgt := 88) hx hb dX11_mean_48 (by decide) (fun c_36 => ?_) (fun c_36 => ?_)
      · have c_36n : wy2_16.toInt ≤ (i : Int) := by have q := (fa_le _ _).mp c_36; rw [nI_toInt (n := i) (by omega)] at q; exact q
        refine lv_iload hx hb dX11_mean_88 (lv_at hl 1 rfl) ?_
        refine lv_aload hx hb dX11_mean_90 (lv_at hl 2 rfl) ?_
        refine z_get C G clX0 4 rfl 1 (by decide) m_fl_RX11_257 rfl dX11_mean_92 ?_
        refine lv_iload_n hx hb dX11_mean_95 rfl (lv_at hl 7 rfl) ?_
        refine z_Si (bc := []) (br := [z1_, wwB, wt, [zO10 xo t im mk rd po co tr wa wb_ fi cd], [zO0 wa m2_15 wy2_16 l0 pc2_17 a1_29 a2_30 a3_31 a4_32 a5_33 a6_34], [zAr T 0 a1_29 7 g1_18], [zAr T 0 a2_30 7 g2_19], [zAr T 0 a3_31 7 f3A], [zAr T 0 a4_32 (zMk mdA n4A (zPl cr0_ inn0_ k10_)) g4_20], [zAr T 0 a5_33 (zMk mdA n4A (zPl cr0_ inn0_ k10_)) g5_21], [zAr T 0 a6_34 (zMk mdA n4A (zPl cr0_ inn0_ k10_)) g6_22], z0_]) (As := [.int u6, .int wy2_16, .int w_]) (rest := []) C G (c_inLeastTerms l T u6 wy2_16 w_) (kS_RX11_262 C.2.2.2.2 (Nat.le_of_ble_eq_true rfl) (Nat.le_of_ble_eq_true rfl)) [] [] rfl rfl rfl rfl hl.1 dX11_mean_96 (Nat.le_of_ble_eq_true rfl) (by show _ + 0 ≤ 6 * (zNA (i1.toInt = 0 ∧ 0 < (fk 0).toInt ∧ 0 ≤ a_.toInt ∧ a_.toInt < cr0_.toInt ∧ a_.toInt < 7) mdA n4A (zPl cr0_ inn0_ k10_) - n4A) + 6 * (zNA (i1.toInt = 1 ∧ 1 < (fk 0).toInt ∧ 0 ≤ a_.toInt ∧ a_.toInt < cr1_.toInt ∧ a_.toInt < 7) mdB n4B (zPl cr1_ inn1_ k11_) - n4B); omega) (fun r_37 b1 H locs hw G => ?_)
        obtain rfl := hw
        have G : zS T A s.heap s [z1_, wwB, wt, [zO10 xo t im mk rd po co tr wa wb_ fi cd], [zO0 wa m2_15 wy2_16 l0 pc2_17 a1_29 a2_30 a3_31 a4_32 a5_33 a6_34], [zAr T 0 a1_29 7 g1_18], [zAr T 0 a2_30 7 g2_19], [zAr T 0 a3_31 7 f3A], [zAr T 0 a4_32 (zMk mdA n4A (zPl cr0_ inn0_ k10_)) g4_20], [zAr T 0 a5_33 (zMk mdA n4A (zPl cr0_ inn0_ k10_)) g5_21], [zAr T 0 a6_34 (zMk mdA n4A (zPl cr0_ inn0_ k10_)) g6_22], z0_] _ _ := G
        have hw_38 : bWays T wa l0 m2_15 wy2_16 pc2_17 g1_18 g2_19 f3A g4_20 g5_21 g6_22 (zMk mdA n4A (zPl cr0_ inn0_ k10_)) [zO0 wa m2_15 wy2_16 l0 pc2_17 a1_29 a2_30 a3_31 a4_32 a5_33 a6_34, zAr T 0 a1_29 7 g1_18, zAr T 0 a2_30 7 g2_19, zAr T 0 a3_31 7 f3A, zAr T 0 a4_32 (zMk mdA n4A (zPl cr0_ inn0_ k10_)) g4_20, zAr T 0 a5_33 (zMk mdA n4A (zPl cr0_ inn0_ k10_)) g5_21, zAr T 0 a6_34 (zMk mdA n4A (zPl cr0_ inn0_ k10_)) g6_22] := ⟨a1_29, a2_30, a3_31, a4_32, a5_33, a6_34, rfl⟩
        have G : zS T A s.heap s [z1_, wwB, wt, [zO10 xo t im mk rd po co tr wa wb_ fi cd], [zO0 wa m2_15 wy2_16 l0 pc2_17 a1_29 a2_30 a3_31 a4_32 a5_33 a6_34, zAr T 0 a1_29 7 g1_18, zAr T 0 a2_30 7 g2_19, zAr T 0 a3_31 7 f3A, zAr T 0 a4_32 (zMk mdA n4A (zPl cr0_ inn0_ k10_)) g4_20, zAr T 0 a5_33 (zMk mdA n4A (zPl cr0_ inn0_ k10_)) g5_21, zAr T 0 a6_34 (zMk mdA n4A (zPl cr0_ inn0_ k10_)) g6_22], z0_] _ _ := G.re rfl
        have G := G.sub (bs' := [[zO10 xo t im mk rd po co tr wa wb_ fi cd], wt, z0_, z1_, [zO0 wa m2_15 wy2_16 l0 pc2_17 a1_29 a2_30 a3_31 a4_32 a5_33 a6_34, zAr T 0 a1_29 7 g1_18, zAr T 0 a2_30 7 g2_19, zAr T 0 a3_31 7 f3A, zAr T 0 a4_32 (zMk mdA n4A (zPl cr0_ inn0_ k10_)) g4_20, zAr T 0 a5_33 (zMk mdA n4A (zPl cr0_ inn0_ k10_)) g5_21, zAr T 0 a6_34 (zMk mdA n4A (zPl cr0_ inn0_ k10_)) g6_22], wwB]) [3, 2, 5, 0, 4, 1] rfl
        exact z_back hQz_ (z_iret C hr hlocks G (Nat.le_of_ble_eq_true rfl) (by omega) dX11_mean_99 ⟨l0, m2_15, wy2_16, pc2_17, g1_18, g2_19, f3A, g4_20, g5_21, g6_22, (zMk mdA n4A (zPl cr0_ inn0_ k10_)), ([zO0 wa m2_15 wy2_16 l0 pc2_17 a1_29 a2_30 a3_31 a4_32 a5_33 a6_34, zAr T 0 a1_29 7 g1_18, zAr T 0 a2_30 7 g2_19, zAr T 0 a3_31 7 f3A, zAr T 0 a4_32 (zMk mdA n4A (zPl cr0_ inn0_ k10_)) g4_20, zAr T 0 a5_33 (zMk mdA n4A (zPl cr0_ inn0_ k10_)) g5_21, zAr T 0 a6_34 (zMk mdA n4A (zPl cr0_ inn0_ k10_)) g6_22]), laB, mdB, wyB, pc_B, f1B, f2B, f3B, f4B, f5B, f6B, n4B, wwB, rfl, hw_38, (Or.inr rfl), hwy9, hNAm.symm, (zMk_pw hpwA), (fun _ => h_26), (Or.inr h_27), hwwB, hmdB, hwmB, (by first | exact hNAo.symm | exact (zNA_n (by first | omega | grind)).symm), hpwB, (fun q => q), hTbB⟩)
      · have c_36n : ¬ wy2_16.toInt ≤ (i : Int) := fun q => c_36 ((fa_le _ _).mpr (by rw [nI_toInt (n := i) (by omega)]; exact q))
        refine lv_aload hx hb dX11_mean_51 (lv_at hl 3 rfl) ?_
        refine lv_aload hx hb dX11_mean_53 (lv_at hl 2 rfl) ?_
        refine lv_iload hx hb dX11_mean_55 (lv_at hl 0 rfl) ?_
        refine lv_iload_n hx hb dX11_mean_57 rfl (lv_at hl 6 rfl) ?_
        have hw_39 : bWays T wa l0 m2_15 wy2_16 pc2_17 g1_18 g2_19 f3A g4_20 g5_21 g6_22 (zMk mdA n4A (zPl cr0_ inn0_ k10_)) [zO0 wa m2_15 wy2_16 l0 pc2_17 a1_29 a2_30 a3_31 a4_32 a5_33 a6_34, zAr T 0 a1_29 7 g1_18, zAr T 0 a2_30 7 g2_19, zAr T 0 a3_31 7 f3A, zAr T 0 a4_32 (zMk mdA n4A (zPl cr0_ inn0_ k10_)) g4_20, zAr T 0 a5_33 (zMk mdA n4A (zPl cr0_ inn0_ k10_)) g5_21, zAr T 0 a6_34 (zMk mdA n4A (zPl cr0_ inn0_ k10_)) g6_22] := ⟨a1_29, a2_30, a3_31, a4_32, a5_33, a6_34, rfl⟩
        have G : zS T A s.heap s [z1_, wwB, wt, [zO10 xo t im mk rd po co tr wa wb_ fi cd], [zO0 wa m2_15 wy2_16 l0 pc2_17 a1_29 a2_30 a3_31 a4_32 a5_33 a6_34, zAr T 0 a1_29 7 g1_18, zAr T 0 a2_30 7 g2_19, zAr T 0 a3_31 7 f3A, zAr T 0 a4_32 (zMk mdA n4A (zPl cr0_ inn0_ k10_)) g4_20, zAr T 0 a5_33 (zMk mdA n4A (zPl cr0_ inn0_ k10_)) g5_21, zAr T 0 a6_34 (zMk mdA n4A (zPl cr0_ inn0_ k10_)) g6_22], z0_] _ _ := G.re rfl
        refine z_Vi (bc := [[zO0 wa m2_15 wy2_16 l0 pc2_17 a1_29 a2_30 a3_31 a4_32 a5_33 a6_34, zAr T 0 a1_29 7 g1_18, zAr T 0 a2_30 7 g2_19, zAr T 0 a3_31 7 f3A, zAr T 0 a4_32 (zMk mdA n4A (zPl cr0_ inn0_ k10_)) g4_20, zAr T 0 a5_33 (zMk mdA n4A (zPl cr0_ inn0_ k10_)) g5_21, zAr T 0 a6_34 (zMk mdA n4A (zPl cr0_ inn0_ k10_)) g6_22]]) (br := [z1_, wwB, wt, [zO10 xo t im mk rd po co tr wa wb_ fi cd], z0_]) (As := [.int (nI i), .int a_]) (rest := [.ref l0]) C G (c_where l T wa l0 m2_15 wy2_16 pc2_17 g1_18 g2_19 f3A g4_20 g5_21 g6_22 (zMk mdA n4A (zPl cr0_ inn0_ k10_)) ([zO0 wa m2_15 wy2_16 l0 pc2_17 a1_29 a2_30 a3_31 a4_32 a5_33 a6_34, zAr T 0 a1_29 7 g1_18, zAr T 0 a2_30 7 g2_19, zAr T 0 a3_31 7 f3A, zAr T 0 a4_32 (zMk mdA n4A (zPl cr0_ inn0_ k10_)) g4_20, zAr T 0 a5_33 (zMk mdA n4A (zPl cr0_ inn0_ k10_)) g5_21, zAr T 0 a6_34 (zMk mdA n4A (zPl cr0_ inn0_ k10_)) g6_22]) (nI i) a_ hw_39 (by first | with_reducible assumption | with_reducible rfl | omega | assumption | rfl)) (kV_RX11_260 C.2.2.2.2 (Nat.le_of_ble_eq_true rfl) (Nat.le_of_ble_eq_true rfl)) [4] [4] rfl rfl (ci := 0) (qc := (RX0, TX0, 10)) rfl rfl (List.mem_flatten.mpr ⟨_, List.mem_of_getElem? (i := 0) rfl, (bWays_mem hw_39).choose_spec⟩) rfl rfl hl.1 dX11_mean_58 (Nat.le_of_ble_eq_true rfl) (by show _ + 0 ≤ 6 * (zNA (i1.toInt = 0 ∧ 0 < (fk 0).toInt ∧ 0 ≤ a_.toInt ∧ a_.toInt < cr0_.toInt ∧ a_.toInt < 7) mdA n4A (zPl cr0_ inn0_ k10_) - n4A) + 6 * (zNA (i1.toInt = 1 ∧ 1 < (fk 0).toInt ∧ 0 ≤ a_.toInt ∧ a_.toInt < cr1_.toInt ∧ a_.toInt < 7) mdB n4B (zPl cr1_ inn1_ k11_) - n4B); omega) (fun r_41 b1 H locs hw G => ?_)
        refine zAn2 hw ?_
        intro hbs9 h_40
        clear hw
        subst hbs9
        have G : zS T A s.heap s [z1_, wwB, wt, [zO10 xo t im mk rd po co tr wa wb_ fi cd], z0_, [zO0 wa m2_15 wy2_16 l0 pc2_17 a1_29 a2_30 a3_31 a4_32 a5_33 a6_34, zAr T 0 a1_29 7 g1_18, zAr T 0 a2_30 7 g2_19, zAr T 0 a3_31 7 f3A, zAr T 0 a4_32 (zMk mdA n4A (zPl cr0_ inn0_ k10_)) g4_20, zAr T 0 a5_33 (zMk mdA n4A (zPl cr0_ inn0_ k10_)) g5_21, zAr T 0 a6_34 (zMk mdA n4A (zPl cr0_ inn0_ k10_)) g6_22]] _ _ := G
        subst h_40
        refine z_Vi (bc := [z0_]) (br := [z1_, wwB, wt, [zO10 xo t im mk rd po co tr wa wb_ fi cd], [zO0 wa m2_15 wy2_16 l0 pc2_17 a1_29 a2_30 a3_31 a4_32 a5_33 a6_34, zAr T 0 a1_29 7 g1_18, zAr T 0 a2_30 7 g2_19, zAr T 0 a3_31 7 f3A, zAr T 0 a4_32 (zMk mdA n4A (zPl cr0_ inn0_ k10_)) g4_20, zAr T 0 a5_33 (zMk mdA n4A (zPl cr0_ inn0_ k10_)) g5_21, zAr T 0 a6_34 (zMk mdA n4A (zPl cr0_ inn0_ k10_)) g6_22]]) (As := [.int (zEntry g5_21 (zMk mdA n4A (zPl cr0_ inn0_ k10_)) (nI i) a_ &&& 7)]) (rest := []) C G (c_isInn l T l0 cr0_ inn0_ k10_ k20_ k30_ k40_ z0_ (zEntry g5_21 (zMk mdA n4A (zPl cr0_ inn0_ k10_)) (nI i) a_ &&& 7) hz0_) (kV_RX11_174 C.2.2.2.2 (Nat.le_of_ble_eq_true rfl) (Nat.le_of_ble_eq_true rfl)) [4] [4] rfl rfl (ci := 4) (qc := (RX4, TX4, 6)) rfl rfl (List.mem_flatten.mpr ⟨_, List.mem_of_getElem? (i := 0) rfl, (bLand_mem hz0_).choose_spec⟩) rfl rfl hl.1 dX11_mean_61 (Nat.le_of_ble_eq_true rfl) (by show _ + 0 ≤ 6 * (zNA (i1.toInt = 0 ∧ 0 < (fk 0).toInt ∧ 0 ≤ a_.toInt ∧ a_.toInt < cr0_.toInt ∧ a_.toInt < 7) mdA n4A (zPl cr0_ inn0_ k10_) - n4A) + 6 * (zNA (i1.toInt = 1 ∧ 1 < (fk 0).toInt ∧ 0 ≤ a_.toInt ∧ a_.toInt < cr1_.toInt ∧ a_.toInt < 7) mdB n4B (zPl cr1_ inn1_ k11_) - n4B); omega) (fun r_43 b1 H locs hw G => ?_)
        refine zAn2 hw ?_
        intro hbs9 hc_42
        clear hw
        subst hbs9
        have G : zS T A s.heap s [z1_, wwB, wt, [zO10 xo t im mk rd po co tr wa wb_ fi cd], [zO0 wa m2_15 wy2_16 l0 pc2_17 a1_29 a2_30 a3_31 a4_32 a5_33 a6_34, zAr T 0 a1_29 7 g1_18, zAr T 0 a2_30 7 g2_19, zAr T 0 a3_31 7 f3A, zAr T 0 a4_32 (zMk mdA n4A (zPl cr0_ inn0_ k10_)) g4_20, zAr T 0 a5_33 (zMk mdA n4A (zPl cr0_ inn0_ k10_)) g5_21, zAr T 0 a6_34 (zMk mdA n4A (zPl cr0_ inn0_ k10_)) g6_22], z0_] _ _ := G
        rcases hc_42 with ⟨rfl, h_44, h_45, h_46, h_47⟩ | ⟨rfl, h_48⟩
        · have h_44 : 0 ≤ (zEntry g5_21 (zMk mdA n4A (zPl cr0_ inn0_ k10_)) (nI i) a_ &&& 7).toInt := h_44
          have h_45 : (zEntry g5_21 (zMk mdA n4A (zPl cr0_ inn0_ k10_)) (nI i) a_ &&& 7).toInt < cr0_.toInt := h_45
          have h_46 : (zEntry g5_21 (zMk mdA n4A (zPl cr0_ inn0_ k10_)) (nI i) a_ &&& 7).toInt < 7 := h_46
          have h_47 : ¬ zBit inn0_ (zEntry g5_21 (zMk mdA n4A (zPl cr0_ inn0_ k10_)) (nI i) a_ &&& 7) = 0 := h_47
          refine lv_if_ne (tgt := 69) hx hb dX11_mean_64 (by decide) (fun _ => ?_) (fun q => absurd q (by decide))
          refine lv_iload hx hb dX11_mean_69 (lv_at hl 1 rfl) ?_
          refine lv_aload hx hb dX11_mean_71 (lv_at hl 2 rfl) ?_
          refine lv_iload hx hb dX11_mean_73 (lv_at hl 0 rfl) ?_
          refine lv_iload_n hx hb dX11_mean_75 rfl (lv_at hl 6 rfl) ?_
          refine z_Vi (bc := [[zO0 wa m2_15 wy2_16 l0 pc2_17 a1_29 a2_30 a3_31 a4_32 a5_33 a6_34, zAr T 0 a1_29 7 g1_18, zAr T 0 a2_30 7 g2_19, zAr T 0 a3_31 7 f3A, zAr T 0 a4_32 (zMk mdA n4A (zPl cr0_ inn0_ k10_)) g4_20, zAr T 0 a5_33 (zMk mdA n4A (zPl cr0_ inn0_ k10_)) g5_21, zAr T 0 a6_34 (zMk mdA n4A (zPl cr0_ inn0_ k10_)) g6_22]]) (br := [z1_, wwB, wt, [zO10 xo t im mk rd po co tr wa wb_ fi cd], z0_]) (As := [.int (nI i), .int a_]) (rest := [.int u6]) C G (c_steps l T wa l0 m2_15 wy2_16 pc2_17 g1_18 g2_19 f3A g4_20 g5_21 g6_22 (zMk mdA n4A (zPl cr0_ inn0_ k10_)) ([zO0 wa m2_15 wy2_16 l0 pc2_17 a1_29 a2_30 a3_31 a4_32 a5_33 a6_34, zAr T 0 a1_29 7 g1_18, zAr T 0 a2_30 7 g2_19, zAr T 0 a3_31 7 f3A, zAr T 0 a4_32 (zMk mdA n4A (zPl cr0_ inn0_ k10_)) g4_20, zAr T 0 a5_33 (zMk mdA n4A (zPl cr0_ inn0_ k10_)) g5_21, zAr T 0 a6_34 (zMk mdA n4A (zPl cr0_ inn0_ k10_)) g6_22]) (nI i) a_ hw_39 (by first | with_reducible assumption | with_reducible rfl | omega | assumption | rfl)) (kV_RX11_266 C.2.2.2.2 (Nat.le_of_ble_eq_true rfl) (Nat.le_of_ble_eq_true rfl)) [4] [4] rfl rfl (ci := 0) (qc := (RX0, TX0, 10)) rfl rfl (List.mem_flatten.mpr ⟨_, List.mem_of_getElem? (i := 0) rfl, (bWays_mem hw_39).choose_spec⟩) rfl rfl hl.1 dX11_mean_76 (Nat.le_of_ble_eq_true rfl) (by show _ + 0 ≤ 6 * (zNA (i1.toInt = 0 ∧ 0 < (fk 0).toInt ∧ 0 ≤ a_.toInt ∧ a_.toInt < cr0_.toInt ∧ a_.toInt < 7) mdA n4A (zPl cr0_ inn0_ k10_) - n4A) + 6 * (zNA (i1.toInt = 1 ∧ 1 < (fk 0).toInt ∧ 0 ≤ a_.toInt ∧ a_.toInt < cr1_.toInt ∧ a_.toInt < 7) mdB n4B (zPl cr1_ inn1_ k11_) - n4B); omega) (fun r_50 b1 H locs hw G => ?_)
          refine zAn2 hw ?_
          intro hbs9 h_49
          clear hw
          subst hbs9
          have G : zS T A s.heap s [z1_, wwB, wt, [zO10 xo t im mk rd po co tr wa wb_ fi cd], z0_, [zO0 wa m2_15 wy2_16 l0 pc2_17 a1_29 a2_30 a3_31 a4_32 a5_33 a6_34, zAr T 0 a1_29 7 g1_18, zAr T 0 a2_30 7 g2_19, zAr T 0 a3_31 7 f3A, zAr T 0 a4_32 (zMk mdA n4A (zPl cr0_ inn0_ k10_)) g4_20, zAr T 0 a5_33 (zMk mdA n4A (zPl cr0_ inn0_ k10_)) g5_21, zAr T 0 a6_34 (zMk mdA n4A (zPl cr0_ inn0_ k10_)) g6_22]] _ _ := G
          subst h_49
          refine lv_iadd hx hb dX11_mean_79 ?_
          refine lv_istore (lv' := [(6, .int (u6 + (zEntry g5_21 (zMk mdA n4A (zPl cr0_ inn0_ k10_)) (nI i) a_ >>> (17 &&& 31)))), (7, .int (nI i)), (5, .ref wa), (4, .ref l0), (0, .ref xo), (1, .int i1), (2, .int a_), (3, .int w_)]) hx hb dX11_mean_80 hl (by decide) (zLvf_h rfl) (fun ls hl => ?_)
          refine lv_iinc (v := nI (i + 1)) (lv' := [(7, .int (nI (i + 1))), (6, .int (u6 + (zEntry g5_21 (zMk mdA n4A (zPl cr0_ inn0_ k10_)) (nI i) a_ >>> (17 &&& 31)))), (5, .ref wa), (4, .ref l0), (0, .ref xo), (1, .int i1), (2, .int a_), (3, .int w_)]) hx hb dX11_mean_82 hl (k := 1) rfl (z_inc i 1) (by decide) (zLvf_h rfl) (fun ls hl => ?_)
          refine lv_goto (tgt := 41) hx hb dX11_mean_85 (by decide) ?_
          have G := G.sub (bs' := [z1_, wwB, wt, [zO10 xo t im mk rd po co tr wa wb_ fi cd], [zO0 wa m2_15 wy2_16 l0 pc2_17 a1_29 a2_30 a3_31 a4_32 a5_33 a6_34, zAr T 0 a1_29 7 g1_18, zAr T 0 a2_30 7 g2_19, zAr T 0 a3_31 7 f3A, zAr T 0 a4_32 (zMk mdA n4A (zPl cr0_ inn0_ k10_)) g4_20, zAr T 0 a5_33 (zMk mdA n4A (zPl cr0_ inn0_ k10_)) g5_21, zAr T 0 a6_34 (zMk mdA n4A (zPl cr0_ inn0_ k10_)) g6_22], z0_]) [0, 1, 2, 3, 5, 4] rfl
          exact ih_41 (i + 1) (u6 + (zEntry g5_21 (zMk mdA n4A (zPl cr0_ inn0_ k10_)) (nI i) a_ >>> (17 &&& 31))) (show (i + 1) ≤ aPr (aW cr0_ inn0_ k10_) 7 from (by omega)) (show aPr (aW cr0_ inn0_ k10_) 7 - (i + 1) < aPr (aW cr0_ inn0_ k10_) 7 - i from by omega) _ _ ls G (lv_sub hl [0, 1, 2, 3, 4, 5, 6, 7] rfl)
        · have h_48 : ((zEntry g5_21 (zMk mdA n4A (zPl cr0_ inn0_ k10_)) (nI i) a_ &&& 7).toInt < 0 ∨ cr0_.toInt ≤ (zEntry g5_21 (zMk mdA n4A (zPl cr0_ inn0_ k10_)) (nI i) a_ &&& 7).toInt ∨ 7 ≤ (zEntry g5_21 (zMk mdA n4A (zPl cr0_ inn0_ k10_)) (nI i) a_ &&& 7).toInt ∨ zBit inn0_ (zEntry g5_21 (zMk mdA n4A (zPl cr0_ inn0_ k10_)) (nI i) a_ &&& 7) = 0) := h_48
          refine lv_if_ne (tgt := 69) hx hb dX11_mean_64 (by decide) (fun q => absurd (by decide) q) (fun _ => ?_)
          refine lv_iconst (v := (-1)) hx hb dX11_mean_67 (by decide) ?_
          have G := G.sub (bs' := [[zO10 xo t im mk rd po co tr wa wb_ fi cd], wt, z0_, z1_, [zO0 wa m2_15 wy2_16 l0 pc2_17 a1_29 a2_30 a3_31 a4_32 a5_33 a6_34, zAr T 0 a1_29 7 g1_18, zAr T 0 a2_30 7 g2_19, zAr T 0 a3_31 7 f3A, zAr T 0 a4_32 (zMk mdA n4A (zPl cr0_ inn0_ k10_)) g4_20, zAr T 0 a5_33 (zMk mdA n4A (zPl cr0_ inn0_ k10_)) g5_21, zAr T 0 a6_34 (zMk mdA n4A (zPl cr0_ inn0_ k10_)) g6_22], wwB]) [3, 2, 5, 0, 4, 1] rfl
          exact z_back hQz_ (z_iret C hr hlocks G (Nat.le_of_ble_eq_true rfl) (by omega) dX11_mean_68 ⟨l0, m2_15, wy2_16, pc2_17, g1_18, g2_19, f3A, g4_20, g5_21, g6_22, (zMk mdA n4A (zPl cr0_ inn0_ k10_)), ([zO0 wa m2_15 wy2_16 l0 pc2_17 a1_29 a2_30 a3_31 a4_32 a5_33 a6_34, zAr T 0 a1_29 7 g1_18, zAr T 0 a2_30 7 g2_19, zAr T 0 a3_31 7 f3A, zAr T 0 a4_32 (zMk mdA n4A (zPl cr0_ inn0_ k10_)) g4_20, zAr T 0 a5_33 (zMk mdA n4A (zPl cr0_ inn0_ k10_)) g5_21, zAr T 0 a6_34 (zMk mdA n4A (zPl cr0_ inn0_ k10_)) g6_22]), laB, mdB, wyB, pc_B, f1B, f2B, f3B, f4B, f5B, f6B, n4B, wwB, rfl, hw_39, (Or.inr rfl), hwy9, hNAm.symm, (zMk_pw hpwA), (fun _ => h_26), (Or.inr h_27), hwwB, hmdB, hwmB, (by first | exact hNAo.symm | exact (zNA_n (by first | omega | grind)).symm), hpwB, (fun q => q), hTbB⟩)
    · have h_13 : (a_.toInt < 0 ∨ cr0_.toInt ≤ a_.toInt ∨ 7 ≤ a_.toInt) := h_13
      refine lv_if_ne (tgt := 26) hx hb dX11_mean_21 (by decide) (fun q => absurd (by decide) q) (fun _ => ?_)
      refine lv_iconst (v := (-1)) hx hb dX11_mean_24 (by decide) ?_
      have G := G.sub (bs' := [[zO10 xo t im mk rd po co tr wa wb_ fi cd], wt, z0_, z1_, wwA, wwB]) [0, 4, 5, 1, 2, 3] rfl
      exact z_back hQz_ (z_iret C hr hlocks G (Nat.le_of_ble_eq_true rfl) (by omega) dX11_mean_25 ⟨laA, mdA, wyA, pc_A, f1A, f2A, f3A, f4A, f5A, f6A, n4A, wwA, laB, mdB, wyB, pc_B, f1B, f2B, f3B, f4B, f5B, f6B, n4B, wwB, rfl, hwwA, hmdA, hwmA, (by first | exact hNAo.symm | exact (zNA_n (by first | omega | grind)).symm), hpwA, (fun q => q), hTbA, hwwB, hmdB, hwmB, (by first | exact hNAo.symm | exact (zNA_n (by first | omega | grind)).symm), hpwB, (fun q => q), hTbB⟩)
  · have h_6 : i1.toInt = 1 := h_6
    have h_7 : 1 < (fk 0).toInt := h_7
    refine lv_astore (lv' := [(4, .ref l1), (0, .ref xo), (1, .int i1), (2, .int a_), (3, .int w_)]) hx hb dX11_mean_8 hl (by decide) (zLvf_h rfl) (fun ls hl => ?_)
    refine lv_aload hx hb dX11_mean_10 (lv_at hl 0 rfl) ?_
    refine lv_ifnull hx hb dX11_mean_12 ?_
    refine lv_aload hx hb dX11_mean_15 (lv_at hl 0 rfl) ?_
    refine lv_iload_n hx hb dX11_mean_17 rfl (lv_at hl 3 rfl) ?_
    refine z_Vi (bc := [z1_]) (br := [[zO10 xo t im mk rd po co tr wa wb_ fi cd], z0_, wwA, wwB, wt]) (As := [.int a_]) (rest := []) C G (c_has l T l1 cr1_ inn1_ k11_ k21_ k31_ k41_ z1_ a_ hz1_) (kV_RX11_160 C.2.2.2.2 (Nat.le_of_ble_eq_true rfl) (Nat.le_of_ble_eq_true rfl)) [2] [2] rfl rfl (ci := 4) (qc := (RX4, TX4, 6)) rfl rfl (List.mem_flatten.mpr ⟨_, List.mem_of_getElem? (i := 0) rfl, (bLand_mem hz1_).choose_spec⟩) rfl rfl hl.1 dX11_mean_18 (Nat.le_of_ble_eq_true rfl) (by show _ + 0 ≤ 6 * (zNA (i1.toInt = 0 ∧ 0 < (fk 0).toInt ∧ 0 ≤ a_.toInt ∧ a_.toInt < cr0_.toInt ∧ a_.toInt < 7) mdA n4A (zPl cr0_ inn0_ k10_) - n4A) + 6 * (zNA (i1.toInt = 1 ∧ 1 < (fk 0).toInt ∧ 0 ≤ a_.toInt ∧ a_.toInt < cr1_.toInt ∧ a_.toInt < 7) mdB n4B (zPl cr1_ inn1_ k11_) - n4B); omega) (fun r_52 b1 H locs hw G => ?_)
    refine zAn2 hw ?_
    intro hbs9 hc_51
    clear hw
    subst hbs9
    have G : zS T A s.heap s [[zO10 xo t im mk rd po co tr wa wb_ fi cd], z0_, wwA, wwB, wt, z1_] _ _ := G
    rcases hc_51 with ⟨rfl, h_53, h_54, h_55⟩ | ⟨rfl, h_56⟩
    · have h_53 : 0 ≤ a_.toInt := h_53
      have h_54 : a_.toInt < cr1_.toInt := h_54
      have h_55 : a_.toInt < 7 := h_55
      refine lv_if_ne (tgt := 26) hx hb dX11_mean_21 (by decide) (fun _ => ?_) (fun q => absurd q (by decide))
      refine lv_aload_n hx hb dX11_mean_26 rfl (lv_at hl 1 rfl) ?_
      refine lv_iload_n hx hb dX11_mean_27 rfl (lv_at hl 2 rfl) ?_
      refine lv_aload hx hb dX11_mean_28 (lv_at hl 0 rfl) ?_
      have hNAm : zNA (i1.toInt = 1 ∧ 1 < (fk 0).toInt ∧ 0 ≤ a_.toInt ∧ a_.toInt < cr1_.toInt ∧ a_.toInt < 7) mdB n4B (zPl cr1_ inn1_ k11_) = zMk mdB n4B (zPl cr1_ inn1_ k11_) := zNA_y (by first | omega | (repeat' (first | omega | assumption | constructor)))
      have hNAo : zNA (i1.toInt = 0 ∧ 0 < (fk 0).toInt ∧ 0 ≤ a_.toInt ∧ a_.toInt < cr0_.toInt ∧ a_.toInt < 7) mdA n4A (zPl cr0_ inn0_ k10_) = n4A := zNA_n (by omega)
      have hn9 : zMk mdB n4B (zPl cr1_ inn1_ k11_) ≤ 131072 := zPw_le (zMk_pw hpwB)
      refine z_Vq (bc := [[zO10 xo t im mk rd po co tr wa wb_ fi cd], wwB, z1_]) (br := [z0_, wwA, wt]) (As := [.int i1, .ref l1]) (rest := []) C G (c_f_waysInB l T xo t im mk rd po co tr wa wb_ fi cd i1 laB mdB wyB pc_B f1B f2B f3B f4B f5B f6B n4B wwB l1 cr1_ inn1_ k11_ k21_ k31_ k41_ z1_ hwwB hz1_ hI1_ hpwB hmdB (kaOk hI1_ hLq1).1 hTbB (by omega)) (kV_RX11_235 C.2.2.2.2 (Nat.le_of_ble_eq_true rfl) (Nat.le_of_ble_eq_true rfl)) [0, 3, 5] [0, 2, 1] rfl rfl (ci := 10) (qc := (RX11, TX11, 11)) rfl rfl (List.mem_flatten.mpr ⟨_, List.mem_of_getElem? (i := 0) rfl, List.mem_cons_self⟩) rfl rfl hl.1 dX11_mean_30 (Nat.le_of_ble_eq_true rfl) (by show _ + (6 * (zMk mdB n4B (zPl cr1_ inn1_ k11_) - n4B)) ≤ 6 * (zNA (i1.toInt = 0 ∧ 0 < (fk 0).toInt ∧ 0 ≤ a_.toInt ∧ a_.toInt < cr0_.toInt ∧ a_.toInt < 7) mdA n4A (zPl cr0_ inn0_ k10_) - n4A) + 6 * (zNA (i1.toInt = 1 ∧ 1 < (fk 0).toInt ∧ 0 ≤ a_.toInt ∧ a_.toInt < cr1_.toInt ∧ a_.toInt < 7) mdB n4B (zPl cr1_ inn1_ k11_) - n4B); omega) (fun r_71 b1 H locs hw G => ?_)
      refine zEx9 hw ?_
      intro w2_57 m2_58 wy2_59 pc2_60 g1_61 g2_62 g4_63 g5_64 g6_65
      refine zCu6 ?_
      intro hbs9 h_66 h_67 h_68 h_69 h_70
      clear hw
      subst hbs9
      have G : zS T A s.heap s [z0_, wwA, wt, [zO10 xo t im mk rd po co tr wa wb_ fi cd], w2_57, z1_] _ _ := G
      subst h_66
      have hwy9 : 0 ≤ wy2_59.toInt ∧ wy2_59.toInt ≤ 16384 := by have q9 := zWy_in (inn := inn1_) hI1_; rw [h_68]; exact ⟨by omega, q9.2⟩
      have hp79 : aPr (aW cr1_ inn1_ k11_) 7 ≤ 16384 := aPr_7 hI1_
      have hwN9 : wy2_59 = nI (aPr (aW cr1_ inn1_ k11_) 7) := h_68.trans (zWy_z hI1_)
      have hwT9 : wy2_59.toInt = ((aPr (aW cr1_ inn1_ k11_) 7 : Nat) : Int) := by rw [hwN9, nI_toInt (by omega)]
      have hOk9 := (kaOk (inn := inn1_) hI1_ hLq1).1
      have hc79 := hI1_.1
      refine lv_astore (lv' := [(5, .ref wb_), (4, .ref l1), (0, .ref xo), (1, .int i1), (2, .int a_), (3, .int w_)]) hx hb dX11_mean_33 hl (by decide) (zLvf_h rfl) (fun ls hl => ?_)
      refine lv_iconst (v := 0) hx hb dX11_mean_35 (by decide) ?_
      refine lv_istore (lv' := [(6, .int 0), (5, .ref wb_), (4, .ref l1), (0, .ref xo), (1, .int i1), (2, .int a_), (3, .int w_)]) hx hb dX11_mean_36 hl (by decide) (zLvf_h rfl) (fun ls hl => ?_)
      refine lv_iconst (v := 0) hx hb dX11_mean_38 (by decide) ?_
      refine lv_istore (lv' := [(7, .int 0), (6, .int 0), (5, .ref wb_), (4, .ref l1), (0, .ref xo), (1, .int i1), (2, .int a_), (3, .int w_)]) hx hb dX11_mean_39 hl (by decide) (zLvf_h rfl) (fun ls hl => ?_)
      refine zEx6 h_67 ?_
      intro a1_72 a2_73 a3_74 a4_75 a5_76 a6_77 hbs9
      clear h_67
      subst hbs9
      have G : zS T A s.heap s [z0_, wwA, wt, [zO10 xo t im mk rd po co tr wa wb_ fi cd], [zO0 wb_ m2_58 wy2_59 l1 pc2_60 a1_72 a2_73 a3_74 a4_75 a5_76 a6_77], [zAr T 0 a1_72 7 g1_61], [zAr T 0 a2_73 7 g2_62], [zAr T 0 a3_74 7 f3B], [zAr T 0 a4_75 (zMk mdB n4B (zPl cr1_ inn1_ k11_)) g4_63], [zAr T 0 a5_76 (zMk mdB n4B (zPl cr1_ inn1_ k11_)) g5_64], [zAr T 0 a6_77 (zMk mdB n4B (zPl cr1_ inn1_ k11_)) g6_65], z1_] _ _ := G.re rfl
      have hw_78 : bWays T wb_ l1 m2_58 wy2_59 pc2_60 g1_61 g2_62 f3B g4_63 g5_64 g6_65 (zMk mdB n4B (zPl cr1_ inn1_ k11_)) [zO0 wb_ m2_58 wy2_59 l1 pc2_60 a1_72 a2_73 a3_74 a4_75 a5_76 a6_77, zAr T 0 a1_72 7 g1_61, zAr T 0 a2_73 7 g2_62, zAr T 0 a3_74 7 f3B, zAr T 0 a4_75 (zMk mdB n4B (zPl cr1_ inn1_ k11_)) g4_63, zAr T 0 a5_76 (zMk mdB n4B (zPl cr1_ inn1_ k11_)) g5_64, zAr T 0 a6_77 (zMk mdB n4B (zPl cr1_ inn1_ k11_)) g6_65] := ⟨a1_72, a2_73, a3_74, a4_75, a5_76, a6_77, rfl⟩
      have G : zS T A s.heap s [z0_, wwA, wt, [zO10 xo t im mk rd po co tr wa wb_ fi cd], [zO0 wb_ m2_58 wy2_59 l1 pc2_60 a1_72 a2_73 a3_74 a4_75 a5_76 a6_77, zAr T 0 a1_72 7 g1_61, zAr T 0 a2_73 7 g2_62, zAr T 0 a3_74 7 f3B, zAr T 0 a4_75 (zMk mdB n4B (zPl cr1_ inn1_ k11_)) g4_63, zAr T 0 a5_76 (zMk mdB n4B (zPl cr1_ inn1_ k11_)) g5_64, zAr T 0 a6_77 (zMk mdB n4B (zPl cr1_ inn1_ k11_)) g6_65], z1_] _ _ := G.re rfl
      refine z_lp2 (T := T) 41 (fun (i : Nat) (u6 : Int32) => [z0_, wwA, wt, [zO10 xo t im mk rd po co tr wa wb_ fi cd], [zO0 wb_ m2_58 wy2_59 l1 pc2_60 a1_72 a2_73 a3_74 a4_75 a5_76 a6_77, zAr T 0 a1_72 7 g1_61, zAr T 0 a2_73 7 g2_62, zAr T 0 a3_74 7 f3B, zAr T 0 a4_75 (zMk mdB n4B (zPl cr1_ inn1_ k11_)) g4_63, zAr T 0 a5_76 (zMk mdB n4B (zPl cr1_ inn1_ k11_)) g5_64, zAr T 0 a6_77 (zMk mdB n4B (zPl cr1_ inn1_ k11_)) g6_65], z1_]) (fun (i : Nat) (u6 : Int32) => [(7, .int (nI i)), (6, .int u6), (5, .ref wb_), (4, .ref l1), (0, .ref xo), (1, .int i1), (2, .int a_), (3, .int w_)]) (fun (i : Nat) (u6 : Int32) => i ≤ aPr (aW cr1_ inn1_ k11_) 7) (fun (i : Nat) (u6 : Int32) => aPr (aW cr1_ inn1_ k11_) 7 - i) ?_ 0 0 (show 0 ≤ aPr (aW cr1_ inn1_ k11_) 7 from (Nat.zero_le _)) G (lv_sub hl [0, 1, 2, 3, 4, 5, 6, 7] rfl)
      intro i u6 hi ih_41 H locs ls G hl
      replace hi : i ≤ aPr (aW cr1_ inn1_ k11_) 7 := hi
      replace G : zS T A s.heap s [z0_, wwA, wt, [zO10 xo t im mk rd po co tr wa wb_ fi cd], [zO0 wb_ m2_58 wy2_59 l1 pc2_60 a1_72 a2_73 a3_74 a4_75 a5_76 a6_77, zAr T 0 a1_72 7 g1_61, zAr T 0 a2_73 7 g2_62, zAr T 0 a3_74 7 f3B, zAr T 0 a4_75 (zMk mdB n4B (zPl cr1_ inn1_ k11_)) g4_63, zAr T 0 a5_76 (zMk mdB n4B (zPl cr1_ inn1_ k11_)) g5_64, zAr T 0 a6_77 (zMk mdB n4B (zPl cr1_ inn1_ k11_)) g6_65], z1_] _ _ := G
      replace hl : lv_has ls 8 [(7, .int (nI i)), (6, .int u6), (5, .ref wb_), (4, .ref l1), (0, .ref xo), (1, .int i1), (2, .int a_), (3, .int w_)] := hl
      refine lv_iload hx hb dX11_mean_41 (lv_at hl 0 rfl) ?_
      refine lv_aload hx hb dX11_mean_43 (lv_at hl 2 rfl) ?_
      have G : zS T A s.heap s [z0_, wwA, wt, [zO10 xo t im mk rd po co tr wa wb_ fi cd], [zO0 wb_ m2_58 wy2_59 l1 pc2_60 a1_72 a2_73 a3_74 a4_75 a5_76 a6_77], [zAr T 0 a1_72 7 g1_61], [zAr T 0 a2_73 7 g2_62], [zAr T 0 a3_74 7 f3B], [zAr T 0 a4_75 (zMk mdB n4B (zPl cr1_ inn1_ k11_)) g4_63], [zAr T 0 a5_76 (zMk mdB n4B (zPl cr1_ inn1_ k11_)) g5_64], [zAr T 0 a6_77 (zMk mdB n4B (zPl cr1_ inn1_ k11_)) g6_65], z1_] _ _ := G.re rfl
      refine z_get C G clX0 4 rfl 1 (by decide) m_fl_RX11_257 rfl dX11_mean_45 ?_
      refine lv_icmp_ge (tgt := 88) hx hb dX11_mean_48 (by decide) (fun c_79 => ?_) (fun c_79 => ?_)
      · have c_79n : wy2_59.toInt ≤ (i : Int) := by have q := (fa_le _ _).mp c_79; rw [nI_toInt (n := i) (by omega)] at q; exact q
        refine lv_iload hx hb dX11_mean_88 (lv_at hl 1 rfl) ?_
        refine lv_aload hx hb dX11_mean_90 (lv_at hl 2 rfl) ?_
        refine z_get C G clX0 4 rfl 1 (by decide) m_fl_RX11_257 rfl dX11_mean_92 ?_
        refine lv_iload_n hx hb dX11_mean_95 rfl (lv_at hl 7 rfl) ?_
        refine z_Si (bc := []) (br := [z0_, wwA, wt, [zO10 xo t im mk rd po co tr wa wb_ fi cd], [zO0 wb_ m2_58 wy2_59 l1 pc2_60 a1_72 a2_73 a3_74 a4_75 a5_76 a6_77], [zAr T 0 a1_72 7 g1_61], [zAr T 0 a2_73 7 g2_62], [zAr T 0 a3_74 7 f3B], [zAr T 0 a4_75 (zMk mdB n4B (zPl cr1_ inn1_ k11_)) g4_63], [zAr T 0 a5_76 (zMk mdB n4B (zPl cr1_ inn1_ k11_)) g5_64], [zAr T 0 a6_77 (zMk mdB n4B (zPl cr1_ inn1_ k11_)) g6_65], z1_]) (As := [.int u6, .int wy2_59, .int w_]) (rest := []) C G (c_inLeastTerms l T u6 wy2_59 w_) (kS_RX11_262 C.2.2.2.2 (Nat.le_of_ble_eq_true rfl) (Nat.le_of_ble_eq_true rfl)) [] [] rfl rfl rfl rfl hl.1 dX11_mean_96 (Nat.le_of_ble_eq_true rfl) (by show _ + 0 ≤ 6 * (zNA (i1.toInt = 0 ∧ 0 < (fk 0).toInt ∧ 0 ≤ a_.toInt ∧ a_.toInt < cr0_.toInt ∧ a_.toInt < 7) mdA n4A (zPl cr0_ inn0_ k10_) - n4A) + 6 * (zNA (i1.toInt = 1 ∧ 1 < (fk 0).toInt ∧ 0 ≤ a_.toInt ∧ a_.toInt < cr1_.toInt ∧ a_.toInt < 7) mdB n4B (zPl cr1_ inn1_ k11_) - n4B); omega) (fun r_80 b1 H locs hw G => ?_)
        obtain rfl := hw
        have G : zS T A s.heap s [z0_, wwA, wt, [zO10 xo t im mk rd po co tr wa wb_ fi cd], [zO0 wb_ m2_58 wy2_59 l1 pc2_60 a1_72 a2_73 a3_74 a4_75 a5_76 a6_77], [zAr T 0 a1_72 7 g1_61], [zAr T 0 a2_73 7 g2_62], [zAr T 0 a3_74 7 f3B], [zAr T 0 a4_75 (zMk mdB n4B (zPl cr1_ inn1_ k11_)) g4_63], [zAr T 0 a5_76 (zMk mdB n4B (zPl cr1_ inn1_ k11_)) g5_64], [zAr T 0 a6_77 (zMk mdB n4B (zPl cr1_ inn1_ k11_)) g6_65], z1_] _ _ := G
        have hw_81 : bWays T wb_ l1 m2_58 wy2_59 pc2_60 g1_61 g2_62 f3B g4_63 g5_64 g6_65 (zMk mdB n4B (zPl cr1_ inn1_ k11_)) [zO0 wb_ m2_58 wy2_59 l1 pc2_60 a1_72 a2_73 a3_74 a4_75 a5_76 a6_77, zAr T 0 a1_72 7 g1_61, zAr T 0 a2_73 7 g2_62, zAr T 0 a3_74 7 f3B, zAr T 0 a4_75 (zMk mdB n4B (zPl cr1_ inn1_ k11_)) g4_63, zAr T 0 a5_76 (zMk mdB n4B (zPl cr1_ inn1_ k11_)) g5_64, zAr T 0 a6_77 (zMk mdB n4B (zPl cr1_ inn1_ k11_)) g6_65] := ⟨a1_72, a2_73, a3_74, a4_75, a5_76, a6_77, rfl⟩
        have G : zS T A s.heap s [z0_, wwA, wt, [zO10 xo t im mk rd po co tr wa wb_ fi cd], [zO0 wb_ m2_58 wy2_59 l1 pc2_60 a1_72 a2_73 a3_74 a4_75 a5_76 a6_77, zAr T 0 a1_72 7 g1_61, zAr T 0 a2_73 7 g2_62, zAr T 0 a3_74 7 f3B, zAr T 0 a4_75 (zMk mdB n4B (zPl cr1_ inn1_ k11_)) g4_63, zAr T 0 a5_76 (zMk mdB n4B (zPl cr1_ inn1_ k11_)) g5_64, zAr T 0 a6_77 (zMk mdB n4B (zPl cr1_ inn1_ k11_)) g6_65], z1_] _ _ := G.re rfl
        have G := G.sub (bs' := [[zO10 xo t im mk rd po co tr wa wb_ fi cd], wt, z0_, z1_, wwA, [zO0 wb_ m2_58 wy2_59 l1 pc2_60 a1_72 a2_73 a3_74 a4_75 a5_76 a6_77, zAr T 0 a1_72 7 g1_61, zAr T 0 a2_73 7 g2_62, zAr T 0 a3_74 7 f3B, zAr T 0 a4_75 (zMk mdB n4B (zPl cr1_ inn1_ k11_)) g4_63, zAr T 0 a5_76 (zMk mdB n4B (zPl cr1_ inn1_ k11_)) g5_64, zAr T 0 a6_77 (zMk mdB n4B (zPl cr1_ inn1_ k11_)) g6_65]]) [3, 2, 0, 5, 1, 4] rfl
        exact z_back hQz_ (z_iret C hr hlocks G (Nat.le_of_ble_eq_true rfl) (by omega) dX11_mean_99 ⟨laA, mdA, wyA, pc_A, f1A, f2A, f3A, f4A, f5A, f6A, n4A, wwA, l1, m2_58, wy2_59, pc2_60, g1_61, g2_62, f3B, g4_63, g5_64, g6_65, (zMk mdB n4B (zPl cr1_ inn1_ k11_)), ([zO0 wb_ m2_58 wy2_59 l1 pc2_60 a1_72 a2_73 a3_74 a4_75 a5_76 a6_77, zAr T 0 a1_72 7 g1_61, zAr T 0 a2_73 7 g2_62, zAr T 0 a3_74 7 f3B, zAr T 0 a4_75 (zMk mdB n4B (zPl cr1_ inn1_ k11_)) g4_63, zAr T 0 a5_76 (zMk mdB n4B (zPl cr1_ inn1_ k11_)) g5_64, zAr T 0 a6_77 (zMk mdB n4B (zPl cr1_ inn1_ k11_)) g6_65]), rfl, hwwA, hmdA, hwmA, (by first | exact hNAo.symm | exact (zNA_n (by first | omega | grind)).symm), hpwA, (fun q => q), hTbA, hw_81, (Or.inr rfl), hwy9, hNAm.symm, (zMk_pw hpwB), (fun _ => h_69), (Or.inr h_70)⟩)
      · have c_79n : ¬ wy2_59.toInt ≤ (i : Int) := fun q => c_79 ((fa_le _ _).mpr (by rw [nI_toInt (n := i) (by omega)]; exact q))
        refine lv_aload hx hb dX11_mean_51 (lv_at hl 3 rfl) ?_
        refine lv_aload hx hb dX11_mean_53 (lv_at hl 2 rfl) ?_
        refine lv_iload hx hb dX11_mean_55 (lv_at hl 0 rfl) ?_
        refine lv_iload_n hx hb dX11_mean_57 rfl (lv_at hl 6 rfl) ?_
        have hw_82 : bWays T wb_ l1 m2_58 wy2_59 pc2_60 g1_61 g2_62 f3B g4_63 g5_64 g6_65 (zMk mdB n4B (zPl cr1_ inn1_ k11_)) [zO0 wb_ m2_58 wy2_59 l1 pc2_60 a1_72 a2_73 a3_74 a4_75 a5_76 a6_77, zAr T 0 a1_72 7 g1_61, zAr T 0 a2_73 7 g2_62, zAr T 0 a3_74 7 f3B, zAr T 0 a4_75 (zMk mdB n4B (zPl cr1_ inn1_ k11_)) g4_63, zAr T 0 a5_76 (zMk mdB n4B (zPl cr1_ inn1_ k11_)) g5_64, zAr T 0 a6_77 (zMk mdB n4B (zPl cr1_ inn1_ k11_)) g6_65] := ⟨a1_72, a2_73, a3_74, a4_75, a5_76, a6_77, rfl⟩
        have G : zS T A s.heap s [z0_, wwA, wt, [zO10 xo t im mk rd po co tr wa wb_ fi cd], [zO0 wb_ m2_58 wy2_59 l1 pc2_60 a1_72 a2_73 a3_74 a4_75 a5_76 a6_77, zAr T 0 a1_72 7 g1_61, zAr T 0 a2_73 7 g2_62, zAr T 0 a3_74 7 f3B, zAr T 0 a4_75 (zMk mdB n4B (zPl cr1_ inn1_ k11_)) g4_63, zAr T 0 a5_76 (zMk mdB n4B (zPl cr1_ inn1_ k11_)) g5_64, zAr T 0 a6_77 (zMk mdB n4B (zPl cr1_ inn1_ k11_)) g6_65], z1_] _ _ := G.re rfl
        refine z_Vi (bc := [[zO0 wb_ m2_58 wy2_59 l1 pc2_60 a1_72 a2_73 a3_74 a4_75 a5_76 a6_77, zAr T 0 a1_72 7 g1_61, zAr T 0 a2_73 7 g2_62, zAr T 0 a3_74 7 f3B, zAr T 0 a4_75 (zMk mdB n4B (zPl cr1_ inn1_ k11_)) g4_63, zAr T 0 a5_76 (zMk mdB n4B (zPl cr1_ inn1_ k11_)) g5_64, zAr T 0 a6_77 (zMk mdB n4B (zPl cr1_ inn1_ k11_)) g6_65]]) (br := [z0_, wwA, wt, [zO10 xo t im mk rd po co tr wa wb_ fi cd], z1_]) (As := [.int (nI i), .int a_]) (rest := [.ref l1]) C G (c_where l T wb_ l1 m2_58 wy2_59 pc2_60 g1_61 g2_62 f3B g4_63 g5_64 g6_65 (zMk mdB n4B (zPl cr1_ inn1_ k11_)) ([zO0 wb_ m2_58 wy2_59 l1 pc2_60 a1_72 a2_73 a3_74 a4_75 a5_76 a6_77, zAr T 0 a1_72 7 g1_61, zAr T 0 a2_73 7 g2_62, zAr T 0 a3_74 7 f3B, zAr T 0 a4_75 (zMk mdB n4B (zPl cr1_ inn1_ k11_)) g4_63, zAr T 0 a5_76 (zMk mdB n4B (zPl cr1_ inn1_ k11_)) g5_64, zAr T 0 a6_77 (zMk mdB n4B (zPl cr1_ inn1_ k11_)) g6_65]) (nI i) a_ hw_82 (by first | with_reducible assumption | with_reducible rfl | omega | assumption | rfl)) (kV_RX11_260 C.2.2.2.2 (Nat.le_of_ble_eq_true rfl) (Nat.le_of_ble_eq_true rfl)) [4] [4] rfl rfl (ci := 0) (qc := (RX0, TX0, 10)) rfl rfl (List.mem_flatten.mpr ⟨_, List.mem_of_getElem? (i := 0) rfl, (bWays_mem hw_82).choose_spec⟩) rfl rfl hl.1 dX11_mean_58 (Nat.le_of_ble_eq_true rfl) (by show _ + 0 ≤ 6 * (zNA (i1.toInt = 0 ∧ 0 < (fk 0).toInt ∧ 0 ≤ a_.toInt ∧ a_.toInt < cr0_.toInt ∧ a_.toInt < 7) mdA n4A (zPl cr0_ inn0_ k10_) - n4A) + 6 * (zNA (i1.toInt = 1 ∧ 1 < (fk 0).toInt ∧ 0 ≤ a_.toInt ∧ a_.toInt < cr1_.toInt ∧ a_.toInt < 7) mdB n4B (zPl cr1_ inn1_ k11_) - n4B); omega) (fun r_84 b1 H locs hw G => ?_)
        refine zAn2 hw ?_
        intro hbs9 h_83
        clear hw
        subst hbs9
        have G : zS T A s.heap s [z0_, wwA, wt, [zO10 xo t im mk rd po co tr wa wb_ fi cd], z1_, [zO0 wb_ m2_58 wy2_59 l1 pc2_60 a1_72 a2_73 a3_74 a4_75 a5_76 a6_77, zAr T 0 a1_72 7 g1_61, zAr T 0 a2_73 7 g2_62, zAr T 0 a3_74 7 f3B, zAr T 0 a4_75 (zMk mdB n4B (zPl cr1_ inn1_ k11_)) g4_63, zAr T 0 a5_76 (zMk mdB n4B (zPl cr1_ inn1_ k11_)) g5_64, zAr T 0 a6_77 (zMk mdB n4B (zPl cr1_ inn1_ k11_)) g6_65]] _ _ := G
        subst h_83
        refine z_Vi (bc := [z1_]) (br := [z0_, wwA, wt, [zO10 xo t im mk rd po co tr wa wb_ fi cd], [zO0 wb_ m2_58 wy2_59 l1 pc2_60 a1_72 a2_73 a3_74 a4_75 a5_76 a6_77, zAr T 0 a1_72 7 g1_61, zAr T 0 a2_73 7 g2_62, zAr T 0 a3_74 7 f3B, zAr T 0 a4_75 (zMk mdB n4B (zPl cr1_ inn1_ k11_)) g4_63, zAr T 0 a5_76 (zMk mdB n4B (zPl cr1_ inn1_ k11_)) g5_64, zAr T 0 a6_77 (zMk mdB n4B (zPl cr1_ inn1_ k11_)) g6_65]]) (As := [.int (zEntry g5_64 (zMk mdB n4B (zPl cr1_ inn1_ k11_)) (nI i) a_ &&& 7)]) (rest := []) C G (c_isInn l T l1 cr1_ inn1_ k11_ k21_ k31_ k41_ z1_ (zEntry g5_64 (zMk mdB n4B (zPl cr1_ inn1_ k11_)) (nI i) a_ &&& 7) hz1_) (kV_RX11_174 C.2.2.2.2 (Nat.le_of_ble_eq_true rfl) (Nat.le_of_ble_eq_true rfl)) [4] [4] rfl rfl (ci := 4) (qc := (RX4, TX4, 6)) rfl rfl (List.mem_flatten.mpr ⟨_, List.mem_of_getElem? (i := 0) rfl, (bLand_mem hz1_).choose_spec⟩) rfl rfl hl.1 dX11_mean_61 (Nat.le_of_ble_eq_true rfl) (by show _ + 0 ≤ 6 * (zNA (i1.toInt = 0 ∧ 0 < (fk 0).toInt ∧ 0 ≤ a_.toInt ∧ a_.toInt < cr0_.toInt ∧ a_.toInt < 7) mdA n4A (zPl cr0_ inn0_ k10_) - n4A) + 6 * (zNA (i1.toInt = 1 ∧ 1 < (fk 0).toInt ∧ 0 ≤ a_.toInt ∧ a_.toInt < cr1_.toInt ∧ a_.toInt < 7) mdB n4B (zPl cr1_ inn1_ k11_) - n4B); omega) (fun r_86 b1 H locs hw G => ?_)
        refine zAn2 hw ?_
        intro hbs9 hc_85
        clear hw
        subst hbs9
        have G : zS T A s.heap s [z0_, wwA, wt, [zO10 xo t im mk rd po co tr wa wb_ fi cd], [zO0 wb_ m2_58 wy2_59 l1 pc2_60 a1_72 a2_73 a3_74 a4_75 a5_76 a6_77, zAr T 0 a1_72 7 g1_61, zAr T 0 a2_73 7 g2_62, zAr T 0 a3_74 7 f3B, zAr T 0 a4_75 (zMk mdB n4B (zPl cr1_ inn1_ k11_)) g4_63, zAr T 0 a5_76 (zMk mdB n4B (zPl cr1_ inn1_ k11_)) g5_64, zAr T 0 a6_77 (zMk mdB n4B (zPl cr1_ inn1_ k11_)) g6_65], z1_] _ _ := G
        rcases hc_85 with ⟨rfl, h_87, h_88, h_89, h_90⟩ | ⟨rfl, h_91⟩
        · have h_87 : 0 ≤ (zEntry g5_64 (zMk mdB n4B (zPl cr1_ inn1_ k11_)) (nI i) a_ &&& 7).toInt := h_87
          have h_88 : (zEntry g5_64 (zMk mdB n4B (zPl cr1_ inn1_ k11_)) (nI i) a_ &&& 7).toInt < cr1_.toInt := h_88
          have h_89 : (zEntry g5_64 (zMk mdB n4B (zPl cr1_ inn1_ k11_)) (nI i) a_ &&& 7).toInt < 7 := h_89
          have h_90 : ¬ zBit inn1_ (zEntry g5_64 (zMk mdB n4B (zPl cr1_ inn1_ k11_)) (nI i) a_ &&& 7) = 0 := h_90
          refine lv_if_ne (tgt := 69) hx hb dX11_mean_64 (by decide) (fun _ => ?_) (fun q => absurd q (by decide))
          refine lv_iload hx hb dX11_mean_69 (lv_at hl 1 rfl) ?_
          refine lv_aload hx hb dX11_mean_71 (lv_at hl 2 rfl) ?_
          refine lv_iload hx hb dX11_mean_73 (lv_at hl 0 rfl) ?_
          refine lv_iload_n hx hb dX11_mean_75 rfl (lv_at hl 6 rfl) ?_
          refine z_Vi (bc := [[zO0 wb_ m2_58 wy2_59 l1 pc2_60 a1_72 a2_73 a3_74 a4_75 a5_76 a6_77, zAr T 0 a1_72 7 g1_61, zAr T 0 a2_73 7 g2_62, zAr T 0 a3_74 7 f3B, zAr T 0 a4_75 (zMk mdB n4B (zPl cr1_ inn1_ k11_)) g4_63, zAr T 0 a5_76 (zMk mdB n4B (zPl cr1_ inn1_ k11_)) g5_64, zAr T 0 a6_77 (zMk mdB n4B (zPl cr1_ inn1_ k11_)) g6_65]]) (br := [z0_, wwA, wt, [zO10 xo t im mk rd po co tr wa wb_ fi cd], z1_]) (As := [.int (nI i), .int a_]) (rest := [.int u6]) C G (c_steps l T wb_ l1 m2_58 wy2_59 pc2_60 g1_61 g2_62 f3B g4_63 g5_64 g6_65 (zMk mdB n4B (zPl cr1_ inn1_ k11_)) ([zO0 wb_ m2_58 wy2_59 l1 pc2_60 a1_72 a2_73 a3_74 a4_75 a5_76 a6_77, zAr T 0 a1_72 7 g1_61, zAr T 0 a2_73 7 g2_62, zAr T 0 a3_74 7 f3B, zAr T 0 a4_75 (zMk mdB n4B (zPl cr1_ inn1_ k11_)) g4_63, zAr T 0 a5_76 (zMk mdB n4B (zPl cr1_ inn1_ k11_)) g5_64, zAr T 0 a6_77 (zMk mdB n4B (zPl cr1_ inn1_ k11_)) g6_65]) (nI i) a_ hw_82 (by first | with_reducible assumption | with_reducible rfl | omega | assumption | rfl)) (kV_RX11_266 C.2.2.2.2 (Nat.le_of_ble_eq_true rfl) (Nat.le_of_ble_eq_true rfl)) [4] [4] rfl rfl (ci := 0) (qc := (RX0, TX0, 10)) rfl rfl (List.mem_flatten.mpr ⟨_, List.mem_of_getElem? (i := 0) rfl, (bWays_mem hw_82).choose_spec⟩) rfl rfl hl.1 dX11_mean_76 (Nat.le_of_ble_eq_true rfl) (by show _ + 0 ≤ 6 * (zNA (i1.toInt = 0 ∧ 0 < (fk 0).toInt ∧ 0 ≤ a_.toInt ∧ a_.toInt < cr0_.toInt ∧ a_.toInt < 7) mdA n4A (zPl cr0_ inn0_ k10_) - n4A) + 6 * (zNA (i1.toInt = 1 ∧ 1 < (fk 0).toInt ∧ 0 ≤ a_.toInt ∧ a_.toInt < cr1_.toInt ∧ a_.toInt < 7) mdB n4B (zPl cr1_ inn1_ k11_) - n4B); omega) (fun r_93 b1 H locs hw G => ?_)
          refine zAn2 hw ?_
          intro hbs9 h_92
          clear hw
          subst hbs9
          have G : zS T A s.heap s [z0_, wwA, wt, [zO10 xo t im mk rd po co tr wa wb_ fi cd], z1_, [zO0 wb_ m2_58 wy2_59 l1 pc2_60 a1_72 a2_73 a3_74 a4_75 a5_76 a6_77, zAr T 0 a1_72 7 g1_61, zAr T 0 a2_73 7 g2_62, zAr T 0 a3_74 7 f3B, zAr T 0 a4_75 (zMk mdB n4B (zPl cr1_ inn1_ k11_)) g4_63, zAr T 0 a5_76 (zMk mdB n4B (zPl cr1_ inn1_ k11_)) g5_64, zAr T 0 a6_77 (zMk mdB n4B (zPl cr1_ inn1_ k11_)) g6_65]] _ _ := G
          subst h_92
          refine lv_iadd hx hb dX11_mean_79 ?_
          refine lv_istore (lv' := [(6, .int (u6 + (zEntry g5_64 (zMk mdB n4B (zPl cr1_ inn1_ k11_)) (nI i) a_ >>> (17 &&& 31)))), (7, .int (nI i)), (5, .ref wb_), (4, .ref l1), (0, .ref xo), (1, .int i1), (2, .int a_), (3, .int w_)]) hx hb dX11_mean_80 hl (by decide) (zLvf_h rfl) (fun ls hl => ?_)
          refine lv_iinc (v := nI (i + 1)) (lv' := [(7, .int (nI (i + 1))), (6, .int (u6 + (zEntry g5_64 (zMk mdB n4B (zPl cr1_ inn1_ k11_)) (nI i) a_ >>> (17 &&& 31)))), (5, .ref wb_), (4, .ref l1), (0, .ref xo), (1, .int i1), (2, .int a_), (3, .int w_)]) hx hb dX11_mean_82 hl (k := 1) rfl (z_inc i 1) (by decide) (zLvf_h rfl) (fun ls hl => ?_)
          refine lv_goto (tgt := 41) hx hb dX11_mean_85 (by decide) ?_
          have G := G.sub (bs' := [z0_, wwA, wt, [zO10 xo t im mk rd po co tr wa wb_ fi cd], [zO0 wb_ m2_58 wy2_59 l1 pc2_60 a1_72 a2_73 a3_74 a4_75 a5_76 a6_77, zAr T 0 a1_72 7 g1_61, zAr T 0 a2_73 7 g2_62, zAr T 0 a3_74 7 f3B, zAr T 0 a4_75 (zMk mdB n4B (zPl cr1_ inn1_ k11_)) g4_63, zAr T 0 a5_76 (zMk mdB n4B (zPl cr1_ inn1_ k11_)) g5_64, zAr T 0 a6_77 (zMk mdB n4B (zPl cr1_ inn1_ k11_)) g6_65], z1_]) [0, 1, 2, 3, 5, 4] rfl
          exact ih_41 (i + 1) (u6 + (zEntry g5_64 (zMk mdB n4B (zPl cr1_ inn1_ k11_)) (nI i) a_ >>> (17 &&& 31))) (show (i + 1) ≤ aPr (aW cr1_ inn1_ k11_) 7 from (by omega)) (show aPr (aW cr1_ inn1_ k11_) 7 - (i + 1) < aPr (aW cr1_ inn1_ k11_) 7 - i from by omega) _ _ ls G (lv_sub hl [0, 1, 2, 3, 4, 5, 6, 7] rfl)
        · have h_91 : ((zEntry g5_64 (zMk mdB n4B (zPl cr1_ inn1_ k11_)) (nI i) a_ &&& 7).toInt < 0 ∨ cr1_.toInt ≤ (zEntry g5_64 (zMk mdB n4B (zPl cr1_ inn1_ k11_)) (nI i) a_ &&& 7).toInt ∨ 7 ≤ (zEntry g5_64 (zMk mdB n4B (zPl cr1_ inn1_ k11_)) (nI i) a_ &&& 7).toInt ∨ zBit inn1_ (zEntry g5_64 (zMk mdB n4B (zPl cr1_ inn1_ k11_)) (nI i) a_ &&& 7) = 0) := h_91
          refine lv_if_ne (tgt := 69) hx hb dX11_mean_64 (by decide) (fun q => absurd (by decide) q) (fun _ => ?_)
          refine lv_iconst (v := (-1)) hx hb dX11_mean_67 (by decide) ?_
          have G := G.sub (bs' := [[zO10 xo t im mk rd po co tr wa wb_ fi cd], wt, z0_, z1_, wwA, [zO0 wb_ m2_58 wy2_59 l1 pc2_60 a1_72 a2_73 a3_74 a4_75 a5_76 a6_77, zAr T 0 a1_72 7 g1_61, zAr T 0 a2_73 7 g2_62, zAr T 0 a3_74 7 f3B, zAr T 0 a4_75 (zMk mdB n4B (zPl cr1_ inn1_ k11_)) g4_63, zAr T 0 a5_76 (zMk mdB n4B (zPl cr1_ inn1_ k11_)) g5_64, zAr T 0 a6_77 (zMk mdB n4B (zPl cr1_ inn1_ k11_)) g6_65]]) [3, 2, 0, 5, 1, 4] rfl
          exact z_back hQz_ (z_iret C hr hlocks G (Nat.le_of_ble_eq_true rfl) (by omega) dX11_mean_68 ⟨laA, mdA, wyA, pc_A, f1A, f2A, f3A, f4A, f5A, f6A, n4A, wwA, l1, m2_58, wy2_59, pc2_60, g1_61, g2_62, f3B, g4_63, g5_64, g6_65, (zMk mdB n4B (zPl cr1_ inn1_ k11_)), ([zO0 wb_ m2_58 wy2_59 l1 pc2_60 a1_72 a2_73 a3_74 a4_75 a5_76 a6_77, zAr T 0 a1_72 7 g1_61, zAr T 0 a2_73 7 g2_62, zAr T 0 a3_74 7 f3B, zAr T 0 a4_75 (zMk mdB n4B (zPl cr1_ inn1_ k11_)) g4_63, zAr T 0 a5_76 (zMk mdB n4B (zPl cr1_ inn1_ k11_)) g5_64, zAr T 0 a6_77 (zMk mdB n4B (zPl cr1_ inn1_ k11_)) g6_65]), rfl, hwwA, hmdA, hwmA, (by first | exact hNAo.symm | exact (zNA_n (by first | omega | grind)).symm), hpwA, (fun q => q), hTbA, hw_82, (Or.inr rfl), hwy9, hNAm.symm, (zMk_pw hpwB), (fun _ => h_69), (Or.inr h_70)⟩)
    · have h_56 : (a_.toInt < 0 ∨ cr1_.toInt ≤ a_.toInt ∨ 7 ≤ a_.toInt) := h_56
      refine lv_if_ne (tgt := 26) hx hb dX11_mean_21 (by decide) (fun q => absurd (by decide) q) (fun _ => ?_)
      refine lv_iconst (v := (-1)) hx hb dX11_mean_24 (by decide) ?_
      have G := G.sub (bs' := [[zO10 xo t im mk rd po co tr wa wb_ fi cd], wt, z0_, z1_, wwA, wwB]) [0, 4, 1, 5, 2, 3] rfl
      exact z_back hQz_ (z_iret C hr hlocks G (Nat.le_of_ble_eq_true rfl) (by omega) dX11_mean_25 ⟨laA, mdA, wyA, pc_A, f1A, f2A, f3A, f4A, f5A, f6A, n4A, wwA, laB, mdB, wyB, pc_B, f1B, f2B, f3B, f4B, f5B, f6B, n4B, wwB, rfl, hwwA, hmdA, hwmA, (by first | exact hNAo.symm | exact (zNA_n (by first | omega | grind)).symm), hpwA, (fun q => q), hTbA, hwwB, hmdB, hwmB, (by first | exact hNAo.symm | exact (zNA_n (by first | omega | grind)).symm), hpwB, (fun q => q), hTbB⟩)
set_option maxHeartbeats 4000000 in
set_option maxRecDepth 100000 in
/-- c_t_longest -/
theorem c_t_longest (l : Launch) (T : zTy) (xo : Nat) (t : Nat) (im : Nat) (mk : Nat) (rd : Nat) (po : Nat) (co : Nat) (tr : Nat) (wa : Nat) (wb_ : Nat) (fi : Nat) (cd : Nat) (l0 : Nat) (l1 : Nat) (d0 : Nat) (d1 : Nat) (g0 : Nat) (g1 : Nat) (ln : Int32) (fl : Int32) (pl : Int32) (ft : Nat → Int32) (fk : Nat → Int32) (wt : va_W) (cr0_ : Int32) (inn0_ : Int32) (k10_ : Nat → Int32) (k20_ : Nat → Int32) (k30_ : Nat → Int32) (k40_ : Nat → Int32) (z0_ : va_W) (cr1_ : Int32) (inn1_ : Int32) (k11_ : Nat → Int32) (k21_ : Nat → Int32) (k31_ : Nat → Int32) (k41_ : Nat → Int32) (z1_ : va_W) (laA : Nat) (mdA : Int32) (wyA : Int32) (pc_A : Int32) (f1A : Nat → Int32) (f2A : Nat → Int32) (f3A : Nat → Int32) (f4A : Nat → Int32) (f5A : Nat → Int32) (f6A : Nat → Int32) (n4A : Nat) (wwA : va_W) (laB : Nat) (mdB : Int32) (wyB : Int32) (pc_B : Int32) (f1B : Nat → Int32) (f2B : Nat → Int32) (f3B : Nat → Int32) (f4B : Nat → Int32) (f5B : Nat → Int32) (f6B : Nat → Int32) (n4B : Nat) (wwB : va_W) (i1 : Int32) (a_ : Int32) (w_ : Int32) (q_ : Int32) (ht : bTold T t l0 l1 d0 d1 g0 g1 ln fl pl ft fk wt) (hK : zKT fk) (hz0_ : bLand T l0 cr0_ inn0_ k10_ k20_ k30_ k40_ z0_) (hI0_ : zLI cr0_ k10_ k30_) (hz1_ : bLand T l1 cr1_ inn1_ k11_ k21_ k31_ k41_ z1_) (hI1_ : zLI cr1_ k11_ k31_) (hwwA : bWays T wa laA mdA wyA pc_A f1A f2A f3A f4A f5A f6A n4A wwA) (hpwA : zPw n4A) (hmdA : mdA = 0 ∨ laA = l0) (hwmA : 0 ≤ wyA.toInt ∧ wyA.toInt ≤ 16384) (hTbA : mdA = 0 ∨ zTab cr0_ inn0_ k10_ k20_ wyA pc_A f1A f2A f5A n4A) (hLq0 : zLq cr0_ k10_ k20_) (hwwB : bWays T wb_ laB mdB wyB pc_B f1B f2B f3B f4B f5B f6B n4B wwB) (hpwB : zPw n4B) (hmdB : mdB = 0 ∨ laB = l1) (hwmB : 0 ≤ wyB.toInt ∧ wyB.toInt ≤ 16384) (hTbB : mdB = 0 ∨ zTab cr1_ inn1_ k11_ k21_ wyB pc_B f1B f2B f5B n4B) (hLq1 : zLq cr1_ k11_ k21_) : zMi l T yX11_longest cX11_longest 12 (some .int) 7 3 (6 * (zNA (i1.toInt = 0 ∧ 0 < (fk 0).toInt ∧ 0 ≤ a_.toInt ∧ a_.toInt < cr0_.toInt ∧ a_.toInt < 7) mdA n4A (zPl cr0_ inn0_ k10_) - n4A) + 6 * (zNA (i1.toInt = 1 ∧ 1 < (fk 0).toInt ∧ 0 ≤ a_.toInt ∧ a_.toInt < cr1_.toInt ∧ a_.toInt < 7) mdB n4B (zPl cr1_ inn1_ k11_) - n4B)) [.ref xo, .int i1, .int a_, .int w_, .int q_] [[zO10 xo t im mk rd po co tr wa wb_ fi cd], wt, z0_, z1_, wwA, wwB] (fun (r : Int32) bs => ∃ (laA_2 : Nat) (mdA_2 : Int32) (wyA_2 : Int32) (pc_A_2 : Int32) (f1A_2 : Nat → Int32) (f2A_2 : Nat → Int32) (f3A_2 : Nat → Int32) (f4A_2 : Nat → Int32) (f5A_2 : Nat → Int32) (f6A_2 : Nat → Int32) (n4A_2 : Nat) (wwA_2 : va_W) (laB_2 : Nat) (mdB_2 : Int32) (wyB_2 : Int32) (pc_B_2 : Int32) (f1B_2 : Nat → Int32) (f2B_2 : Nat → Int32) (f3B_2 : Nat → Int32) (f4B_2 : Nat → Int32) (f5B_2 : Nat → Int32) (f6B_2 : Nat → Int32) (n4B_2 : Nat) (wwB_2 : va_W), bs = [[zO10 xo t im mk rd po co tr wa wb_ fi cd], wt, z0_, z1_, wwA_2, wwB_2] ∧ bWays T wa laA_2 mdA_2 wyA_2 pc_A_2 f1A_2 f2A_2 f3A_2 f4A_2 f5A_2 f6A_2 n4A_2 wwA_2 ∧ (mdA_2 = 0 ∨ laA_2 = l0) ∧ (0 ≤ wyA_2.toInt ∧ wyA_2.toInt ≤ 16384) ∧ n4A_2 = zNA (i1.toInt = 0 ∧ 0 < (fk 0).toInt ∧ 0 ≤ a_.toInt ∧ a_.toInt < cr0_.toInt ∧ a_.toInt < 7) mdA n4A (zPl cr0_ inn0_ k10_) ∧ zPw n4A_2 ∧ (¬ mdA = 0 → ¬ mdA_2 = 0) ∧ (mdA_2 = 0 ∨ zTab cr0_ inn0_ k10_ k20_ wyA_2 pc_A_2 f1A_2 f2A_2 f5A_2 n4A_2) ∧ bWays T wb_ laB_2 mdB_2 wyB_2 pc_B_2 f1B_2 f2B_2 f3B_2 f4B_2 f5B_2 f6B_2 n4B_2 wwB_2 ∧ (mdB_2 = 0 ∨ laB_2 = l1) ∧ (0 ≤ wyB_2.toInt ∧ wyB_2.toInt ≤ 16384) ∧ n4B_2 = zNA (i1.toInt = 1 ∧ 1 < (fk 0).toInt ∧ 0 ≤ a_.toInt ∧ a_.toInt < cr1_.toInt ∧ a_.toInt < 7) mdB n4B (zPl cr1_ inn1_ k11_) ∧ zPw n4B_2 ∧ (¬ mdB = 0 → ¬ mdB_2 = 0) ∧ (mdB_2 = 0 ∨ zTab cr1_ inn1_ k11_ k21_ wyB_2 pc_B_2 f1B_2 f2B_2 f5B_2 n4B_2)) := by
  refine zMi_of (own := RX11) (by decide) rfl (Nat.le_of_ble_eq_true rfl) ?_
  intro p e s m args below meth c A ls C hr hlocks hnm hAe G hl
  refine zHide (fun Qz_ hQz_ => ?_)
  have hx := C.1
  have hb := C.2.1
  replace hmdA : zHd (mdA = 0 ∨ laA = l0) := hmdA
  replace hTbA : zHd (mdA = 0 ∨ zTab cr0_ inn0_ k10_ k20_ wyA pc_A f1A f2A f5A n4A) := hTbA
  replace hmdB : zHd (mdB = 0 ∨ laB = l1) := hmdB
  replace hTbB : zHd (mdB = 0 ∨ zTab cr1_ inn1_ k11_ k21_ wyB pc_B f1B f2B f5B n4B) := hTbB
  have hl : lv_has ls 12 [(0, .ref xo), (1, .int i1), (2, .int a_), (3, .int w_), (4, .int q_)] := hl
  refine lv_aload_n hx hb dX11_longest_0 rfl (lv_at hl 0 rfl) ?_
  refine z_get C G clX11 0 rfl 0 (by decide) m_fl_RX11_10 rfl dX11_longest_1 ?_
  refine lv_iload_n hx hb dX11_longest_4 rfl (lv_at hl 1 rfl) ?_
  refine z_Vq (bc := [wt]) (br := [[zO10 xo t im mk rd po co tr wa wb_ fi cd], z0_, z1_, wwA, wwB]) (As := [.int i1]) (rest := []) C G (c_landAt l T t l0 l1 d0 d1 g0 g1 ln fl pl ft fk wt i1 ht) (kV_RX11_121 C.2.2.2.2 (Nat.le_of_ble_eq_true rfl) (Nat.le_of_ble_eq_true rfl)) [1] [1] rfl rfl (ci := 8) (qc := (RX9, TX9, 8)) rfl rfl (List.mem_flatten.mpr ⟨_, List.mem_of_getElem? (i := 0) rfl, (bTold_mem ht).choose_spec⟩) rfl rfl hl.1 dX11_longest_5 (Nat.le_of_ble_eq_true rfl) (by show _ + 0 ≤ 6 * (zNA (i1.toInt = 0 ∧ 0 < (fk 0).toInt ∧ 0 ≤ a_.toInt ∧ a_.toInt < cr0_.toInt ∧ a_.toInt < 7) mdA n4A (zPl cr0_ inn0_ k10_) - n4A) + 6 * (zNA (i1.toInt = 1 ∧ 1 < (fk 0).toInt ∧ 0 ≤ a_.toInt ∧ a_.toInt < cr1_.toInt ∧ a_.toInt < 7) mdB n4B (zPl cr1_ inn1_ k11_) - n4B); omega) (fun r_2 b1 H locs hw G => ?_)
  refine zAn2 hw ?_
  intro hbs9 hc_1
  clear hw
  subst hbs9
  have G : zS T A s.heap s [[zO10 xo t im mk rd po co tr wa wb_ fi cd], z0_, z1_, wwA, wwB, wt] _ _ := G
  rcases hc_1 with ⟨rfl, h_3⟩ | ⟨rfl, h_4, h_5⟩ | ⟨rfl, h_6, h_7⟩
  · have h_3 : (i1.toInt < 0 ∨ (fk 0).toInt ≤ i1.toInt ∨ 2 ≤ i1.toInt) := h_3
    refine lv_astoreN (lv' := [(5, .null), (0, .ref xo), (1, .int i1), (2, .int a_), (3, .int w_), (4, .int q_)]) hx hb dX11_longest_8 hl (by decide) (zLvf_h rfl) (fun ls hl => ?_)
    refine lv_aloadN hx hb dX11_longest_10 (lv_at hl 0 rfl) ?_
    refine lv_ifnullN (tgt := 24) hx hb dX11_longest_12 (by decide) ?_
    refine lv_iconst (v := (-1)) hx hb dX11_longest_24 (by decide) ?_
    have G := G.sub (bs' := [[zO10 xo t im mk rd po co tr wa wb_ fi cd], wt, z0_, z1_, wwA, wwB]) [0, 5, 1, 2, 3, 4] rfl
    exact z_back hQz_ (z_iret C hr hlocks G (Nat.le_of_ble_eq_true rfl) (by omega) dX11_longest_25 ⟨laA, mdA, wyA, pc_A, f1A, f2A, f3A, f4A, f5A, f6A, n4A, wwA, laB, mdB, wyB, pc_B, f1B, f2B, f3B, f4B, f5B, f6B, n4B, wwB, rfl, hwwA, hmdA, hwmA, (by first | exact hNAo.symm | exact (zNA_n (by first | omega | grind)).symm), hpwA, (fun q => q), hTbA, hwwB, hmdB, hwmB, (by first | exact hNAo.symm | exact (zNA_n (by first | omega | grind)).symm), hpwB, (fun q => q), hTbB⟩)
  · have h_4 : i1.toInt = 0 := h_4
    have h_5 : 0 < (fk 0).toInt := h_5
    refine lv_astore (lv' := [(5, .ref l0), (0, .ref xo), (1, .int i1), (2, .int a_), (3, .int w_), (4, .int q_)]) hx hb dX11_longest_8 hl (by decide) (zLvf_h rfl) (fun ls hl => ?_)
    refine lv_aload hx hb dX11_longest_10 (lv_at hl 0 rfl) ?_
    refine lv_ifnull hx hb dX11_longest_12 ?_
    refine lv_aload hx hb dX11_longest_15 (lv_at hl 0 rfl) ?_
    refine lv_iload_n hx hb dX11_longest_17 rfl (lv_at hl 3 rfl) ?_
    refine z_Vi (bc := [z0_]) (br := [[zO10 xo t im mk rd po co tr wa wb_ fi cd], z1_, wwA, wwB, wt]) (As := [.int a_]) (rest := []) C G (c_has l T l0 cr0_ inn0_ k10_ k20_ k30_ k40_ z0_ a_ hz0_) (kV_RX11_160 C.2.2.2.2 (Nat.le_of_ble_eq_true rfl) (Nat.le_of_ble_eq_true rfl)) [1] [1] rfl rfl (ci := 4) (qc := (RX4, TX4, 6)) rfl rfl (List.mem_flatten.mpr ⟨_, List.mem_of_getElem? (i := 0) rfl, (bLand_mem hz0_).choose_spec⟩) rfl rfl hl.1 dX11_longest_18 (Nat.le_of_ble_eq_true rfl) (by show _ + 0 ≤ 6 * (zNA (i1.toInt = 0 ∧ 0 < (fk 0).toInt ∧ 0 ≤ a_.toInt ∧ a_.toInt < cr0_.toInt ∧ a_.toInt < 7) mdA n4A (zPl cr0_ inn0_ k10_) - n4A) + 6 * (zNA (i1.toInt = 1 ∧ 1 < (fk 0).toInt ∧ 0 ≤ a_.toInt ∧ a_.toInt < cr1_.toInt ∧ a_.toInt < 7) mdB n4B (zPl cr1_ inn1_ k11_) - n4B); omega) (fun r_9 b1 H locs hw G => ?_)
    refine zAn2 hw ?_
    intro hbs9 hc_8
    clear hw
    subst hbs9
    have G : zS T A s.heap s [[zO10 xo t im mk rd po co tr wa wb_ fi cd], z1_, wwA, wwB, wt, z0_] _ _ := G
    rcases hc_8 with ⟨rfl, h_10, h_11, h_12⟩ | ⟨rfl, h_13⟩
    · have h_10 : 0 ≤ a_.toInt := h_10
      have h_11 : a_.toInt < cr0_.toInt := h_11
      have h_12 : a_.toInt < 7 := h_12
      refine lv_if_ne (tgt := 26) hx hb dX11_longest_21 (by decide) (fun _ => ?_) (fun q => absurd q (by decide))
      refine lv_aload_n hx hb dX11_longest_26 rfl (lv_at hl 1 rfl) ?_
      refine lv_iload_n hx hb dX11_longest_27 rfl (lv_at hl 2 rfl) ?_
      refine lv_aload hx hb dX11_longest_28 (lv_at hl 0 rfl) ?_
      have hNAm : zNA (i1.toInt = 0 ∧ 0 < (fk 0).toInt ∧ 0 ≤ a_.toInt ∧ a_.toInt < cr0_.toInt ∧ a_.toInt < 7) mdA n4A (zPl cr0_ inn0_ k10_) = zMk mdA n4A (zPl cr0_ inn0_ k10_) := zNA_y (by first | omega | (repeat' (first | omega | assumption | constructor)))
      have hNAo : zNA (i1.toInt = 1 ∧ 1 < (fk 0).toInt ∧ 0 ≤ a_.toInt ∧ a_.toInt < cr1_.toInt ∧ a_.toInt < 7) mdB n4B (zPl cr1_ inn1_ k11_) = n4B := zNA_n (by omega)
      have hn9 : zMk mdA n4A (zPl cr0_ inn0_ k10_) ≤ 131072 := zPw_le (zMk_pw hpwA)
      refine z_Vq (bc := [[zO10 xo t im mk rd po co tr wa wb_ fi cd], wwA, z0_]) (br := [z1_, wwB, wt]) (As := [.int i1, .ref l0]) (rest := []) C G (c_f_waysInA l T xo t im mk rd po co tr wa wb_ fi cd i1 laA mdA wyA pc_A f1A f2A f3A f4A f5A f6A n4A wwA l0 cr0_ inn0_ k10_ k20_ k30_ k40_ z0_ hwwA hz0_ hI0_ hpwA hmdA (kaOk hI0_ hLq0).1 hTbA (by omega)) (kV_RX11_235 C.2.2.2.2 (Nat.le_of_ble_eq_true rfl) (Nat.le_of_ble_eq_true rfl)) [0, 2, 5] [0, 1, 2] rfl rfl (ci := 10) (qc := (RX11, TX11, 11)) rfl rfl (List.mem_flatten.mpr ⟨_, List.mem_of_getElem? (i := 0) rfl, List.mem_cons_self⟩) rfl rfl hl.1 dX11_longest_30 (Nat.le_of_ble_eq_true rfl) (by show _ + (6 * (zMk mdA n4A (zPl cr0_ inn0_ k10_) - n4A)) ≤ 6 * (zNA (i1.toInt = 0 ∧ 0 < (fk 0).toInt ∧ 0 ≤ a_.toInt ∧ a_.toInt < cr0_.toInt ∧ a_.toInt < 7) mdA n4A (zPl cr0_ inn0_ k10_) - n4A) + 6 * (zNA (i1.toInt = 1 ∧ 1 < (fk 0).toInt ∧ 0 ≤ a_.toInt ∧ a_.toInt < cr1_.toInt ∧ a_.toInt < 7) mdB n4B (zPl cr1_ inn1_ k11_) - n4B); omega) (fun r_28 b1 H locs hw G => ?_)
      refine zEx9 hw ?_
      intro w2_14 m2_15 wy2_16 pc2_17 g1_18 g2_19 g4_20 g5_21 g6_22
      refine zCu6 ?_
      intro hbs9 h_23 h_24 h_25 h_26 h_27
      clear hw
      subst hbs9
      have G : zS T A s.heap s [z1_, wwB, wt, [zO10 xo t im mk rd po co tr wa wb_ fi cd], w2_14, z0_] _ _ := G
      subst h_23
      have hwy9 : 0 ≤ wy2_16.toInt ∧ wy2_16.toInt ≤ 16384 := by have q9 := zWy_in (inn := inn0_) hI0_; rw [h_25]; exact ⟨by omega, q9.2⟩
      have hp79 : aPr (aW cr0_ inn0_ k10_) 7 ≤ 16384 := aPr_7 hI0_
      have hwN9 : wy2_16 = nI (aPr (aW cr0_ inn0_ k10_) 7) := h_25.trans (zWy_z hI0_)
      have hwT9 : wy2_16.toInt = ((aPr (aW cr0_ inn0_ k10_) 7 : Nat) : Int) := by rw [hwN9, nI_toInt (by omega)]
      have hOk9 := (kaOk (inn := inn0_) hI0_ hLq0).1
      have hc79 := hI0_.1
      refine lv_astore (lv' := [(6, .ref wa), (5, .ref l0), (0, .ref xo), (1, .int i1), (2, .int a_), (3, .int w_), (4, .int q_)]) hx hb dX11_longest_33 hl (by decide) (zLvf_h rfl) (fun ls hl => ?_)
      refine lv_iconst (v := (-1)) hx hb dX11_longest_35 (by decide) ?_
      refine lv_istore (lv' := [(7, .int (-1)), (6, .ref wa), (5, .ref l0), (0, .ref xo), (1, .int i1), (2, .int a_), (3, .int w_), (4, .int q_)]) hx hb dX11_longest_36 hl (by decide) (zLvf_h rfl) (fun ls hl => ?_)
      refine lv_iconst (v := (-1)) hx hb dX11_longest_38 (by decide) ?_
      refine lv_istore (lv' := [(8, .int (-1)), (7, .int (-1)), (6, .ref wa), (5, .ref l0), (0, .ref xo), (1, .int i1), (2, .int a_), (3, .int w_), (4, .int q_)]) hx hb dX11_longest_39 hl (by decide) (zLvf_h rfl) (fun ls hl => ?_)
      refine lv_iconst (v := 0) hx hb dX11_longest_41 (by decide) ?_
      refine lv_istore (lv' := [(9, .int 0), (8, .int (-1)), (7, .int (-1)), (6, .ref wa), (5, .ref l0), (0, .ref xo), (1, .int i1), (2, .int a_), (3, .int w_), (4, .int q_)]) hx hb dX11_longest_42 hl (by decide) (zLvf_h rfl) (fun ls hl => ?_)
      refine zEx6 h_24 ?_
      intro a1_29 a2_30 a3_31 a4_32 a5_33 a6_34 hbs9
      clear h_24
      subst hbs9
      have G : zS T A s.heap s [z1_, wwB, wt, [zO10 xo t im mk rd po co tr wa wb_ fi cd], [zO0 wa m2_15 wy2_16 l0 pc2_17 a1_29 a2_30 a3_31 a4_32 a5_33 a6_34], [zAr T 0 a1_29 7 g1_18], [zAr T 0 a2_30 7 g2_19], [zAr T 0 a3_31 7 f3A], [zAr T 0 a4_32 (zMk mdA n4A (zPl cr0_ inn0_ k10_)) g4_20], [zAr T 0 a5_33 (zMk mdA n4A (zPl cr0_ inn0_ k10_)) g5_21], [zAr T 0 a6_34 (zMk mdA n4A (zPl cr0_ inn0_ k10_)) g6_22], z0_] _ _ := G.re rfl
      have hw_35 : bWays T wa l0 m2_15 wy2_16 pc2_17 g1_18 g2_19 f3A g4_20 g5_21 g6_22 (zMk mdA n4A (zPl cr0_ inn0_ k10_)) [zO0 wa m2_15 wy2_16 l0 pc2_17 a1_29 a2_30 a3_31 a4_32 a5_33 a6_34, zAr T 0 a1_29 7 g1_18, zAr T 0 a2_30 7 g2_19, zAr T 0 a3_31 7 f3A, zAr T 0 a4_32 (zMk mdA n4A (zPl cr0_ inn0_ k10_)) g4_20, zAr T 0 a5_33 (zMk mdA n4A (zPl cr0_ inn0_ k10_)) g5_21, zAr T 0 a6_34 (zMk mdA n4A (zPl cr0_ inn0_ k10_)) g6_22] := ⟨a1_29, a2_30, a3_31, a4_32, a5_33, a6_34, rfl⟩
      have G : zS T A s.heap s [z1_, wwB, wt, [zO10 xo t im mk rd po co tr wa wb_ fi cd], [zO0 wa m2_15 wy2_16 l0 pc2_17 a1_29 a2_30 a3_31 a4_32 a5_33 a6_34, zAr T 0 a1_29 7 g1_18, zAr T 0 a2_30 7 g2_19, zAr T 0 a3_31 7 f3A, zAr T 0 a4_32 (zMk mdA n4A (zPl cr0_ inn0_ k10_)) g4_20, zAr T 0 a5_33 (zMk mdA n4A (zPl cr0_ inn0_ k10_)) g5_21, zAr T 0 a6_34 (zMk mdA n4A (zPl cr0_ inn0_ k10_)) g6_22], z0_] _ _ := G.re rfl
      refine z_lp3 (T := T) 44 (fun (i : Nat) (u7 : Int32) (u8 : Int32) => [z1_, wwB, wt, [zO10 xo t im mk rd po co tr wa wb_ fi cd], [zO0 wa m2_15 wy2_16 l0 pc2_17 a1_29 a2_30 a3_31 a4_32 a5_33 a6_34, zAr T 0 a1_29 7 g1_18, zAr T 0 a2_30 7 g2_19, zAr T 0 a3_31 7 f3A, zAr T 0 a4_32 (zMk mdA n4A (zPl cr0_ inn0_ k10_)) g4_20, zAr T 0 a5_33 (zMk mdA n4A (zPl cr0_ inn0_ k10_)) g5_21, zAr T 0 a6_34 (zMk mdA n4A (zPl cr0_ inn0_ k10_)) g6_22], z0_]) (fun (i : Nat) (u7 : Int32) (u8 : Int32) => [(9, .int (nI i)), (8, .int u8), (7, .int u7), (6, .ref wa), (5, .ref l0), (0, .ref xo), (1, .int i1), (2, .int a_), (3, .int w_), (4, .int q_)]) (fun (i : Nat) (u7 : Int32) (u8 : Int32) => i ≤ aPr (aW cr0_ inn0_ k10_) 7) (fun (i : Nat) (u7 : Int32) (u8 : Int32) => aPr (aW cr0_ inn0_ k10_) 7 - i) ?_ 0 (-1) (-1) (show 0 ≤ aPr (aW cr0_ inn0_ k10_) 7 from (Nat.zero_le _)) G (lv_sub hl [0, 1, 2, 3, 4, 5, 6, 7, 8, 9] rfl)
      intro i u7 u8 hi ih_44 H locs ls G hl
      replace hi : i ≤ aPr (aW cr0_ inn0_ k10_) 7 := hi
      replace G : zS T A s.heap s [z1_, wwB, wt, [zO10 xo t im mk rd po co tr wa wb_ fi cd], [zO0 wa m2_15 wy2_16 l0 pc2_17 a1_29 a2_30 a3_31 a4_32 a5_33 a6_34, zAr T 0 a1_29 7 g1_18, zAr T 0 a2_30 7 g2_19, zAr T 0 a3_31 7 f3A, zAr T 0 a4_32 (zMk mdA n4A (zPl cr0_ inn0_ k10_)) g4_20, zAr T 0 a5_33 (zMk mdA n4A (zPl cr0_ inn0_ k10_)) g5_21, zAr T 0 a6_34 (zMk mdA n4A (zPl cr0_ inn0_ k10_)) g6_22], z0_] _ _ := G
      replace hl : lv_has ls 12 [(9, .int (nI i)), (8, .int u8), (7, .int u7), (6, .ref wa), (5, .ref l0), (0, .ref xo), (1, .int i1), (2, .int a_), (3, .int w_), (4, .int q_)] := hl
      refine lv_iload hx hb dX11_longest_44 (lv_at hl 0 rfl) ?_
      refine lv_aload hx hb dX11_longest_46 (lv_at hl 3 rfl) ?_
      have G : zS T A s.heap s [z1_, wwB, wt, [zO10 xo t im mk rd po co tr wa wb_ fi cd], [zO0 wa m2_15 wy2_16 l0 pc2_17 a1_29 a2_30 a3_31 a4_32 a5_33 a6_34], [zAr T 0 a1_29 7 g1_18], [zAr T 0 a2_30 7 g2_19], [zAr T 0 a3_31 7 f3A], [zAr T 0 a4_32 (zMk mdA n4A (zPl cr0_ inn0_ k10_)) g4_20], [zAr T 0 a5_33 (zMk mdA n4A (zPl cr0_ inn0_ k10_)) g5_21], [zAr T 0 a6_34 (zMk mdA n4A (zPl cr0_ inn0_ k10_)) g6_22], z0_] _ _ := G.re rfl
      refine z_get C G clX0 4 rfl 1 (by decide) m_fl_RX11_257 rfl dX11_longest_48 ?_
      refine lv_icmp_ge (tgt := 133) hx hb dX11_longest_51 (by decide) (fun c_36 => ?_) (fun c_36 => ?_)
      · have c_36n : wy2_16.toInt ≤ (i : Int) := by have q := (fa_le _ _).mp c_36; rw [nI_toInt (n := i) (by omega)] at q; exact q
        refine lv_iload hx hb dX11_longest_133 (lv_at hl 9 rfl) ?_
        refine lv_if_eq (tgt := 154) hx hb dX11_longest_135 (by decide) (fun c_37 => ?_) (fun c_37 => ?_)
        · have c_37n : q_.toInt = (0 : Int) := (fa_eq _ _).mp c_37
          refine lv_iload hx hb dX11_longest_154 (lv_at hl 2 rfl) ?_
          have hw_38 : bWays T wa l0 m2_15 wy2_16 pc2_17 g1_18 g2_19 f3A g4_20 g5_21 g6_22 (zMk mdA n4A (zPl cr0_ inn0_ k10_)) [zO0 wa m2_15 wy2_16 l0 pc2_17 a1_29 a2_30 a3_31 a4_32 a5_33 a6_34, zAr T 0 a1_29 7 g1_18, zAr T 0 a2_30 7 g2_19, zAr T 0 a3_31 7 f3A, zAr T 0 a4_32 (zMk mdA n4A (zPl cr0_ inn0_ k10_)) g4_20, zAr T 0 a5_33 (zMk mdA n4A (zPl cr0_ inn0_ k10_)) g5_21, zAr T 0 a6_34 (zMk mdA n4A (zPl cr0_ inn0_ k10_)) g6_22] := ⟨a1_29, a2_30, a3_31, a4_32, a5_33, a6_34, rfl⟩
          have G : zS T A s.heap s [z1_, wwB, wt, [zO10 xo t im mk rd po co tr wa wb_ fi cd], [zO0 wa m2_15 wy2_16 l0 pc2_17 a1_29 a2_30 a3_31 a4_32 a5_33 a6_34, zAr T 0 a1_29 7 g1_18, zAr T 0 a2_30 7 g2_19, zAr T 0 a3_31 7 f3A, zAr T 0 a4_32 (zMk mdA n4A (zPl cr0_ inn0_ k10_)) g4_20, zAr T 0 a5_33 (zMk mdA n4A (zPl cr0_ inn0_ k10_)) g5_21, zAr T 0 a6_34 (zMk mdA n4A (zPl cr0_ inn0_ k10_)) g6_22], z0_] _ _ := G.re rfl
          have G := G.sub (bs' := [[zO10 xo t im mk rd po co tr wa wb_ fi cd], wt, z0_, z1_, [zO0 wa m2_15 wy2_16 l0 pc2_17 a1_29 a2_30 a3_31 a4_32 a5_33 a6_34, zAr T 0 a1_29 7 g1_18, zAr T 0 a2_30 7 g2_19, zAr T 0 a3_31 7 f3A, zAr T 0 a4_32 (zMk mdA n4A (zPl cr0_ inn0_ k10_)) g4_20, zAr T 0 a5_33 (zMk mdA n4A (zPl cr0_ inn0_ k10_)) g5_21, zAr T 0 a6_34 (zMk mdA n4A (zPl cr0_ inn0_ k10_)) g6_22], wwB]) [3, 2, 5, 0, 4, 1] rfl
          exact z_back hQz_ (z_iret C hr hlocks G (Nat.le_of_ble_eq_true rfl) (by omega) dX11_longest_156 ⟨l0, m2_15, wy2_16, pc2_17, g1_18, g2_19, f3A, g4_20, g5_21, g6_22, (zMk mdA n4A (zPl cr0_ inn0_ k10_)), ([zO0 wa m2_15 wy2_16 l0 pc2_17 a1_29 a2_30 a3_31 a4_32 a5_33 a6_34, zAr T 0 a1_29 7 g1_18, zAr T 0 a2_30 7 g2_19, zAr T 0 a3_31 7 f3A, zAr T 0 a4_32 (zMk mdA n4A (zPl cr0_ inn0_ k10_)) g4_20, zAr T 0 a5_33 (zMk mdA n4A (zPl cr0_ inn0_ k10_)) g5_21, zAr T 0 a6_34 (zMk mdA n4A (zPl cr0_ inn0_ k10_)) g6_22]), laB, mdB, wyB, pc_B, f1B, f2B, f3B, f4B, f5B, f6B, n4B, wwB, rfl, hw_38, (Or.inr rfl), hwy9, hNAm.symm, (zMk_pw hpwA), (fun _ => h_26), (Or.inr h_27), hwwB, hmdB, hwmB, (by first | exact hNAo.symm | exact (zNA_n (by first | omega | grind)).symm), hpwB, (fun q => q), hTbB⟩)
        · have c_37n : ¬ q_.toInt = (0 : Int) := fun q => c_37 ((fa_eq _ _).mpr q)
          refine lv_iload hx hb dX11_longest_138 (lv_at hl 1 rfl) ?_
          refine lv_iconst (v := (-1)) hx hb dX11_longest_140 (by decide) ?_
          refine lv_icmp_eq (tgt := 154) hx hb dX11_longest_141 (by decide) (fun c_39 => ?_) (fun c_39 => ?_)
          · have c_39n : u8.toInt = (-1 : Int) := (fa_eq _ _).mp c_39
            refine lv_iload hx hb dX11_longest_154 (lv_at hl 2 rfl) ?_
            have hw_40 : bWays T wa l0 m2_15 wy2_16 pc2_17 g1_18 g2_19 f3A g4_20 g5_21 g6_22 (zMk mdA n4A (zPl cr0_ inn0_ k10_)) [zO0 wa m2_15 wy2_16 l0 pc2_17 a1_29 a2_30 a3_31 a4_32 a5_33 a6_34, zAr T 0 a1_29 7 g1_18, zAr T 0 a2_30 7 g2_19, zAr T 0 a3_31 7 f3A, zAr T 0 a4_32 (zMk mdA n4A (zPl cr0_ inn0_ k10_)) g4_20, zAr T 0 a5_33 (zMk mdA n4A (zPl cr0_ inn0_ k10_)) g5_21, zAr T 0 a6_34 (zMk mdA n4A (zPl cr0_ inn0_ k10_)) g6_22] := ⟨a1_29, a2_30, a3_31, a4_32, a5_33, a6_34, rfl⟩
            have G : zS T A s.heap s [z1_, wwB, wt, [zO10 xo t im mk rd po co tr wa wb_ fi cd], [zO0 wa m2_15 wy2_16 l0 pc2_17 a1_29 a2_30 a3_31 a4_32 a5_33 a6_34, zAr T 0 a1_29 7 g1_18, zAr T 0 a2_30 7 g2_19, zAr T 0 a3_31 7 f3A, zAr T 0 a4_32 (zMk mdA n4A (zPl cr0_ inn0_ k10_)) g4_20, zAr T 0 a5_33 (zMk mdA n4A (zPl cr0_ inn0_ k10_)) g5_21, zAr T 0 a6_34 (zMk mdA n4A (zPl cr0_ inn0_ k10_)) g6_22], z0_] _ _ := G.re rfl
            have G := G.sub (bs' := [[zO10 xo t im mk rd po co tr wa wb_ fi cd], wt, z0_, z1_, [zO0 wa m2_15 wy2_16 l0 pc2_17 a1_29 a2_30 a3_31 a4_32 a5_33 a6_34, zAr T 0 a1_29 7 g1_18, zAr T 0 a2_30 7 g2_19, zAr T 0 a3_31 7 f3A, zAr T 0 a4_32 (zMk mdA n4A (zPl cr0_ inn0_ k10_)) g4_20, zAr T 0 a5_33 (zMk mdA n4A (zPl cr0_ inn0_ k10_)) g5_21, zAr T 0 a6_34 (zMk mdA n4A (zPl cr0_ inn0_ k10_)) g6_22], wwB]) [3, 2, 5, 0, 4, 1] rfl
            exact z_back hQz_ (z_iret C hr hlocks G (Nat.le_of_ble_eq_true rfl) (by omega) dX11_longest_156 ⟨l0, m2_15, wy2_16, pc2_17, g1_18, g2_19, f3A, g4_20, g5_21, g6_22, (zMk mdA n4A (zPl cr0_ inn0_ k10_)), ([zO0 wa m2_15 wy2_16 l0 pc2_17 a1_29 a2_30 a3_31 a4_32 a5_33 a6_34, zAr T 0 a1_29 7 g1_18, zAr T 0 a2_30 7 g2_19, zAr T 0 a3_31 7 f3A, zAr T 0 a4_32 (zMk mdA n4A (zPl cr0_ inn0_ k10_)) g4_20, zAr T 0 a5_33 (zMk mdA n4A (zPl cr0_ inn0_ k10_)) g5_21, zAr T 0 a6_34 (zMk mdA n4A (zPl cr0_ inn0_ k10_)) g6_22]), laB, mdB, wyB, pc_B, f1B, f2B, f3B, f4B, f5B, f6B, n4B, wwB, rfl, hw_40, (Or.inr rfl), hwy9, hNAm.symm, (zMk_pw hpwA), (fun _ => h_26), (Or.inr h_27), hwwB, hmdB, hwmB, (by first | exact hNAo.symm | exact (zNA_n (by first | omega | grind)).symm), hpwB, (fun q => q), hTbB⟩)
          · have c_39n : ¬ u8.toInt = (-1 : Int) := fun q => c_39 ((fa_eq _ _).mpr q)
            refine lv_aload hx hb dX11_longest_144 (lv_at hl 3 rfl) ?_
            refine lv_iload hx hb dX11_longest_146 (lv_at hl 1 rfl) ?_
            have hw_41 : bWays T wa l0 m2_15 wy2_16 pc2_17 g1_18 g2_19 f3A g4_20 g5_21 g6_22 (zMk mdA n4A (zPl cr0_ inn0_ k10_)) [zO0 wa m2_15 wy2_16 l0 pc2_17 a1_29 a2_30 a3_31 a4_32 a5_33 a6_34, zAr T 0 a1_29 7 g1_18, zAr T 0 a2_30 7 g2_19, zAr T 0 a3_31 7 f3A, zAr T 0 a4_32 (zMk mdA n4A (zPl cr0_ inn0_ k10_)) g4_20, zAr T 0 a5_33 (zMk mdA n4A (zPl cr0_ inn0_ k10_)) g5_21, zAr T 0 a6_34 (zMk mdA n4A (zPl cr0_ inn0_ k10_)) g6_22] := ⟨a1_29, a2_30, a3_31, a4_32, a5_33, a6_34, rfl⟩
            have G : zS T A s.heap s [z1_, wwB, wt, [zO10 xo t im mk rd po co tr wa wb_ fi cd], [zO0 wa m2_15 wy2_16 l0 pc2_17 a1_29 a2_30 a3_31 a4_32 a5_33 a6_34, zAr T 0 a1_29 7 g1_18, zAr T 0 a2_30 7 g2_19, zAr T 0 a3_31 7 f3A, zAr T 0 a4_32 (zMk mdA n4A (zPl cr0_ inn0_ k10_)) g4_20, zAr T 0 a5_33 (zMk mdA n4A (zPl cr0_ inn0_ k10_)) g5_21, zAr T 0 a6_34 (zMk mdA n4A (zPl cr0_ inn0_ k10_)) g6_22], z0_] _ _ := G.re rfl
            refine z_Vi (bc := [[zO0 wa m2_15 wy2_16 l0 pc2_17 a1_29 a2_30 a3_31 a4_32 a5_33 a6_34, zAr T 0 a1_29 7 g1_18, zAr T 0 a2_30 7 g2_19, zAr T 0 a3_31 7 f3A, zAr T 0 a4_32 (zMk mdA n4A (zPl cr0_ inn0_ k10_)) g4_20, zAr T 0 a5_33 (zMk mdA n4A (zPl cr0_ inn0_ k10_)) g5_21, zAr T 0 a6_34 (zMk mdA n4A (zPl cr0_ inn0_ k10_)) g6_22], z0_]) (br := [z1_, wwB, wt, [zO10 xo t im mk rd po co tr wa wb_ fi cd]]) (As := [.int u8]) (rest := []) C G (c_number l T wa l0 m2_15 wy2_16 pc2_17 g1_18 g2_19 f3A g4_20 g5_21 g6_22 (zMk mdA n4A (zPl cr0_ inn0_ k10_)) ([zO0 wa m2_15 wy2_16 l0 pc2_17 a1_29 a2_30 a3_31 a4_32 a5_33 a6_34, zAr T 0 a1_29 7 g1_18, zAr T 0 a2_30 7 g2_19, zAr T 0 a3_31 7 f3A, zAr T 0 a4_32 (zMk mdA n4A (zPl cr0_ inn0_ k10_)) g4_20, zAr T 0 a5_33 (zMk mdA n4A (zPl cr0_ inn0_ k10_)) g5_21, zAr T 0 a6_34 (zMk mdA n4A (zPl cr0_ inn0_ k10_)) g6_22]) cr0_ inn0_ k10_ k20_ k30_ k40_ z0_ u8 hw_41 hz0_ (by first | with_reducible assumption | with_reducible rfl | omega | assumption | rfl)) (kV_RX11_272 C.2.2.2.2 (Nat.le_of_ble_eq_true rfl) (Nat.le_of_ble_eq_true rfl)) [4, 5] [4, 0] rfl rfl (ci := 0) (qc := (RX0, TX0, 10)) rfl rfl (List.mem_flatten.mpr ⟨_, List.mem_of_getElem? (i := 0) rfl, (bWays_mem hw_41).choose_spec⟩) rfl rfl hl.1 dX11_longest_148 (Nat.le_of_ble_eq_true rfl) (by show _ + 0 ≤ 6 * (zNA (i1.toInt = 0 ∧ 0 < (fk 0).toInt ∧ 0 ≤ a_.toInt ∧ a_.toInt < cr0_.toInt ∧ a_.toInt < 7) mdA n4A (zPl cr0_ inn0_ k10_) - n4A) + 6 * (zNA (i1.toInt = 1 ∧ 1 < (fk 0).toInt ∧ 0 ≤ a_.toInt ∧ a_.toInt < cr1_.toInt ∧ a_.toInt < 7) mdB n4B (zPl cr1_ inn1_ k11_) - n4B); omega) (fun r_42 b1 H locs hw G => ?_)
            obtain rfl := hw
            have G : zS T A s.heap s [z1_, wwB, wt, [zO10 xo t im mk rd po co tr wa wb_ fi cd], [zO0 wa m2_15 wy2_16 l0 pc2_17 a1_29 a2_30 a3_31 a4_32 a5_33 a6_34, zAr T 0 a1_29 7 g1_18, zAr T 0 a2_30 7 g2_19, zAr T 0 a3_31 7 f3A, zAr T 0 a4_32 (zMk mdA n4A (zPl cr0_ inn0_ k10_)) g4_20, zAr T 0 a5_33 (zMk mdA n4A (zPl cr0_ inn0_ k10_)) g5_21, zAr T 0 a6_34 (zMk mdA n4A (zPl cr0_ inn0_ k10_)) g6_22], z0_] _ _ := G
            refine lv_goto (tgt := 156) hx hb dX11_longest_151 (by decide) ?_
            have G := G.sub (bs' := [[zO10 xo t im mk rd po co tr wa wb_ fi cd], wt, z0_, z1_, [zO0 wa m2_15 wy2_16 l0 pc2_17 a1_29 a2_30 a3_31 a4_32 a5_33 a6_34, zAr T 0 a1_29 7 g1_18, zAr T 0 a2_30 7 g2_19, zAr T 0 a3_31 7 f3A, zAr T 0 a4_32 (zMk mdA n4A (zPl cr0_ inn0_ k10_)) g4_20, zAr T 0 a5_33 (zMk mdA n4A (zPl cr0_ inn0_ k10_)) g5_21, zAr T 0 a6_34 (zMk mdA n4A (zPl cr0_ inn0_ k10_)) g6_22], wwB]) [3, 2, 5, 0, 4, 1] rfl
            exact z_back hQz_ (z_iret C hr hlocks G (Nat.le_of_ble_eq_true rfl) (by omega) dX11_longest_156 ⟨l0, m2_15, wy2_16, pc2_17, g1_18, g2_19, f3A, g4_20, g5_21, g6_22, (zMk mdA n4A (zPl cr0_ inn0_ k10_)), ([zO0 wa m2_15 wy2_16 l0 pc2_17 a1_29 a2_30 a3_31 a4_32 a5_33 a6_34, zAr T 0 a1_29 7 g1_18, zAr T 0 a2_30 7 g2_19, zAr T 0 a3_31 7 f3A, zAr T 0 a4_32 (zMk mdA n4A (zPl cr0_ inn0_ k10_)) g4_20, zAr T 0 a5_33 (zMk mdA n4A (zPl cr0_ inn0_ k10_)) g5_21, zAr T 0 a6_34 (zMk mdA n4A (zPl cr0_ inn0_ k10_)) g6_22]), laB, mdB, wyB, pc_B, f1B, f2B, f3B, f4B, f5B, f6B, n4B, wwB, rfl, hw_41, (Or.inr rfl), hwy9, hNAm.symm, (zMk_pw hpwA), (fun _ => h_26), (Or.inr h_27), hwwB, hmdB, hwmB, (by first | exact hNAo.symm | exact (zNA_n (by first | omega | grind)).symm), hpwB, (fun q => q), hTbB⟩)
      · have c_36n : ¬ wy2_16.toInt ≤ (i : Int) := fun q => c_36 ((fa_le _ _).mpr (by rw [nI_toInt (n := i) (by omega)]; exact q))
        refine lv_aload hx hb dX11_longest_54 (lv_at hl 3 rfl) ?_
        refine lv_iload hx hb dX11_longest_56 (lv_at hl 0 rfl) ?_
        refine lv_iload_n hx hb dX11_longest_58 rfl (lv_at hl 7 rfl) ?_
        have hw_43 : bWays T wa l0 m2_15 wy2_16 pc2_17 g1_18 g2_19 f3A g4_20 g5_21 g6_22 (zMk mdA n4A (zPl cr0_ inn0_ k10_)) [zO0 wa m2_15 wy2_16 l0 pc2_17 a1_29 a2_30 a3_31 a4_32 a5_33 a6_34, zAr T 0 a1_29 7 g1_18, zAr T 0 a2_30 7 g2_19, zAr T 0 a3_31 7 f3A, zAr T 0 a4_32 (zMk mdA n4A (zPl cr0_ inn0_ k10_)) g4_20, zAr T 0 a5_33 (zMk mdA n4A (zPl cr0_ inn0_ k10_)) g5_21, zAr T 0 a6_34 (zMk mdA n4A (zPl cr0_ inn0_ k10_)) g6_22] := ⟨a1_29, a2_30, a3_31, a4_32, a5_33, a6_34, rfl⟩
        have G : zS T A s.heap s [z1_, wwB, wt, [zO10 xo t im mk rd po co tr wa wb_ fi cd], [zO0 wa m2_15 wy2_16 l0 pc2_17 a1_29 a2_30 a3_31 a4_32 a5_33 a6_34, zAr T 0 a1_29 7 g1_18, zAr T 0 a2_30 7 g2_19, zAr T 0 a3_31 7 f3A, zAr T 0 a4_32 (zMk mdA n4A (zPl cr0_ inn0_ k10_)) g4_20, zAr T 0 a5_33 (zMk mdA n4A (zPl cr0_ inn0_ k10_)) g5_21, zAr T 0 a6_34 (zMk mdA n4A (zPl cr0_ inn0_ k10_)) g6_22], z0_] _ _ := G.re rfl
        refine z_Vi (bc := [[zO0 wa m2_15 wy2_16 l0 pc2_17 a1_29 a2_30 a3_31 a4_32 a5_33 a6_34, zAr T 0 a1_29 7 g1_18, zAr T 0 a2_30 7 g2_19, zAr T 0 a3_31 7 f3A, zAr T 0 a4_32 (zMk mdA n4A (zPl cr0_ inn0_ k10_)) g4_20, zAr T 0 a5_33 (zMk mdA n4A (zPl cr0_ inn0_ k10_)) g5_21, zAr T 0 a6_34 (zMk mdA n4A (zPl cr0_ inn0_ k10_)) g6_22]]) (br := [z1_, wwB, wt, [zO10 xo t im mk rd po co tr wa wb_ fi cd], z0_]) (As := [.int (nI i), .int a_]) (rest := []) C G (c_steps l T wa l0 m2_15 wy2_16 pc2_17 g1_18 g2_19 f3A g4_20 g5_21 g6_22 (zMk mdA n4A (zPl cr0_ inn0_ k10_)) ([zO0 wa m2_15 wy2_16 l0 pc2_17 a1_29 a2_30 a3_31 a4_32 a5_33 a6_34, zAr T 0 a1_29 7 g1_18, zAr T 0 a2_30 7 g2_19, zAr T 0 a3_31 7 f3A, zAr T 0 a4_32 (zMk mdA n4A (zPl cr0_ inn0_ k10_)) g4_20, zAr T 0 a5_33 (zMk mdA n4A (zPl cr0_ inn0_ k10_)) g5_21, zAr T 0 a6_34 (zMk mdA n4A (zPl cr0_ inn0_ k10_)) g6_22]) (nI i) a_ hw_43 (by first | with_reducible assumption | with_reducible rfl | omega | assumption | rfl)) (kV_RX11_266 C.2.2.2.2 (Nat.le_of_ble_eq_true rfl) (Nat.le_of_ble_eq_true rfl)) [4] [4] rfl rfl (ci := 0) (qc := (RX0, TX0, 10)) rfl rfl (List.mem_flatten.mpr ⟨_, List.mem_of_getElem? (i := 0) rfl, (bWays_mem hw_43).choose_spec⟩) rfl rfl hl.1 dX11_longest_59 (Nat.le_of_ble_eq_true rfl) (by show _ + 0 ≤ 6 * (zNA (i1.toInt = 0 ∧ 0 < (fk 0).toInt ∧ 0 ≤ a_.toInt ∧ a_.toInt < cr0_.toInt ∧ a_.toInt < 7) mdA n4A (zPl cr0_ inn0_ k10_) - n4A) + 6 * (zNA (i1.toInt = 1 ∧ 1 < (fk 0).toInt ∧ 0 ≤ a_.toInt ∧ a_.toInt < cr1_.toInt ∧ a_.toInt < 7) mdB n4B (zPl cr1_ inn1_ k11_) - n4B); omega) (fun r_45 b1 H locs hw G => ?_)
        refine zAn2 hw ?_
        intro hbs9 h_44
        clear hw
        subst hbs9
        have G : zS T A s.heap s [z1_, wwB, wt, [zO10 xo t im mk rd po co tr wa wb_ fi cd], z0_, [zO0 wa m2_15 wy2_16 l0 pc2_17 a1_29 a2_30 a3_31 a4_32 a5_33 a6_34, zAr T 0 a1_29 7 g1_18, zAr T 0 a2_30 7 g2_19, zAr T 0 a3_31 7 f3A, zAr T 0 a4_32 (zMk mdA n4A (zPl cr0_ inn0_ k10_)) g4_20, zAr T 0 a5_33 (zMk mdA n4A (zPl cr0_ inn0_ k10_)) g5_21, zAr T 0 a6_34 (zMk mdA n4A (zPl cr0_ inn0_ k10_)) g6_22]] _ _ := G
        subst h_44
        refine lv_istore (lv' := [(10, .int (zEntry g5_21 (zMk mdA n4A (zPl cr0_ inn0_ k10_)) (nI i) a_ >>> (17 &&& 31))), (9, .int (nI i)), (8, .int u8), (7, .int u7), (6, .ref wa), (5, .ref l0), (0, .ref xo), (1, .int i1), (2, .int a_), (3, .int w_), (4, .int q_)]) hx hb dX11_longest_62 hl (by decide) (zLvf_h rfl) (fun ls hl => ?_)
        refine lv_iload hx hb dX11_longest_64 (lv_at hl 3 rfl) ?_
        refine lv_iconst (v := (-1)) hx hb dX11_longest_66 (by decide) ?_
        refine lv_icmp_eq (tgt := 91) hx hb dX11_longest_67 (by decide) (fun c_46 => ?_) (fun c_46 => ?_)
        · have c_46n : u7.toInt = (-1 : Int) := (fa_eq _ _).mp c_46
          refine lv_iconst (v := 1) hx hb dX11_longest_91 (by decide) ?_
          refine lv_goto (tgt := 96) hx hb dX11_longest_92 (by decide) ?_
          refine lv_istore (lv' := [(11, .int 1), (10, .int (zEntry g5_21 (zMk mdA n4A (zPl cr0_ inn0_ k10_)) (nI i) a_ >>> (17 &&& 31))), (9, .int (nI i)), (8, .int u8), (7, .int u7), (6, .ref wa), (5, .ref l0), (0, .ref xo), (1, .int i1), (2, .int a_), (3, .int w_), (4, .int q_)]) hx hb dX11_longest_96 hl (by decide) (zLvf_h rfl) (fun ls hl => ?_)
          refine lv_iload hx hb dX11_longest_98 (lv_at hl 0 rfl) ?_
          refine lv_if_eq (tgt := 127) hx hb dX11_longest_100 (by decide) (fun q => absurd q (by decide)) (fun _ => ?_)
          refine lv_aload hx hb dX11_longest_103 (lv_at hl 6 rfl) ?_
          refine lv_aload hx hb dX11_longest_105 (lv_at hl 5 rfl) ?_
          refine lv_iload hx hb dX11_longest_107 (lv_at hl 2 rfl) ?_
          refine lv_iload_n hx hb dX11_longest_109 rfl (lv_at hl 9 rfl) ?_
          refine z_Vi (bc := [[zO0 wa m2_15 wy2_16 l0 pc2_17 a1_29 a2_30 a3_31 a4_32 a5_33 a6_34, zAr T 0 a1_29 7 g1_18, zAr T 0 a2_30 7 g2_19, zAr T 0 a3_31 7 f3A, zAr T 0 a4_32 (zMk mdA n4A (zPl cr0_ inn0_ k10_)) g4_20, zAr T 0 a5_33 (zMk mdA n4A (zPl cr0_ inn0_ k10_)) g5_21, zAr T 0 a6_34 (zMk mdA n4A (zPl cr0_ inn0_ k10_)) g6_22]]) (br := [z1_, wwB, wt, [zO10 xo t im mk rd po co tr wa wb_ fi cd], z0_]) (As := [.int (nI i), .int a_]) (rest := [.ref l0]) C G (c_where l T wa l0 m2_15 wy2_16 pc2_17 g1_18 g2_19 f3A g4_20 g5_21 g6_22 (zMk mdA n4A (zPl cr0_ inn0_ k10_)) ([zO0 wa m2_15 wy2_16 l0 pc2_17 a1_29 a2_30 a3_31 a4_32 a5_33 a6_34, zAr T 0 a1_29 7 g1_18, zAr T 0 a2_30 7 g2_19, zAr T 0 a3_31 7 f3A, zAr T 0 a4_32 (zMk mdA n4A (zPl cr0_ inn0_ k10_)) g4_20, zAr T 0 a5_33 (zMk mdA n4A (zPl cr0_ inn0_ k10_)) g5_21, zAr T 0 a6_34 (zMk mdA n4A (zPl cr0_ inn0_ k10_)) g6_22]) (nI i) a_ hw_43 (by first | with_reducible assumption | with_reducible rfl | omega | assumption | rfl)) (kV_RX11_260 C.2.2.2.2 (Nat.le_of_ble_eq_true rfl) (Nat.le_of_ble_eq_true rfl)) [5] [5] rfl rfl (ci := 0) (qc := (RX0, TX0, 10)) rfl rfl (List.mem_flatten.mpr ⟨_, List.mem_of_getElem? (i := 0) rfl, (bWays_mem hw_43).choose_spec⟩) rfl rfl hl.1 dX11_longest_110 (Nat.le_of_ble_eq_true rfl) (by show _ + 0 ≤ 6 * (zNA (i1.toInt = 0 ∧ 0 < (fk 0).toInt ∧ 0 ≤ a_.toInt ∧ a_.toInt < cr0_.toInt ∧ a_.toInt < 7) mdA n4A (zPl cr0_ inn0_ k10_) - n4A) + 6 * (zNA (i1.toInt = 1 ∧ 1 < (fk 0).toInt ∧ 0 ≤ a_.toInt ∧ a_.toInt < cr1_.toInt ∧ a_.toInt < 7) mdB n4B (zPl cr1_ inn1_ k11_) - n4B); omega) (fun r_48 b1 H locs hw G => ?_)
          refine zAn2 hw ?_
          intro hbs9 h_47
          clear hw
          subst hbs9
          have G : zS T A s.heap s [z1_, wwB, wt, [zO10 xo t im mk rd po co tr wa wb_ fi cd], z0_, [zO0 wa m2_15 wy2_16 l0 pc2_17 a1_29 a2_30 a3_31 a4_32 a5_33 a6_34, zAr T 0 a1_29 7 g1_18, zAr T 0 a2_30 7 g2_19, zAr T 0 a3_31 7 f3A, zAr T 0 a4_32 (zMk mdA n4A (zPl cr0_ inn0_ k10_)) g4_20, zAr T 0 a5_33 (zMk mdA n4A (zPl cr0_ inn0_ k10_)) g5_21, zAr T 0 a6_34 (zMk mdA n4A (zPl cr0_ inn0_ k10_)) g6_22]] _ _ := G
          subst h_47
          refine z_Vi (bc := [z0_]) (br := [z1_, wwB, wt, [zO10 xo t im mk rd po co tr wa wb_ fi cd], [zO0 wa m2_15 wy2_16 l0 pc2_17 a1_29 a2_30 a3_31 a4_32 a5_33 a6_34, zAr T 0 a1_29 7 g1_18, zAr T 0 a2_30 7 g2_19, zAr T 0 a3_31 7 f3A, zAr T 0 a4_32 (zMk mdA n4A (zPl cr0_ inn0_ k10_)) g4_20, zAr T 0 a5_33 (zMk mdA n4A (zPl cr0_ inn0_ k10_)) g5_21, zAr T 0 a6_34 (zMk mdA n4A (zPl cr0_ inn0_ k10_)) g6_22]]) (As := [.int (zEntry g5_21 (zMk mdA n4A (zPl cr0_ inn0_ k10_)) (nI i) a_ &&& 7)]) (rest := []) C G (c_isInn l T l0 cr0_ inn0_ k10_ k20_ k30_ k40_ z0_ (zEntry g5_21 (zMk mdA n4A (zPl cr0_ inn0_ k10_)) (nI i) a_ &&& 7) hz0_) (kV_RX11_174 C.2.2.2.2 (Nat.le_of_ble_eq_true rfl) (Nat.le_of_ble_eq_true rfl)) [4] [4] rfl rfl (ci := 4) (qc := (RX4, TX4, 6)) rfl rfl (List.mem_flatten.mpr ⟨_, List.mem_of_getElem? (i := 0) rfl, (bLand_mem hz0_).choose_spec⟩) rfl rfl hl.1 dX11_longest_113 (Nat.le_of_ble_eq_true rfl) (by show _ + 0 ≤ 6 * (zNA (i1.toInt = 0 ∧ 0 < (fk 0).toInt ∧ 0 ≤ a_.toInt ∧ a_.toInt < cr0_.toInt ∧ a_.toInt < 7) mdA n4A (zPl cr0_ inn0_ k10_) - n4A) + 6 * (zNA (i1.toInt = 1 ∧ 1 < (fk 0).toInt ∧ 0 ≤ a_.toInt ∧ a_.toInt < cr1_.toInt ∧ a_.toInt < 7) mdB n4B (zPl cr1_ inn1_ k11_) - n4B); omega) (fun r_50 b1 H locs hw G => ?_)
          refine zAn2 hw ?_
          intro hbs9 hc_49
          clear hw
          subst hbs9
          have G : zS T A s.heap s [z1_, wwB, wt, [zO10 xo t im mk rd po co tr wa wb_ fi cd], [zO0 wa m2_15 wy2_16 l0 pc2_17 a1_29 a2_30 a3_31 a4_32 a5_33 a6_34, zAr T 0 a1_29 7 g1_18, zAr T 0 a2_30 7 g2_19, zAr T 0 a3_31 7 f3A, zAr T 0 a4_32 (zMk mdA n4A (zPl cr0_ inn0_ k10_)) g4_20, zAr T 0 a5_33 (zMk mdA n4A (zPl cr0_ inn0_ k10_)) g5_21, zAr T 0 a6_34 (zMk mdA n4A (zPl cr0_ inn0_ k10_)) g6_22], z0_] _ _ := G
          rcases hc_49 with ⟨rfl, h_51, h_52, h_53, h_54⟩ | ⟨rfl, h_55⟩
          · have h_51 : 0 ≤ (zEntry g5_21 (zMk mdA n4A (zPl cr0_ inn0_ k10_)) (nI i) a_ &&& 7).toInt := h_51
            have h_52 : (zEntry g5_21 (zMk mdA n4A (zPl cr0_ inn0_ k10_)) (nI i) a_ &&& 7).toInt < cr0_.toInt := h_52
            have h_53 : (zEntry g5_21 (zMk mdA n4A (zPl cr0_ inn0_ k10_)) (nI i) a_ &&& 7).toInt < 7 := h_53
            have h_54 : ¬ zBit inn0_ (zEntry g5_21 (zMk mdA n4A (zPl cr0_ inn0_ k10_)) (nI i) a_ &&& 7) = 0 := h_54
            refine lv_if_eq (tgt := 127) hx hb dX11_longest_116 (by decide) (fun q => absurd q (by decide)) (fun _ => ?_)
            refine lv_iload hx hb dX11_longest_119 (lv_at hl 1 rfl) ?_
            refine lv_istore (lv' := [(7, .int (zEntry g5_21 (zMk mdA n4A (zPl cr0_ inn0_ k10_)) (nI i) a_ >>> (17 &&& 31))), (11, .int 1), (10, .int (zEntry g5_21 (zMk mdA n4A (zPl cr0_ inn0_ k10_)) (nI i) a_ >>> (17 &&& 31))), (9, .int (nI i)), (8, .int u8), (6, .ref wa), (5, .ref l0), (0, .ref xo), (1, .int i1), (2, .int a_), (3, .int w_), (4, .int q_)]) hx hb dX11_longest_121 hl (by decide) (zLvf_h rfl) (fun ls hl => ?_)
            refine lv_iload hx hb dX11_longest_123 (lv_at hl 3 rfl) ?_
            refine lv_istore (lv' := [(8, .int (nI i)), (7, .int (zEntry g5_21 (zMk mdA n4A (zPl cr0_ inn0_ k10_)) (nI i) a_ >>> (17 &&& 31))), (11, .int 1), (10, .int (zEntry g5_21 (zMk mdA n4A (zPl cr0_ inn0_ k10_)) (nI i) a_ >>> (17 &&& 31))), (9, .int (nI i)), (6, .ref wa), (5, .ref l0), (0, .ref xo), (1, .int i1), (2, .int a_), (3, .int w_), (4, .int q_)]) hx hb dX11_longest_125 hl (by decide) (zLvf_h rfl) (fun ls hl => ?_)
            refine lv_iinc (v := nI (i + 1)) (lv' := [(9, .int (nI (i + 1))), (8, .int (nI i)), (7, .int (zEntry g5_21 (zMk mdA n4A (zPl cr0_ inn0_ k10_)) (nI i) a_ >>> (17 &&& 31))), (11, .int 1), (10, .int (zEntry g5_21 (zMk mdA n4A (zPl cr0_ inn0_ k10_)) (nI i) a_ >>> (17 &&& 31))), (6, .ref wa), (5, .ref l0), (0, .ref xo), (1, .int i1), (2, .int a_), (3, .int w_), (4, .int q_)]) hx hb dX11_longest_127 hl (k := 4) rfl (z_inc i 1) (by decide) (zLvf_h rfl) (fun ls hl => ?_)
            refine lv_goto (tgt := 44) hx hb dX11_longest_130 (by decide) ?_
            exact ih_44 (i + 1) (zEntry g5_21 (zMk mdA n4A (zPl cr0_ inn0_ k10_)) (nI i) a_ >>> (17 &&& 31)) (nI i) (show (i + 1) ≤ aPr (aW cr0_ inn0_ k10_) 7 from (by omega)) (show aPr (aW cr0_ inn0_ k10_) 7 - (i + 1) < aPr (aW cr0_ inn0_ k10_) 7 - i from by omega) _ _ ls G (lv_sub hl [0, 1, 2, 5, 6, 7, 8, 9, 10, 11] rfl)
          · have h_55 : ((zEntry g5_21 (zMk mdA n4A (zPl cr0_ inn0_ k10_)) (nI i) a_ &&& 7).toInt < 0 ∨ cr0_.toInt ≤ (zEntry g5_21 (zMk mdA n4A (zPl cr0_ inn0_ k10_)) (nI i) a_ &&& 7).toInt ∨ 7 ≤ (zEntry g5_21 (zMk mdA n4A (zPl cr0_ inn0_ k10_)) (nI i) a_ &&& 7).toInt ∨ zBit inn0_ (zEntry g5_21 (zMk mdA n4A (zPl cr0_ inn0_ k10_)) (nI i) a_ &&& 7) = 0) := h_55
            refine lv_if_eq (tgt := 127) hx hb dX11_longest_116 (by decide) (fun _ => ?_) (fun q => absurd (by decide) q)
            refine lv_iinc (v := nI (i + 1)) (lv' := [(9, .int (nI (i + 1))), (11, .int 1), (10, .int (zEntry g5_21 (zMk mdA n4A (zPl cr0_ inn0_ k10_)) (nI i) a_ >>> (17 &&& 31))), (8, .int u8), (7, .int u7), (6, .ref wa), (5, .ref l0), (0, .ref xo), (1, .int i1), (2, .int a_), (3, .int w_), (4, .int q_)]) hx hb dX11_longest_127 hl (k := 2) rfl (z_inc i 1) (by decide) (zLvf_h rfl) (fun ls hl => ?_)
            refine lv_goto (tgt := 44) hx hb dX11_longest_130 (by decide) ?_
            exact ih_44 (i + 1) u7 u8 (show (i + 1) ≤ aPr (aW cr0_ inn0_ k10_) 7 from (by omega)) (show aPr (aW cr0_ inn0_ k10_) 7 - (i + 1) < aPr (aW cr0_ inn0_ k10_) 7 - i from by omega) _ _ ls G (lv_sub hl [0, 3, 4, 5, 6, 7, 8, 9, 10, 11] rfl)
        · have c_46n : ¬ u7.toInt = (-1 : Int) := fun q => c_46 ((fa_eq _ _).mpr q)
          refine lv_iload_n hx hb dX11_longest_70 rfl (lv_at hl 9 rfl) ?_
          refine lv_if_eq (tgt := 84) hx hb dX11_longest_71 (by decide) (fun c_56 => ?_) (fun c_56 => ?_)
          · have c_56n : w_.toInt = (0 : Int) := (fa_eq _ _).mp c_56
            refine lv_iload hx hb dX11_longest_84 (lv_at hl 0 rfl) ?_
            refine lv_iload hx hb dX11_longest_86 (lv_at hl 3 rfl) ?_
            refine lv_icmp_le (tgt := 95) hx hb dX11_longest_88 (by decide) (fun c_57 => ?_) (fun c_57 => ?_)
            · have c_57n : (zEntry g5_21 (zMk mdA n4A (zPl cr0_ inn0_ k10_)) (nI i) a_ >>> (17 &&& 31)).toInt ≤ u7.toInt := (fa_le _ _).mp c_57
              refine lv_iconst (v := 0) hx hb dX11_longest_95 (by decide) ?_
              refine lv_istore (lv' := [(11, .int 0), (10, .int (zEntry g5_21 (zMk mdA n4A (zPl cr0_ inn0_ k10_)) (nI i) a_ >>> (17 &&& 31))), (9, .int (nI i)), (8, .int u8), (7, .int u7), (6, .ref wa), (5, .ref l0), (0, .ref xo), (1, .int i1), (2, .int a_), (3, .int w_), (4, .int q_)]) hx hb dX11_longest_96 hl (by decide) (zLvf_h rfl) (fun ls hl => ?_)
              refine lv_iload hx hb dX11_longest_98 (lv_at hl 0 rfl) ?_
              refine lv_if_eq (tgt := 127) hx hb dX11_longest_100 (by decide) (fun _ => ?_) (fun q => absurd (by decide) q)
              refine lv_iinc (v := nI (i + 1)) (lv' := [(9, .int (nI (i + 1))), (11, .int 0), (10, .int (zEntry g5_21 (zMk mdA n4A (zPl cr0_ inn0_ k10_)) (nI i) a_ >>> (17 &&& 31))), (8, .int u8), (7, .int u7), (6, .ref wa), (5, .ref l0), (0, .ref xo), (1, .int i1), (2, .int a_), (3, .int w_), (4, .int q_)]) hx hb dX11_longest_127 hl (k := 2) rfl (z_inc i 1) (by decide) (zLvf_h rfl) (fun ls hl => ?_)
              refine lv_goto (tgt := 44) hx hb dX11_longest_130 (by decide) ?_
              have G := G.sub (bs' := [z1_, wwB, wt, [zO10 xo t im mk rd po co tr wa wb_ fi cd], [zO0 wa m2_15 wy2_16 l0 pc2_17 a1_29 a2_30 a3_31 a4_32 a5_33 a6_34, zAr T 0 a1_29 7 g1_18, zAr T 0 a2_30 7 g2_19, zAr T 0 a3_31 7 f3A, zAr T 0 a4_32 (zMk mdA n4A (zPl cr0_ inn0_ k10_)) g4_20, zAr T 0 a5_33 (zMk mdA n4A (zPl cr0_ inn0_ k10_)) g5_21, zAr T 0 a6_34 (zMk mdA n4A (zPl cr0_ inn0_ k10_)) g6_22], z0_]) [0, 1, 2, 3, 5, 4] rfl
              exact ih_44 (i + 1) u7 u8 (show (i + 1) ≤ aPr (aW cr0_ inn0_ k10_) 7 from (by omega)) (show aPr (aW cr0_ inn0_ k10_) 7 - (i + 1) < aPr (aW cr0_ inn0_ k10_) 7 - i from by omega) _ _ ls G (lv_sub hl [0, 3, 4, 5, 6, 7, 8, 9, 10, 11] rfl)
            · have c_57n : ¬ (zEntry g5_21 (zMk mdA n4A (zPl cr0_ inn0_ k10_)) (nI i) a_ >>> (17 &&& 31)).toInt ≤ u7.toInt := fun q => c_57 ((fa_le _ _).mpr q)
              refine lv_iconst (v := 1) hx hb dX11_longest_91 (by decide) ?_
              refine lv_goto (tgt := 96) hx hb dX11_longest_92 (by decide) ?_
              refine lv_istore (lv' := [(11, .int 1), (10, .int (zEntry g5_21 (zMk mdA n4A (zPl cr0_ inn0_ k10_)) (nI i) a_ >>> (17 &&& 31))), (9, .int (nI i)), (8, .int u8), (7, .int u7), (6, .ref wa), (5, .ref l0), (0, .ref xo), (1, .int i1), (2, .int a_), (3, .int w_), (4, .int q_)]) hx hb dX11_longest_96 hl (by decide) (zLvf_h rfl) (fun ls hl => ?_)
              refine lv_iload hx hb dX11_longest_98 (lv_at hl 0 rfl) ?_
              refine lv_if_eq (tgt := 127) hx hb dX11_longest_100 (by decide) (fun q => absurd q (by decide)) (fun _ => ?_)
              refine lv_aload hx hb dX11_longest_103 (lv_at hl 6 rfl) ?_
              refine lv_aload hx hb dX11_longest_105 (lv_at hl 5 rfl) ?_
              refine lv_iload hx hb dX11_longest_107 (lv_at hl 2 rfl) ?_
              refine lv_iload_n hx hb dX11_longest_109 rfl (lv_at hl 9 rfl) ?_
              refine z_Vi (bc := [[zO0 wa m2_15 wy2_16 l0 pc2_17 a1_29 a2_30 a3_31 a4_32 a5_33 a6_34, zAr T 0 a1_29 7 g1_18, zAr T 0 a2_30 7 g2_19, zAr T 0 a3_31 7 f3A, zAr T 0 a4_32 (zMk mdA n4A (zPl cr0_ inn0_ k10_)) g4_20, zAr T 0 a5_33 (zMk mdA n4A (zPl cr0_ inn0_ k10_)) g5_21, zAr T 0 a6_34 (zMk mdA n4A (zPl cr0_ inn0_ k10_)) g6_22]]) (br := [z1_, wwB, wt, [zO10 xo t im mk rd po co tr wa wb_ fi cd], z0_]) (As := [.int (nI i), .int a_]) (rest := [.ref l0]) C G (c_where l T wa l0 m2_15 wy2_16 pc2_17 g1_18 g2_19 f3A g4_20 g5_21 g6_22 (zMk mdA n4A (zPl cr0_ inn0_ k10_)) ([zO0 wa m2_15 wy2_16 l0 pc2_17 a1_29 a2_30 a3_31 a4_32 a5_33 a6_34, zAr T 0 a1_29 7 g1_18, zAr T 0 a2_30 7 g2_19, zAr T 0 a3_31 7 f3A, zAr T 0 a4_32 (zMk mdA n4A (zPl cr0_ inn0_ k10_)) g4_20, zAr T 0 a5_33 (zMk mdA n4A (zPl cr0_ inn0_ k10_)) g5_21, zAr T 0 a6_34 (zMk mdA n4A (zPl cr0_ inn0_ k10_)) g6_22]) (nI i) a_ hw_43 (by first | with_reducible assumption | with_reducible rfl | omega | assumption | rfl)) (kV_RX11_260 C.2.2.2.2 (Nat.le_of_ble_eq_true rfl) (Nat.le_of_ble_eq_true rfl)) [5] [5] rfl rfl (ci := 0) (qc := (RX0, TX0, 10)) rfl rfl (List.mem_flatten.mpr ⟨_, List.mem_of_getElem? (i := 0) rfl, (bWays_mem hw_43).choose_spec⟩) rfl rfl hl.1 dX11_longest_110 (Nat.le_of_ble_eq_true rfl) (by show _ + 0 ≤ 6 * (zNA (i1.toInt = 0 ∧ 0 < (fk 0).toInt ∧ 0 ≤ a_.toInt ∧ a_.toInt < cr0_.toInt ∧ a_.toInt < 7) mdA n4A (zPl cr0_ inn0_ k10_) - n4A) + 6 * (zNA (i1.toInt = 1 ∧ 1 < (fk 0).toInt ∧ 0 ≤ a_.toInt ∧ a_.toInt < cr1_.toInt ∧ a_.toInt < 7) mdB n4B (zPl cr1_ inn1_ k11_) - n4B); omega) (fun r_59 b1 H locs hw G => ?_)
              refine zAn2 hw ?_
              intro hbs9 h_58
              clear hw
              subst hbs9
              have G : zS T A s.heap s [z1_, wwB, wt, [zO10 xo t im mk rd po co tr wa wb_ fi cd], z0_, [zO0 wa m2_15 wy2_16 l0 pc2_17 a1_29 a2_30 a3_31 a4_32 a5_33 a6_34, zAr T 0 a1_29 7 g1_18, zAr T 0 a2_30 7 g2_19, zAr T 0 a3_31 7 f3A, zAr T 0 a4_32 (zMk mdA n4A (zPl cr0_ inn0_ k10_)) g4_20, zAr T 0 a5_33 (zMk mdA n4A (zPl cr0_ inn0_ k10_)) g5_21, zAr T 0 a6_34 (zMk mdA n4A (zPl cr0_ inn0_ k10_)) g6_22]] _ _ := G
              subst h_58
              refine z_Vi (bc := [z0_]) (br := [z1_, wwB, wt, [zO10 xo t im mk rd po co tr wa wb_ fi cd], [zO0 wa m2_15 wy2_16 l0 pc2_17 a1_29 a2_30 a3_31 a4_32 a5_33 a6_34, zAr T 0 a1_29 7 g1_18, zAr T 0 a2_30 7 g2_19, zAr T 0 a3_31 7 f3A, zAr T 0 a4_32 (zMk mdA n4A (zPl cr0_ inn0_ k10_)) g4_20, zAr T 0 a5_33 (zMk mdA n4A (zPl cr0_ inn0_ k10_)) g5_21, zAr T 0 a6_34 (zMk mdA n4A (zPl cr0_ inn0_ k10_)) g6_22]]) (As := [.int (zEntry g5_21 (zMk mdA n4A (zPl cr0_ inn0_ k10_)) (nI i) a_ &&& 7)]) (rest := []) C G (c_isInn l T l0 cr0_ inn0_ k10_ k20_ k30_ k40_ z0_ (zEntry g5_21 (zMk mdA n4A (zPl cr0_ inn0_ k10_)) (nI i) a_ &&& 7) hz0_) (kV_RX11_174 C.2.2.2.2 (Nat.le_of_ble_eq_true rfl) (Nat.le_of_ble_eq_true rfl)) [4] [4] rfl rfl (ci := 4) (qc := (RX4, TX4, 6)) rfl rfl (List.mem_flatten.mpr ⟨_, List.mem_of_getElem? (i := 0) rfl, (bLand_mem hz0_).choose_spec⟩) rfl rfl hl.1 dX11_longest_113 (Nat.le_of_ble_eq_true rfl) (by show _ + 0 ≤ 6 * (zNA (i1.toInt = 0 ∧ 0 < (fk 0).toInt ∧ 0 ≤ a_.toInt ∧ a_.toInt < cr0_.toInt ∧ a_.toInt < 7) mdA n4A (zPl cr0_ inn0_ k10_) - n4A) + 6 * (zNA (i1.toInt = 1 ∧ 1 < (fk 0).toInt ∧ 0 ≤ a_.toInt ∧ a_.toInt < cr1_.toInt ∧ a_.toInt < 7) mdB n4B (zPl cr1_ inn1_ k11_) - n4B); omega) (fun r_61 b1 H locs hw G => ?_)
              refine zAn2 hw ?_
              intro hbs9 hc_60
              clear hw
              subst hbs9
              have G : zS T A s.heap s [z1_, wwB, wt, [zO10 xo t im mk rd po co tr wa wb_ fi cd], [zO0 wa m2_15 wy2_16 l0 pc2_17 a1_29 a2_30 a3_31 a4_32 a5_33 a6_34, zAr T 0 a1_29 7 g1_18, zAr T 0 a2_30 7 g2_19, zAr T 0 a3_31 7 f3A, zAr T 0 a4_32 (zMk mdA n4A (zPl cr0_ inn0_ k10_)) g4_20, zAr T 0 a5_33 (zMk mdA n4A (zPl cr0_ inn0_ k10_)) g5_21, zAr T 0 a6_34 (zMk mdA n4A (zPl cr0_ inn0_ k10_)) g6_22], z0_] _ _ := G
              rcases hc_60 with ⟨rfl, h_62, h_63, h_64, h_65⟩ | ⟨rfl, h_66⟩
              · have h_62 : 0 ≤ (zEntry g5_21 (zMk mdA n4A (zPl cr0_ inn0_ k10_)) (nI i) a_ &&& 7).toInt := h_62
                have h_63 : (zEntry g5_21 (zMk mdA n4A (zPl cr0_ inn0_ k10_)) (nI i) a_ &&& 7).toInt < cr0_.toInt := h_63
                have h_64 : (zEntry g5_21 (zMk mdA n4A (zPl cr0_ inn0_ k10_)) (nI i) a_ &&& 7).toInt < 7 := h_64
                have h_65 : ¬ zBit inn0_ (zEntry g5_21 (zMk mdA n4A (zPl cr0_ inn0_ k10_)) (nI i) a_ &&& 7) = 0 := h_65
                refine lv_if_eq (tgt := 127) hx hb dX11_longest_116 (by decide) (fun q => absurd q (by decide)) (fun _ => ?_)
                refine lv_iload hx hb dX11_longest_119 (lv_at hl 1 rfl) ?_
                refine lv_istore (lv' := [(7, .int (zEntry g5_21 (zMk mdA n4A (zPl cr0_ inn0_ k10_)) (nI i) a_ >>> (17 &&& 31))), (11, .int 1), (10, .int (zEntry g5_21 (zMk mdA n4A (zPl cr0_ inn0_ k10_)) (nI i) a_ >>> (17 &&& 31))), (9, .int (nI i)), (8, .int u8), (6, .ref wa), (5, .ref l0), (0, .ref xo), (1, .int i1), (2, .int a_), (3, .int w_), (4, .int q_)]) hx hb dX11_longest_121 hl (by decide) (zLvf_h rfl) (fun ls hl => ?_)
                refine lv_iload hx hb dX11_longest_123 (lv_at hl 3 rfl) ?_
                refine lv_istore (lv' := [(8, .int (nI i)), (7, .int (zEntry g5_21 (zMk mdA n4A (zPl cr0_ inn0_ k10_)) (nI i) a_ >>> (17 &&& 31))), (11, .int 1), (10, .int (zEntry g5_21 (zMk mdA n4A (zPl cr0_ inn0_ k10_)) (nI i) a_ >>> (17 &&& 31))), (9, .int (nI i)), (6, .ref wa), (5, .ref l0), (0, .ref xo), (1, .int i1), (2, .int a_), (3, .int w_), (4, .int q_)]) hx hb dX11_longest_125 hl (by decide) (zLvf_h rfl) (fun ls hl => ?_)
                refine lv_iinc (v := nI (i + 1)) (lv' := [(9, .int (nI (i + 1))), (8, .int (nI i)), (7, .int (zEntry g5_21 (zMk mdA n4A (zPl cr0_ inn0_ k10_)) (nI i) a_ >>> (17 &&& 31))), (11, .int 1), (10, .int (zEntry g5_21 (zMk mdA n4A (zPl cr0_ inn0_ k10_)) (nI i) a_ >>> (17 &&& 31))), (6, .ref wa), (5, .ref l0), (0, .ref xo), (1, .int i1), (2, .int a_), (3, .int w_), (4, .int q_)]) hx hb dX11_longest_127 hl (k := 4) rfl (z_inc i 1) (by decide) (zLvf_h rfl) (fun ls hl => ?_)
                refine lv_goto (tgt := 44) hx hb dX11_longest_130 (by decide) ?_
                exact ih_44 (i + 1) (zEntry g5_21 (zMk mdA n4A (zPl cr0_ inn0_ k10_)) (nI i) a_ >>> (17 &&& 31)) (nI i) (show (i + 1) ≤ aPr (aW cr0_ inn0_ k10_) 7 from (by omega)) (show aPr (aW cr0_ inn0_ k10_) 7 - (i + 1) < aPr (aW cr0_ inn0_ k10_) 7 - i from by omega) _ _ ls G (lv_sub hl [0, 1, 2, 5, 6, 7, 8, 9, 10, 11] rfl)
              · have h_66 : ((zEntry g5_21 (zMk mdA n4A (zPl cr0_ inn0_ k10_)) (nI i) a_ &&& 7).toInt < 0 ∨ cr0_.toInt ≤ (zEntry g5_21 (zMk mdA n4A (zPl cr0_ inn0_ k10_)) (nI i) a_ &&& 7).toInt ∨ 7 ≤ (zEntry g5_21 (zMk mdA n4A (zPl cr0_ inn0_ k10_)) (nI i) a_ &&& 7).toInt ∨ zBit inn0_ (zEntry g5_21 (zMk mdA n4A (zPl cr0_ inn0_ k10_)) (nI i) a_ &&& 7) = 0) := h_66
                refine lv_if_eq (tgt := 127) hx hb dX11_longest_116 (by decide) (fun _ => ?_) (fun q => absurd (by decide) q)
                refine lv_iinc (v := nI (i + 1)) (lv' := [(9, .int (nI (i + 1))), (11, .int 1), (10, .int (zEntry g5_21 (zMk mdA n4A (zPl cr0_ inn0_ k10_)) (nI i) a_ >>> (17 &&& 31))), (8, .int u8), (7, .int u7), (6, .ref wa), (5, .ref l0), (0, .ref xo), (1, .int i1), (2, .int a_), (3, .int w_), (4, .int q_)]) hx hb dX11_longest_127 hl (k := 2) rfl (z_inc i 1) (by decide) (zLvf_h rfl) (fun ls hl => ?_)
                refine lv_goto (tgt := 44) hx hb dX11_longest_130 (by decide) ?_
                exact ih_44 (i + 1) u7 u8 (show (i + 1) ≤ aPr (aW cr0_ inn0_ k10_) 7 from (by omega)) (show aPr (aW cr0_ inn0_ k10_) 7 - (i + 1) < aPr (aW cr0_ inn0_ k10_) 7 - i from by omega) _ _ ls G (lv_sub hl [0, 3, 4, 5, 6, 7, 8, 9, 10, 11] rfl)
          · have c_56n : ¬ w_.toInt = (0 : Int) := fun q => c_56 ((fa_eq _ _).mpr q)
            refine lv_iload hx hb dX11_longest_74 (lv_at hl 0 rfl) ?_
            refine lv_iload hx hb dX11_longest_76 (lv_at hl 3 rfl) ?_
            refine lv_icmp_ge (tgt := 95) hx hb dX11_longest_78 (by decide) (fun c_67 => ?_) (fun c_67 => ?_)
            · have c_67n : u7.toInt ≤ (zEntry g5_21 (zMk mdA n4A (zPl cr0_ inn0_ k10_)) (nI i) a_ >>> (17 &&& 31)).toInt := (fa_le _ _).mp c_67
              refine lv_iconst (v := 0) hx hb dX11_longest_95 (by decide) ?_
              refine lv_istore (lv' := [(11, .int 0), (10, .int (zEntry g5_21 (zMk mdA n4A (zPl cr0_ inn0_ k10_)) (nI i) a_ >>> (17 &&& 31))), (9, .int (nI i)), (8, .int u8), (7, .int u7), (6, .ref wa), (5, .ref l0), (0, .ref xo), (1, .int i1), (2, .int a_), (3, .int w_), (4, .int q_)]) hx hb dX11_longest_96 hl (by decide) (zLvf_h rfl) (fun ls hl => ?_)
              refine lv_iload hx hb dX11_longest_98 (lv_at hl 0 rfl) ?_
              refine lv_if_eq (tgt := 127) hx hb dX11_longest_100 (by decide) (fun _ => ?_) (fun q => absurd (by decide) q)
              refine lv_iinc (v := nI (i + 1)) (lv' := [(9, .int (nI (i + 1))), (11, .int 0), (10, .int (zEntry g5_21 (zMk mdA n4A (zPl cr0_ inn0_ k10_)) (nI i) a_ >>> (17 &&& 31))), (8, .int u8), (7, .int u7), (6, .ref wa), (5, .ref l0), (0, .ref xo), (1, .int i1), (2, .int a_), (3, .int w_), (4, .int q_)]) hx hb dX11_longest_127 hl (k := 2) rfl (z_inc i 1) (by decide) (zLvf_h rfl) (fun ls hl => ?_)
              refine lv_goto (tgt := 44) hx hb dX11_longest_130 (by decide) ?_
              have G := G.sub (bs' := [z1_, wwB, wt, [zO10 xo t im mk rd po co tr wa wb_ fi cd], [zO0 wa m2_15 wy2_16 l0 pc2_17 a1_29 a2_30 a3_31 a4_32 a5_33 a6_34, zAr T 0 a1_29 7 g1_18, zAr T 0 a2_30 7 g2_19, zAr T 0 a3_31 7 f3A, zAr T 0 a4_32 (zMk mdA n4A (zPl cr0_ inn0_ k10_)) g4_20, zAr T 0 a5_33 (zMk mdA n4A (zPl cr0_ inn0_ k10_)) g5_21, zAr T 0 a6_34 (zMk mdA n4A (zPl cr0_ inn0_ k10_)) g6_22], z0_]) [0, 1, 2, 3, 5, 4] rfl
              exact ih_44 (i + 1) u7 u8 (show (i + 1) ≤ aPr (aW cr0_ inn0_ k10_) 7 from (by omega)) (show aPr (aW cr0_ inn0_ k10_) 7 - (i + 1) < aPr (aW cr0_ inn0_ k10_) 7 - i from by omega) _ _ ls G (lv_sub hl [0, 3, 4, 5, 6, 7, 8, 9, 10, 11] rfl)
            · have c_67n : ¬ u7.toInt ≤ (zEntry g5_21 (zMk mdA n4A (zPl cr0_ inn0_ k10_)) (nI i) a_ >>> (17 &&& 31)).toInt := fun q => c_67 ((fa_le _ _).mpr q)
              refine lv_goto (tgt := 91) hx hb dX11_longest_81 (by decide) ?_
              refine lv_iconst (v := 1) hx hb dX11_longest_91 (by decide) ?_
              refine lv_goto (tgt := 96) hx hb dX11_longest_92 (by decide) ?_
              refine lv_istore (lv' := [(11, .int 1), (10, .int (zEntry g5_21 (zMk mdA n4A (zPl cr0_ inn0_ k10_)) (nI i) a_ >>> (17 &&& 31))), (9, .int (nI i)), (8, .int u8), (7, .int u7), (6, .ref wa), (5, .ref l0), (0, .ref xo), (1, .int i1), (2, .int a_), (3, .int w_), (4, .int q_)]) hx hb dX11_longest_96 hl (by decide) (zLvf_h rfl) (fun ls hl => ?_)
              refine lv_iload hx hb dX11_longest_98 (lv_at hl 0 rfl) ?_
              refine lv_if_eq (tgt := 127) hx hb dX11_longest_100 (by decide) (fun q => absurd q (by decide)) (fun _ => ?_)
              refine lv_aload hx hb dX11_longest_103 (lv_at hl 6 rfl) ?_
              refine lv_aload hx hb dX11_longest_105 (lv_at hl 5 rfl) ?_
              refine lv_iload hx hb dX11_longest_107 (lv_at hl 2 rfl) ?_
              refine lv_iload_n hx hb dX11_longest_109 rfl (lv_at hl 9 rfl) ?_
              refine z_Vi (bc := [[zO0 wa m2_15 wy2_16 l0 pc2_17 a1_29 a2_30 a3_31 a4_32 a5_33 a6_34, zAr T 0 a1_29 7 g1_18, zAr T 0 a2_30 7 g2_19, zAr T 0 a3_31 7 f3A, zAr T 0 a4_32 (zMk mdA n4A (zPl cr0_ inn0_ k10_)) g4_20, zAr T 0 a5_33 (zMk mdA n4A (zPl cr0_ inn0_ k10_)) g5_21, zAr T 0 a6_34 (zMk mdA n4A (zPl cr0_ inn0_ k10_)) g6_22]]) (br := [z1_, wwB, wt, [zO10 xo t im mk rd po co tr wa wb_ fi cd], z0_]) (As := [.int (nI i), .int a_]) (rest := [.ref l0]) C G (c_where l T wa l0 m2_15 wy2_16 pc2_17 g1_18 g2_19 f3A g4_20 g5_21 g6_22 (zMk mdA n4A (zPl cr0_ inn0_ k10_)) ([zO0 wa m2_15 wy2_16 l0 pc2_17 a1_29 a2_30 a3_31 a4_32 a5_33 a6_34, zAr T 0 a1_29 7 g1_18, zAr T 0 a2_30 7 g2_19, zAr T 0 a3_31 7 f3A, zAr T 0 a4_32 (zMk mdA n4A (zPl cr0_ inn0_ k10_)) g4_20, zAr T 0 a5_33 (zMk mdA n4A (zPl cr0_ inn0_ k10_)) g5_21, zAr T 0 a6_34 (zMk mdA n4A (zPl cr0_ inn0_ k10_)) g6_22]) (nI i) a_ hw_43 (by first | with_reducible assumption | with_reducible rfl | omega | assumption | rfl)) (kV_RX11_260 C.2.2.2.2 (Nat.le_of_ble_eq_true rfl) (Nat.le_of_ble_eq_true rfl)) [5] [5] rfl rfl (ci := 0) (qc := (RX0, TX0, 10)) rfl rfl (List.mem_flatten.mpr ⟨_, List.mem_of_getElem? (i := 0) rfl, (bWays_mem hw_43).choose_spec⟩) rfl rfl hl.1 dX11_longest_110 (Nat.le_of_ble_eq_true rfl) (by show _ + 0 ≤ 6 * (zNA (i1.toInt = 0 ∧ 0 < (fk 0).toInt ∧ 0 ≤ a_.toInt ∧ a_.toInt < cr0_.toInt ∧ a_.toInt < 7) mdA n4A (zPl cr0_ inn0_ k10_) - n4A) + 6 * (zNA (i1.toInt = 1 ∧ 1 < (fk 0).toInt ∧ 0 ≤ a_.toInt ∧ a_.toInt < cr1_.toInt ∧ a_.toInt < 7) mdB n4B (zPl cr1_ inn1_ k11_) - n4B); omega) (fun r_69 b1 H locs hw G => ?_)
              refine zAn2 hw ?_
              intro hbs9 h_68
              clear hw
              subst hbs9
              have G : zS T A s.heap s [z1_, wwB, wt, [zO10 xo t im mk rd po co tr wa wb_ fi cd], z0_, [zO0 wa m2_15 wy2_16 l0 pc2_17 a1_29 a2_30 a3_31 a4_32 a5_33 a6_34, zAr T 0 a1_29 7 g1_18, zAr T 0 a2_30 7 g2_19, zAr T 0 a3_31 7 f3A, zAr T 0 a4_32 (zMk mdA n4A (zPl cr0_ inn0_ k10_)) g4_20, zAr T 0 a5_33 (zMk mdA n4A (zPl cr0_ inn0_ k10_)) g5_21, zAr T 0 a6_34 (zMk mdA n4A (zPl cr0_ inn0_ k10_)) g6_22]] _ _ := G
              subst h_68
              refine z_Vi (bc := [z0_]) (br := [z1_, wwB, wt, [zO10 xo t im mk rd po co tr wa wb_ fi cd], [zO0 wa m2_15 wy2_16 l0 pc2_17 a1_29 a2_30 a3_31 a4_32 a5_33 a6_34, zAr T 0 a1_29 7 g1_18, zAr T 0 a2_30 7 g2_19, zAr T 0 a3_31 7 f3A, zAr T 0 a4_32 (zMk mdA n4A (zPl cr0_ inn0_ k10_)) g4_20, zAr T 0 a5_33 (zMk mdA n4A (zPl cr0_ inn0_ k10_)) g5_21, zAr T 0 a6_34 (zMk mdA n4A (zPl cr0_ inn0_ k10_)) g6_22]]) (As := [.int (zEntry g5_21 (zMk mdA n4A (zPl cr0_ inn0_ k10_)) (nI i) a_ &&& 7)]) (rest := []) C G (c_isInn l T l0 cr0_ inn0_ k10_ k20_ k30_ k40_ z0_ (zEntry g5_21 (zMk mdA n4A (zPl cr0_ inn0_ k10_)) (nI i) a_ &&& 7) hz0_) (kV_RX11_174 C.2.2.2.2 (Nat.le_of_ble_eq_true rfl) (Nat.le_of_ble_eq_true rfl)) [4] [4] rfl rfl (ci := 4) (qc := (RX4, TX4, 6)) rfl rfl (List.mem_flatten.mpr ⟨_, List.mem_of_getElem? (i := 0) rfl, (bLand_mem hz0_).choose_spec⟩) rfl rfl hl.1 dX11_longest_113 (Nat.le_of_ble_eq_true rfl) (by show _ + 0 ≤ 6 * (zNA (i1.toInt = 0 ∧ 0 < (fk 0).toInt ∧ 0 ≤ a_.toInt ∧ a_.toInt < cr0_.toInt ∧ a_.toInt < 7) mdA n4A (zPl cr0_ inn0_ k10_) - n4A) + 6 * (zNA (i1.toInt = 1 ∧ 1 < (fk 0).toInt ∧ 0 ≤ a_.toInt ∧ a_.toInt < cr1_.toInt ∧ a_.toInt < 7) mdB n4B (zPl cr1_ inn1_ k11_) - n4B); omega) (fun r_71 b1 H locs hw G => ?_)
              refine zAn2 hw ?_
              intro hbs9 hc_70
              clear hw
              subst hbs9
              have G : zS T A s.heap s [z1_, wwB, wt, [zO10 xo t im mk rd po co tr wa wb_ fi cd], [zO0 wa m2_15 wy2_16 l0 pc2_17 a1_29 a2_30 a3_31 a4_32 a5_33 a6_34, zAr T 0 a1_29 7 g1_18, zAr T 0 a2_30 7 g2_19, zAr T 0 a3_31 7 f3A, zAr T 0 a4_32 (zMk mdA n4A (zPl cr0_ inn0_ k10_)) g4_20, zAr T 0 a5_33 (zMk mdA n4A (zPl cr0_ inn0_ k10_)) g5_21, zAr T 0 a6_34 (zMk mdA n4A (zPl cr0_ inn0_ k10_)) g6_22], z0_] _ _ := G
              rcases hc_70 with ⟨rfl, h_72, h_73, h_74, h_75⟩ | ⟨rfl, h_76⟩
              · have h_72 : 0 ≤ (zEntry g5_21 (zMk mdA n4A (zPl cr0_ inn0_ k10_)) (nI i) a_ &&& 7).toInt := h_72
                have h_73 : (zEntry g5_21 (zMk mdA n4A (zPl cr0_ inn0_ k10_)) (nI i) a_ &&& 7).toInt < cr0_.toInt := h_73
                have h_74 : (zEntry g5_21 (zMk mdA n4A (zPl cr0_ inn0_ k10_)) (nI i) a_ &&& 7).toInt < 7 := h_74
                have h_75 : ¬ zBit inn0_ (zEntry g5_21 (zMk mdA n4A (zPl cr0_ inn0_ k10_)) (nI i) a_ &&& 7) = 0 := h_75
                refine lv_if_eq (tgt := 127) hx hb dX11_longest_116 (by decide) (fun q => absurd q (by decide)) (fun _ => ?_)
                refine lv_iload hx hb dX11_longest_119 (lv_at hl 1 rfl) ?_
                refine lv_istore (lv' := [(7, .int (zEntry g5_21 (zMk mdA n4A (zPl cr0_ inn0_ k10_)) (nI i) a_ >>> (17 &&& 31))), (11, .int 1), (10, .int (zEntry g5_21 (zMk mdA n4A (zPl cr0_ inn0_ k10_)) (nI i) a_ >>> (17 &&& 31))), (9, .int (nI i)), (8, .int u8), (6, .ref wa), (5, .ref l0), (0, .ref xo), (1, .int i1), (2, .int a_), (3, .int w_), (4, .int q_)]) hx hb dX11_longest_121 hl (by decide) (zLvf_h rfl) (fun ls hl => ?_)
                refine lv_iload hx hb dX11_longest_123 (lv_at hl 3 rfl) ?_
                refine lv_istore (lv' := [(8, .int (nI i)), (7, .int (zEntry g5_21 (zMk mdA n4A (zPl cr0_ inn0_ k10_)) (nI i) a_ >>> (17 &&& 31))), (11, .int 1), (10, .int (zEntry g5_21 (zMk mdA n4A (zPl cr0_ inn0_ k10_)) (nI i) a_ >>> (17 &&& 31))), (9, .int (nI i)), (6, .ref wa), (5, .ref l0), (0, .ref xo), (1, .int i1), (2, .int a_), (3, .int w_), (4, .int q_)]) hx hb dX11_longest_125 hl (by decide) (zLvf_h rfl) (fun ls hl => ?_)
                refine lv_iinc (v := nI (i + 1)) (lv' := [(9, .int (nI (i + 1))), (8, .int (nI i)), (7, .int (zEntry g5_21 (zMk mdA n4A (zPl cr0_ inn0_ k10_)) (nI i) a_ >>> (17 &&& 31))), (11, .int 1), (10, .int (zEntry g5_21 (zMk mdA n4A (zPl cr0_ inn0_ k10_)) (nI i) a_ >>> (17 &&& 31))), (6, .ref wa), (5, .ref l0), (0, .ref xo), (1, .int i1), (2, .int a_), (3, .int w_), (4, .int q_)]) hx hb dX11_longest_127 hl (k := 4) rfl (z_inc i 1) (by decide) (zLvf_h rfl) (fun ls hl => ?_)
                refine lv_goto (tgt := 44) hx hb dX11_longest_130 (by decide) ?_
                exact ih_44 (i + 1) (zEntry g5_21 (zMk mdA n4A (zPl cr0_ inn0_ k10_)) (nI i) a_ >>> (17 &&& 31)) (nI i) (show (i + 1) ≤ aPr (aW cr0_ inn0_ k10_) 7 from (by omega)) (show aPr (aW cr0_ inn0_ k10_) 7 - (i + 1) < aPr (aW cr0_ inn0_ k10_) 7 - i from by omega) _ _ ls G (lv_sub hl [0, 1, 2, 5, 6, 7, 8, 9, 10, 11] rfl)
              · have h_76 : ((zEntry g5_21 (zMk mdA n4A (zPl cr0_ inn0_ k10_)) (nI i) a_ &&& 7).toInt < 0 ∨ cr0_.toInt ≤ (zEntry g5_21 (zMk mdA n4A (zPl cr0_ inn0_ k10_)) (nI i) a_ &&& 7).toInt ∨ 7 ≤ (zEntry g5_21 (zMk mdA n4A (zPl cr0_ inn0_ k10_)) (nI i) a_ &&& 7).toInt ∨ zBit inn0_ (zEntry g5_21 (zMk mdA n4A (zPl cr0_ inn0_ k10_)) (nI i) a_ &&& 7) = 0) := h_76
                refine lv_if_eq (tgt := 127) hx hb dX11_longest_116 (by decide) (fun _ => ?_) (fun q => absurd (by decide) q)
                refine lv_iinc (v := nI (i + 1)) (lv' := [(9, .int (nI (i + 1))), (11, .int 1), (10, .int (zEntry g5_21 (zMk mdA n4A (zPl cr0_ inn0_ k10_)) (nI i) a_ >>> (17 &&& 31))), (8, .int u8), (7, .int u7), (6, .ref wa), (5, .ref l0), (0, .ref xo), (1, .int i1), (2, .int a_), (3, .int w_), (4, .int q_)]) hx hb dX11_longest_127 hl (k := 2) rfl (z_inc i 1) (by decide) (zLvf_h rfl) (fun ls hl => ?_)
                refine lv_goto (tgt := 44) hx hb dX11_longest_130 (by decide) ?_
                exact ih_44 (i + 1) u7 u8 (show (i + 1) ≤ aPr (aW cr0_ inn0_ k10_) 7 from (by omega)) (show aPr (aW cr0_ inn0_ k10_) 7 - (i + 1) < aPr (aW cr0_ inn0_ k10_) 7 - i from by omega) _ _ ls G (lv_sub hl [0, 3, 4, 5, 6, 7, 8, 9, 10, 11] rfl)
    · have h_13 : (a_.toInt < 0 ∨ cr0_.toInt ≤ a_.toInt ∨ 7 ≤ a_.toInt) := h_13
      refine lv_if_ne (tgt := 26) hx hb dX11_longest_21 (by decide) (fun q => absurd (by decide) q) (fun _ => ?_)
      refine lv_iconst (v := (-1)) hx hb dX11_longest_24 (by decide) ?_
      have G := G.sub (bs' := [[zO10 xo t im mk rd po co tr wa wb_ fi cd], wt, z0_, z1_, wwA, wwB]) [0, 4, 5, 1, 2, 3] rfl
      exact z_back hQz_ (z_iret C hr hlocks G (Nat.le_of_ble_eq_true rfl) (by omega) dX11_longest_25 ⟨laA, mdA, wyA, pc_A, f1A, f2A, f3A, f4A, f5A, f6A, n4A, wwA, laB, mdB, wyB, pc_B, f1B, f2B, f3B, f4B, f5B, f6B, n4B, wwB, rfl, hwwA, hmdA, hwmA, (by first | exact hNAo.symm | exact (zNA_n (by first | omega | grind)).symm), hpwA, (fun q => q), hTbA, hwwB, hmdB, hwmB, (by first | exact hNAo.symm | exact (zNA_n (by first | omega | grind)).symm), hpwB, (fun q => q), hTbB⟩)
  · have h_6 : i1.toInt = 1 := h_6
    have h_7 : 1 < (fk 0).toInt := h_7
    refine lv_astore (lv' := [(5, .ref l1), (0, .ref xo), (1, .int i1), (2, .int a_), (3, .int w_), (4, .int q_)]) hx hb dX11_longest_8 hl (by decide) (zLvf_h rfl) (fun ls hl => ?_)
    refine lv_aload hx hb dX11_longest_10 (lv_at hl 0 rfl) ?_
    refine lv_ifnull hx hb dX11_longest_12 ?_
    refine lv_aload hx hb dX11_longest_15 (lv_at hl 0 rfl) ?_
    refine lv_iload_n hx hb dX11_longest_17 rfl (lv_at hl 3 rfl) ?_
    refine z_Vi (bc := [z1_]) (br := [[zO10 xo t im mk rd po co tr wa wb_ fi cd], z0_, wwA, wwB, wt]) (As := [.int a_]) (rest := []) C G (c_has l T l1 cr1_ inn1_ k11_ k21_ k31_ k41_ z1_ a_ hz1_) (kV_RX11_160 C.2.2.2.2 (Nat.le_of_ble_eq_true rfl) (Nat.le_of_ble_eq_true rfl)) [2] [2] rfl rfl (ci := 4) (qc := (RX4, TX4, 6)) rfl rfl (List.mem_flatten.mpr ⟨_, List.mem_of_getElem? (i := 0) rfl, (bLand_mem hz1_).choose_spec⟩) rfl rfl hl.1 dX11_longest_18 (Nat.le_of_ble_eq_true rfl) (by show _ + 0 ≤ 6 * (zNA (i1.toInt = 0 ∧ 0 < (fk 0).toInt ∧ 0 ≤ a_.toInt ∧ a_.toInt < cr0_.toInt ∧ a_.toInt < 7) mdA n4A (zPl cr0_ inn0_ k10_) - n4A) + 6 * (zNA (i1.toInt = 1 ∧ 1 < (fk 0).toInt ∧ 0 ≤ a_.toInt ∧ a_.toInt < cr1_.toInt ∧ a_.toInt < 7) mdB n4B (zPl cr1_ inn1_ k11_) - n4B); omega) (fun r_78 b1 H locs hw G => ?_)
    refine zAn2 hw ?_
    intro hbs9 hc_77
    clear hw
    subst hbs9
    have G : zS T A s.heap s [[zO10 xo t im mk rd po co tr wa wb_ fi cd], z0_, wwA, wwB, wt, z1_] _ _ := G
    rcases hc_77 with ⟨rfl, h_79, h_80, h_81⟩ | ⟨rfl, h_82⟩
    · have h_79 : 0 ≤ a_.toInt := h_79
      have h_80 : a_.toInt < cr1_.toInt := h_80
      have h_81 : a_.toInt < 7 := h_81
      refine lv_if_ne (tgt := 26) hx hb dX11_longest_21 (by decide) (fun _ => ?_) (fun q => absurd q (by decide))
      refine lv_aload_n hx hb dX11_longest_26 rfl (lv_at hl 1 rfl) ?_
      refine lv_iload_n hx hb dX11_longest_27 rfl (lv_at hl 2 rfl) ?_
      refine lv_aload hx hb dX11_longest_28 (lv_at hl 0 rfl) ?_
      have hNAm : zNA (i1.toInt = 1 ∧ 1 < (fk 0).toInt ∧ 0 ≤ a_.toInt ∧ a_.toInt < cr1_.toInt ∧ a_.toInt < 7) mdB n4B (zPl cr1_ inn1_ k11_) = zMk mdB n4B (zPl cr1_ inn1_ k11_) := zNA_y (by first | omega | (repeat' (first | omega | assumption | constructor)))
      have hNAo : zNA (i1.toInt = 0 ∧ 0 < (fk 0).toInt ∧ 0 ≤ a_.toInt ∧ a_.toInt < cr0_.toInt ∧ a_.toInt < 7) mdA n4A (zPl cr0_ inn0_ k10_) = n4A := zNA_n (by omega)
      have hn9 : zMk mdB n4B (zPl cr1_ inn1_ k11_) ≤ 131072 := zPw_le (zMk_pw hpwB)
      refine z_Vq (bc := [[zO10 xo t im mk rd po co tr wa wb_ fi cd], wwB, z1_]) (br := [z0_, wwA, wt]) (As := [.int i1, .ref l1]) (rest := []) C G (c_f_waysInB l T xo t im mk rd po co tr wa wb_ fi cd i1 laB mdB wyB pc_B f1B f2B f3B f4B f5B f6B n4B wwB l1 cr1_ inn1_ k11_ k21_ k31_ k41_ z1_ hwwB hz1_ hI1_ hpwB hmdB (kaOk hI1_ hLq1).1 hTbB (by omega)) (kV_RX11_235 C.2.2.2.2 (Nat.le_of_ble_eq_true rfl) (Nat.le_of_ble_eq_true rfl)) [0, 3, 5] [0, 2, 1] rfl rfl (ci := 10) (qc := (RX11, TX11, 11)) rfl rfl (List.mem_flatten.mpr ⟨_, List.mem_of_getElem? (i := 0) rfl, List.mem_cons_self⟩) rfl rfl hl.1 dX11_longest_30 (Nat.le_of_ble_eq_true rfl) (by show _ + (6 * (zMk mdB n4B (zPl cr1_ inn1_ k11_) - n4B)) ≤ 6 * (zNA (i1.toInt = 0 ∧ 0 < (fk 0).toInt ∧ 0 ≤ a_.toInt ∧ a_.toInt < cr0_.toInt ∧ a_.toInt < 7) mdA n4A (zPl cr0_ inn0_ k10_) - n4A) + 6 * (zNA (i1.toInt = 1 ∧ 1 < (fk 0).toInt ∧ 0 ≤ a_.toInt ∧ a_.toInt < cr1_.toInt ∧ a_.toInt < 7) mdB n4B (zPl cr1_ inn1_ k11_) - n4B); omega) (fun r_97 b1 H locs hw G => ?_)
      refine zEx9 hw ?_
      intro w2_83 m2_84 wy2_85 pc2_86 g1_87 g2_88 g4_89 g5_90 g6_91
      refine zCu6 ?_
      intro hbs9 h_92 h_93 h_94 h_95 h_96
      clear hw
      subst hbs9
      have G : zS T A s.heap s [z0_, wwA, wt, [zO10 xo t im mk rd po co tr wa wb_ fi cd], w2_83, z1_] _ _ := G
      subst h_92
      have hwy9 : 0 ≤ wy2_85.toInt ∧ wy2_85.toInt ≤ 16384 := by have q9 := zWy_in (inn := inn1_) hI1_; rw [h_94]; exact ⟨by omega, q9.2⟩
      have hp79 : aPr (aW cr1_ inn1_ k11_) 7 ≤ 16384 := aPr_7 hI1_
      have hwN9 : wy2_85 = nI (aPr (aW cr1_ inn1_ k11_) 7) := h_94.trans (zWy_z hI1_)
      have hwT9 : wy2_85.toInt = ((aPr (aW cr1_ inn1_ k11_) 7 : Nat) : Int) := by rw [hwN9, nI_toInt (by omega)]
      have hOk9 := (kaOk (inn := inn1_) hI1_ hLq1).1
      have hc79 := hI1_.1
      refine lv_astore (lv' := [(6, .ref wb_), (5, .ref l1), (0, .ref xo), (1, .int i1), (2, .int a_), (3, .int w_), (4, .int q_)]) hx hb dX11_longest_33 hl (by decide) (zLvf_h rfl) (fun ls hl => ?_)
      refine lv_iconst (v := (-1)) hx hb dX11_longest_35 (by decide) ?_
      refine lv_istore (lv' := [(7, .int (-1)), (6, .ref wb_), (5, .ref l1), (0, .ref xo), (1, .int i1), (2, .int a_), (3, .int w_), (4, .int q_)]) hx hb dX11_longest_36 hl (by decide) (zLvf_h rfl) (fun ls hl => ?_)
      refine lv_iconst (v := (-1)) hx hb dX11_longest_38 (by decide) ?_
      refine lv_istore (lv' := [(8, .int (-1)), (7, .int (-1)), (6, .ref wb_), (5, .ref l1), (0, .ref xo), (1, .int i1), (2, .int a_), (3, .int w_), (4, .int q_)]) hx hb dX11_longest_39 hl (by decide) (zLvf_h rfl) (fun ls hl => ?_)
      refine lv_iconst (v := 0) hx hb dX11_longest_41 (by decide) ?_
      refine lv_istore (lv' := [(9, .int 0), (8, .int (-1)), (7, .int (-1)), (6, .ref wb_), (5, .ref l1), (0, .ref xo), (1, .int i1), (2, .int a_), (3, .int w_), (4, .int q_)]) hx hb dX11_longest_42 hl (by decide) (zLvf_h rfl) (fun ls hl => ?_)
      refine zEx6 h_93 ?_
      intro a1_98 a2_99 a3_100 a4_101 a5_102 a6_103 hbs9
      clear h_93
      subst hbs9
      have G : zS T A s.heap s [z0_, wwA, wt, [zO10 xo t im mk rd po co tr wa wb_ fi cd], [zO0 wb_ m2_84 wy2_85 l1 pc2_86 a1_98 a2_99 a3_100 a4_101 a5_102 a6_103], [zAr T 0 a1_98 7 g1_87], [zAr T 0 a2_99 7 g2_88], [zAr T 0 a3_100 7 f3B], [zAr T 0 a4_101 (zMk mdB n4B (zPl cr1_ inn1_ k11_)) g4_89], [zAr T 0 a5_102 (zMk mdB n4B (zPl cr1_ inn1_ k11_)) g5_90], [zAr T 0 a6_103 (zMk mdB n4B (zPl cr1_ inn1_ k11_)) g6_91], z1_] _ _ := G.re rfl
      have hw_104 : bWays T wb_ l1 m2_84 wy2_85 pc2_86 g1_87 g2_88 f3B g4_89 g5_90 g6_91 (zMk mdB n4B (zPl cr1_ inn1_ k11_)) [zO0 wb_ m2_84 wy2_85 l1 pc2_86 a1_98 a2_99 a3_100 a4_101 a5_102 a6_103, zAr T 0 a1_98 7 g1_87, zAr T 0 a2_99 7 g2_88, zAr T 0 a3_100 7 f3B, zAr T 0 a4_101 (zMk mdB n4B (zPl cr1_ inn1_ k11_)) g4_89, zAr T 0 a5_102 (zMk mdB n4B (zPl cr1_ inn1_ k11_)) g5_90, zAr T 0 a6_103 (zMk mdB n4B (zPl cr1_ inn1_ k11_)) g6_91] := ⟨a1_98, a2_99, a3_100, a4_101, a5_102, a6_103, rfl⟩
      have G : zS T A s.heap s [z0_, wwA, wt, [zO10 xo t im mk rd po co tr wa wb_ fi cd], [zO0 wb_ m2_84 wy2_85 l1 pc2_86 a1_98 a2_99 a3_100 a4_101 a5_102 a6_103, zAr T 0 a1_98 7 g1_87, zAr T 0 a2_99 7 g2_88, zAr T 0 a3_100 7 f3B, zAr T 0 a4_101 (zMk mdB n4B (zPl cr1_ inn1_ k11_)) g4_89, zAr T 0 a5_102 (zMk mdB n4B (zPl cr1_ inn1_ k11_)) g5_90, zAr T 0 a6_103 (zMk mdB n4B (zPl cr1_ inn1_ k11_)) g6_91], z1_] _ _ := G.re rfl
      refine z_lp3 (T := T) 44 (fun (i : Nat) (u7 : Int32) (u8 : Int32) => [z0_, wwA, wt, [zO10 xo t im mk rd po co tr wa wb_ fi cd], [zO0 wb_ m2_84 wy2_85 l1 pc2_86 a1_98 a2_99 a3_100 a4_101 a5_102 a6_103, zAr T 0 a1_98 7 g1_87, zAr T 0 a2_99 7 g2_88, zAr T 0 a3_100 7 f3B, zAr T 0 a4_101 (zMk mdB n4B (zPl cr1_ inn1_ k11_)) g4_89, zAr T 0 a5_102 (zMk mdB n4B (zPl cr1_ inn1_ k11_)) g5_90, zAr T 0 a6_103 (zMk mdB n4B (zPl cr1_ inn1_ k11_)) g6_91], z1_]) (fun (i : Nat) (u7 : Int32) (u8 : Int32) => [(9, .int (nI i)), (8, .int u8), (7, .int u7), (6, .ref wb_), (5, .ref l1), (0, .ref xo), (1, .int i1), (2, .int a_), (3, .int w_), (4, .int q_)]) (fun (i : Nat) (u7 : Int32) (u8 : Int32) => i ≤ aPr (aW cr1_ inn1_ k11_) 7) (fun (i : Nat) (u7 : Int32) (u8 : Int32) => aPr (aW cr1_ inn1_ k11_) 7 - i) ?_ 0 (-1) (-1) (show 0 ≤ aPr (aW cr1_ inn1_ k11_) 7 from (Nat.zero_le _)) G (lv_sub hl [0, 1, 2, 3, 4, 5, 6, 7, 8, 9] rfl)
      intro i u7 u8 hi ih_44 H locs ls G hl
      replace hi : i ≤ aPr (aW cr1_ inn1_ k11_) 7 := hi
      replace G : zS T A s.heap s [z0_, wwA, wt, [zO10 xo t im mk rd po co tr wa wb_ fi cd], [zO0 wb_ m2_84 wy2_85 l1 pc2_86 a1_98 a2_99 a3_100 a4_101 a5_102 a6_103, zAr T 0 a1_98 7 g1_87, zAr T 0 a2_99 7 g2_88, zAr T 0 a3_100 7 f3B, zAr T 0 a4_101 (zMk mdB n4B (zPl cr1_ inn1_ k11_)) g4_89, zAr T 0 a5_102 (zMk mdB n4B (zPl cr1_ inn1_ k11_)) g5_90, zAr T 0 a6_103 (zMk mdB n4B (zPl cr1_ inn1_ k11_)) g6_91], z1_] _ _ := G
      replace hl : lv_has ls 12 [(9, .int (nI i)), (8, .int u8), (7, .int u7), (6, .ref wb_), (5, .ref l1), (0, .ref xo), (1, .int i1), (2, .int a_), (3, .int w_), (4, .int q_)] := hl
      refine lv_iload hx hb dX11_longest_44 (lv_at hl 0 rfl) ?_
      refine lv_aload hx hb dX11_longest_46 (lv_at hl 3 rfl) ?_
      have G : zS T A s.heap s [z0_, wwA, wt, [zO10 xo t im mk rd po co tr wa wb_ fi cd], [zO0 wb_ m2_84 wy2_85 l1 pc2_86 a1_98 a2_99 a3_100 a4_101 a5_102 a6_103], [zAr T 0 a1_98 7 g1_87], [zAr T 0 a2_99 7 g2_88], [zAr T 0 a3_100 7 f3B], [zAr T 0 a4_101 (zMk mdB n4B (zPl cr1_ inn1_ k11_)) g4_89], [zAr T 0 a5_102 (zMk mdB n4B (zPl cr1_ inn1_ k11_)) g5_90], [zAr T 0 a6_103 (zMk mdB n4B (zPl cr1_ inn1_ k11_)) g6_91], z1_] _ _ := G.re rfl
      refine z_get C G clX0 4 rfl 1 (by decide) m_fl_RX11_257 rfl dX11_longest_48 ?_
      refine lv_icmp_ge (tgt := 133) hx hb dX11_longest_51 (by decide) (fun c_105 => ?_) (fun c_105 => ?_)
      · have c_105n : wy2_85.toInt ≤ (i : Int) := by have q := (fa_le _ _).mp c_105; rw [nI_toInt (n := i) (by omega)] at q; exact q
        refine lv_iload hx hb dX11_longest_133 (lv_at hl 9 rfl) ?_
        refine lv_if_eq (tgt := 154) hx hb dX11_longest_135 (by decide) (fun c_106 => ?_) (fun c_106 => ?_)
        · have c_106n : q_.toInt = (0 : Int) := (fa_eq _ _).mp c_106
          refine lv_iload hx hb dX11_longest_154 (lv_at hl 2 rfl) ?_
          have hw_107 : bWays T wb_ l1 m2_84 wy2_85 pc2_86 g1_87 g2_88 f3B g4_89 g5_90 g6_91 (zMk mdB n4B (zPl cr1_ inn1_ k11_)) [zO0 wb_ m2_84 wy2_85 l1 pc2_86 a1_98 a2_99 a3_100 a4_101 a5_102 a6_103, zAr T 0 a1_98 7 g1_87, zAr T 0 a2_99 7 g2_88, zAr T 0 a3_100 7 f3B, zAr T 0 a4_101 (zMk mdB n4B (zPl cr1_ inn1_ k11_)) g4_89, zAr T 0 a5_102 (zMk mdB n4B (zPl cr1_ inn1_ k11_)) g5_90, zAr T 0 a6_103 (zMk mdB n4B (zPl cr1_ inn1_ k11_)) g6_91] := ⟨a1_98, a2_99, a3_100, a4_101, a5_102, a6_103, rfl⟩
          have G : zS T A s.heap s [z0_, wwA, wt, [zO10 xo t im mk rd po co tr wa wb_ fi cd], [zO0 wb_ m2_84 wy2_85 l1 pc2_86 a1_98 a2_99 a3_100 a4_101 a5_102 a6_103, zAr T 0 a1_98 7 g1_87, zAr T 0 a2_99 7 g2_88, zAr T 0 a3_100 7 f3B, zAr T 0 a4_101 (zMk mdB n4B (zPl cr1_ inn1_ k11_)) g4_89, zAr T 0 a5_102 (zMk mdB n4B (zPl cr1_ inn1_ k11_)) g5_90, zAr T 0 a6_103 (zMk mdB n4B (zPl cr1_ inn1_ k11_)) g6_91], z1_] _ _ := G.re rfl
          have G := G.sub (bs' := [[zO10 xo t im mk rd po co tr wa wb_ fi cd], wt, z0_, z1_, wwA, [zO0 wb_ m2_84 wy2_85 l1 pc2_86 a1_98 a2_99 a3_100 a4_101 a5_102 a6_103, zAr T 0 a1_98 7 g1_87, zAr T 0 a2_99 7 g2_88, zAr T 0 a3_100 7 f3B, zAr T 0 a4_101 (zMk mdB n4B (zPl cr1_ inn1_ k11_)) g4_89, zAr T 0 a5_102 (zMk mdB n4B (zPl cr1_ inn1_ k11_)) g5_90, zAr T 0 a6_103 (zMk mdB n4B (zPl cr1_ inn1_ k11_)) g6_91]]) [3, 2, 0, 5, 1, 4] rfl
          exact z_back hQz_ (z_iret C hr hlocks G (Nat.le_of_ble_eq_true rfl) (by omega) dX11_longest_156 ⟨laA, mdA, wyA, pc_A, f1A, f2A, f3A, f4A, f5A, f6A, n4A, wwA, l1, m2_84, wy2_85, pc2_86, g1_87, g2_88, f3B, g4_89, g5_90, g6_91, (zMk mdB n4B (zPl cr1_ inn1_ k11_)), ([zO0 wb_ m2_84 wy2_85 l1 pc2_86 a1_98 a2_99 a3_100 a4_101 a5_102 a6_103, zAr T 0 a1_98 7 g1_87, zAr T 0 a2_99 7 g2_88, zAr T 0 a3_100 7 f3B, zAr T 0 a4_101 (zMk mdB n4B (zPl cr1_ inn1_ k11_)) g4_89, zAr T 0 a5_102 (zMk mdB n4B (zPl cr1_ inn1_ k11_)) g5_90, zAr T 0 a6_103 (zMk mdB n4B (zPl cr1_ inn1_ k11_)) g6_91]), rfl, hwwA, hmdA, hwmA, (by first | exact hNAo.symm | exact (zNA_n (by first | omega | grind)).symm), hpwA, (fun q => q), hTbA, hw_107, (Or.inr rfl), hwy9, hNAm.symm, (zMk_pw hpwB), (fun _ => h_95), (Or.inr h_96)⟩)
        · have c_106n : ¬ q_.toInt = (0 : Int) := fun q => c_106 ((fa_eq _ _).mpr q)
          refine lv_iload hx hb dX11_longest_138 (lv_at hl 1 rfl) ?_
          refine lv_iconst (v := (-1)) hx hb dX11_longest_140 (by decide) ?_
          refine lv_icmp_eq (tgt := 154) hx hb dX11_longest_141 (by decide) (fun c_108 => ?_) (fun c_108 => ?_)
          · have c_108n : u8.toInt = (-1 : Int) := (fa_eq _ _).mp c_108
            refine lv_iload hx hb dX11_longest_154 (lv_at hl 2 rfl) ?_
            have hw_109 : bWays T wb_ l1 m2_84 wy2_85 pc2_86 g1_87 g2_88 f3B g4_89 g5_90 g6_91 (zMk mdB n4B (zPl cr1_ inn1_ k11_)) [zO0 wb_ m2_84 wy2_85 l1 pc2_86 a1_98 a2_99 a3_100 a4_101 a5_102 a6_103, zAr T 0 a1_98 7 g1_87, zAr T 0 a2_99 7 g2_88, zAr T 0 a3_100 7 f3B, zAr T 0 a4_101 (zMk mdB n4B (zPl cr1_ inn1_ k11_)) g4_89, zAr T 0 a5_102 (zMk mdB n4B (zPl cr1_ inn1_ k11_)) g5_90, zAr T 0 a6_103 (zMk mdB n4B (zPl cr1_ inn1_ k11_)) g6_91] := ⟨a1_98, a2_99, a3_100, a4_101, a5_102, a6_103, rfl⟩
            have G : zS T A s.heap s [z0_, wwA, wt, [zO10 xo t im mk rd po co tr wa wb_ fi cd], [zO0 wb_ m2_84 wy2_85 l1 pc2_86 a1_98 a2_99 a3_100 a4_101 a5_102 a6_103, zAr T 0 a1_98 7 g1_87, zAr T 0 a2_99 7 g2_88, zAr T 0 a3_100 7 f3B, zAr T 0 a4_101 (zMk mdB n4B (zPl cr1_ inn1_ k11_)) g4_89, zAr T 0 a5_102 (zMk mdB n4B (zPl cr1_ inn1_ k11_)) g5_90, zAr T 0 a6_103 (zMk mdB n4B (zPl cr1_ inn1_ k11_)) g6_91], z1_] _ _ := G.re rfl
            have G := G.sub (bs' := [[zO10 xo t im mk rd po co tr wa wb_ fi cd], wt, z0_, z1_, wwA, [zO0 wb_ m2_84 wy2_85 l1 pc2_86 a1_98 a2_99 a3_100 a4_101 a5_102 a6_103, zAr T 0 a1_98 7 g1_87, zAr T 0 a2_99 7 g2_88, zAr T 0 a3_100 7 f3B, zAr T 0 a4_101 (zMk mdB n4B (zPl cr1_ inn1_ k11_)) g4_89, zAr T 0 a5_102 (zMk mdB n4B (zPl cr1_ inn1_ k11_)) g5_90, zAr T 0 a6_103 (zMk mdB n4B (zPl cr1_ inn1_ k11_)) g6_91]]) [3, 2, 0, 5, 1, 4] rfl
            exact z_back hQz_ (z_iret C hr hlocks G (Nat.le_of_ble_eq_true rfl) (by omega) dX11_longest_156 ⟨laA, mdA, wyA, pc_A, f1A, f2A, f3A, f4A, f5A, f6A, n4A, wwA, l1, m2_84, wy2_85, pc2_86, g1_87, g2_88, f3B, g4_89, g5_90, g6_91, (zMk mdB n4B (zPl cr1_ inn1_ k11_)), ([zO0 wb_ m2_84 wy2_85 l1 pc2_86 a1_98 a2_99 a3_100 a4_101 a5_102 a6_103, zAr T 0 a1_98 7 g1_87, zAr T 0 a2_99 7 g2_88, zAr T 0 a3_100 7 f3B, zAr T 0 a4_101 (zMk mdB n4B (zPl cr1_ inn1_ k11_)) g4_89, zAr T 0 a5_102 (zMk mdB n4B (zPl cr1_ inn1_ k11_)) g5_90, zAr T 0 a6_103 (zMk mdB n4B (zPl cr1_ inn1_ k11_)) g6_91]), rfl, hwwA, hmdA, hwmA, (by first | exact hNAo.symm | exact (zNA_n (by first | omega | grind)).symm), hpwA, (fun q => q), hTbA, hw_109, (Or.inr rfl), hwy9, hNAm.symm, (zMk_pw hpwB), (fun _ => h_95), (Or.inr h_96)⟩)
          · have c_108n : ¬ u8.toInt = (-1 : Int) := fun q => c_108 ((fa_eq _ _).mpr q)
            refine lv_aload hx hb dX11_longest_144 (lv_at hl 3 rfl) ?_
            refine lv_iload hx hb dX11_longest_146 (lv_at hl 1 rfl) ?_
            have hw_110 : bWays T wb_ l1 m2_84 wy2_85 pc2_86 g1_87 g2_88 f3B g4_89 g5_90 g6_91 (zMk mdB n4B (zPl cr1_ inn1_ k11_)) [zO0 wb_ m2_84 wy2_85 l1 pc2_86 a1_98 a2_99 a3_100 a4_101 a5_102 a6_103, zAr T 0 a1_98 7 g1_87, zAr T 0 a2_99 7 g2_88, zAr T 0 a3_100 7 f3B, zAr T 0 a4_101 (zMk mdB n4B (zPl cr1_ inn1_ k11_)) g4_89, zAr T 0 a5_102 (zMk mdB n4B (zPl cr1_ inn1_ k11_)) g5_90, zAr T 0 a6_103 (zMk mdB n4B (zPl cr1_ inn1_ k11_)) g6_91] := ⟨a1_98, a2_99, a3_100, a4_101, a5_102, a6_103, rfl⟩
            have G : zS T A s.heap s [z0_, wwA, wt, [zO10 xo t im mk rd po co tr wa wb_ fi cd], [zO0 wb_ m2_84 wy2_85 l1 pc2_86 a1_98 a2_99 a3_100 a4_101 a5_102 a6_103, zAr T 0 a1_98 7 g1_87, zAr T 0 a2_99 7 g2_88, zAr T 0 a3_100 7 f3B, zAr T 0 a4_101 (zMk mdB n4B (zPl cr1_ inn1_ k11_)) g4_89, zAr T 0 a5_102 (zMk mdB n4B (zPl cr1_ inn1_ k11_)) g5_90, zAr T 0 a6_103 (zMk mdB n4B (zPl cr1_ inn1_ k11_)) g6_91], z1_] _ _ := G.re rfl
            refine z_Vi (bc := [[zO0 wb_ m2_84 wy2_85 l1 pc2_86 a1_98 a2_99 a3_100 a4_101 a5_102 a6_103, zAr T 0 a1_98 7 g1_87, zAr T 0 a2_99 7 g2_88, zAr T 0 a3_100 7 f3B, zAr T 0 a4_101 (zMk mdB n4B (zPl cr1_ inn1_ k11_)) g4_89, zAr T 0 a5_102 (zMk mdB n4B (zPl cr1_ inn1_ k11_)) g5_90, zAr T 0 a6_103 (zMk mdB n4B (zPl cr1_ inn1_ k11_)) g6_91], z1_]) (br := [z0_, wwA, wt, [zO10 xo t im mk rd po co tr wa wb_ fi cd]]) (As := [.int u8]) (rest := []) C G (c_number l T wb_ l1 m2_84 wy2_85 pc2_86 g1_87 g2_88 f3B g4_89 g5_90 g6_91 (zMk mdB n4B (zPl cr1_ inn1_ k11_)) ([zO0 wb_ m2_84 wy2_85 l1 pc2_86 a1_98 a2_99 a3_100 a4_101 a5_102 a6_103, zAr T 0 a1_98 7 g1_87, zAr T 0 a2_99 7 g2_88, zAr T 0 a3_100 7 f3B, zAr T 0 a4_101 (zMk mdB n4B (zPl cr1_ inn1_ k11_)) g4_89, zAr T 0 a5_102 (zMk mdB n4B (zPl cr1_ inn1_ k11_)) g5_90, zAr T 0 a6_103 (zMk mdB n4B (zPl cr1_ inn1_ k11_)) g6_91]) cr1_ inn1_ k11_ k21_ k31_ k41_ z1_ u8 hw_110 hz1_ (by first | with_reducible assumption | with_reducible rfl | omega | assumption | rfl)) (kV_RX11_272 C.2.2.2.2 (Nat.le_of_ble_eq_true rfl) (Nat.le_of_ble_eq_true rfl)) [4, 5] [4, 0] rfl rfl (ci := 0) (qc := (RX0, TX0, 10)) rfl rfl (List.mem_flatten.mpr ⟨_, List.mem_of_getElem? (i := 0) rfl, (bWays_mem hw_110).choose_spec⟩) rfl rfl hl.1 dX11_longest_148 (Nat.le_of_ble_eq_true rfl) (by show _ + 0 ≤ 6 * (zNA (i1.toInt = 0 ∧ 0 < (fk 0).toInt ∧ 0 ≤ a_.toInt ∧ a_.toInt < cr0_.toInt ∧ a_.toInt < 7) mdA n4A (zPl cr0_ inn0_ k10_) - n4A) + 6 * (zNA (i1.toInt = 1 ∧ 1 < (fk 0).toInt ∧ 0 ≤ a_.toInt ∧ a_.toInt < cr1_.toInt ∧ a_.toInt < 7) mdB n4B (zPl cr1_ inn1_ k11_) - n4B); omega) (fun r_111 b1 H locs hw G => ?_)
            obtain rfl := hw
            have G : zS T A s.heap s [z0_, wwA, wt, [zO10 xo t im mk rd po co tr wa wb_ fi cd], [zO0 wb_ m2_84 wy2_85 l1 pc2_86 a1_98 a2_99 a3_100 a4_101 a5_102 a6_103, zAr T 0 a1_98 7 g1_87, zAr T 0 a2_99 7 g2_88, zAr T 0 a3_100 7 f3B, zAr T 0 a4_101 (zMk mdB n4B (zPl cr1_ inn1_ k11_)) g4_89, zAr T 0 a5_102 (zMk mdB n4B (zPl cr1_ inn1_ k11_)) g5_90, zAr T 0 a6_103 (zMk mdB n4B (zPl cr1_ inn1_ k11_)) g6_91], z1_] _ _ := G
            refine lv_goto (tgt := 156) hx hb dX11_longest_151 (by decide) ?_
            have G := G.sub (bs' := [[zO10 xo t im mk rd po co tr wa wb_ fi cd], wt, z0_, z1_, wwA, [zO0 wb_ m2_84 wy2_85 l1 pc2_86 a1_98 a2_99 a3_100 a4_101 a5_102 a6_103, zAr T 0 a1_98 7 g1_87, zAr T 0 a2_99 7 g2_88, zAr T 0 a3_100 7 f3B, zAr T 0 a4_101 (zMk mdB n4B (zPl cr1_ inn1_ k11_)) g4_89, zAr T 0 a5_102 (zMk mdB n4B (zPl cr1_ inn1_ k11_)) g5_90, zAr T 0 a6_103 (zMk mdB n4B (zPl cr1_ inn1_ k11_)) g6_91]]) [3, 2, 0, 5, 1, 4] rfl
            exact z_back hQz_ (z_iret C hr hlocks G (Nat.le_of_ble_eq_true rfl) (by omega) dX11_longest_156 ⟨laA, mdA, wyA, pc_A, f1A, f2A, f3A, f4A, f5A, f6A, n4A, wwA, l1, m2_84, wy2_85, pc2_86, g1_87, g2_88, f3B, g4_89, g5_90, g6_91, (zMk mdB n4B (zPl cr1_ inn1_ k11_)), ([zO0 wb_ m2_84 wy2_85 l1 pc2_86 a1_98 a2_99 a3_100 a4_101 a5_102 a6_103, zAr T 0 a1_98 7 g1_87, zAr T 0 a2_99 7 g2_88, zAr T 0 a3_100 7 f3B, zAr T 0 a4_101 (zMk mdB n4B (zPl cr1_ inn1_ k11_)) g4_89, zAr T 0 a5_102 (zMk mdB n4B (zPl cr1_ inn1_ k11_)) g5_90, zAr T 0 a6_103 (zMk mdB n4B (zPl cr1_ inn1_ k11_)) g6_91]), rfl, hwwA, hmdA, hwmA, (by first | exact hNAo.symm | exact (zNA_n (by first | omega | grind)).symm), hpwA, (fun q => q), hTbA, hw_110, (Or.inr rfl), hwy9, hNAm.symm, (zMk_pw hpwB), (fun _ => h_95), (Or.inr h_96)⟩)
      · have c_105n : ¬ wy2_85.toInt ≤ (i : Int) := fun q => c_105 ((fa_le _ _).mpr (by rw [nI_toInt (n := i) (by omega)]; exact q))
        refine lv_aload hx hb dX11_longest_54 (lv_at hl 3 rfl) ?_
        refine lv_iload hx hb dX11_longest_56 (lv_at hl 0 rfl) ?_
        refine lv_iload_n hx hb dX11_longest_58 rfl (lv_at hl 7 rfl) ?_
        have hw_112 : bWays T wb_ l1 m2_84 wy2_85 pc2_86 g1_87 g2_88 f3B g4_89 g5_90 g6_91 (zMk mdB n4B (zPl cr1_ inn1_ k11_)) [zO0 wb_ m2_84 wy2_85 l1 pc2_86 a1_98 a2_99 a3_100 a4_101 a5_102 a6_103, zAr T 0 a1_98 7 g1_87, zAr T 0 a2_99 7 g2_88, zAr T 0 a3_100 7 f3B, zAr T 0 a4_101 (zMk mdB n4B (zPl cr1_ inn1_ k11_)) g4_89, zAr T 0 a5_102 (zMk mdB n4B (zPl cr1_ inn1_ k11_)) g5_90, zAr T 0 a6_103 (zMk mdB n4B (zPl cr1_ inn1_ k11_)) g6_91] := ⟨a1_98, a2_99, a3_100, a4_101, a5_102, a6_103, rfl⟩
        have G : zS T A s.heap s [z0_, wwA, wt, [zO10 xo t im mk rd po co tr wa wb_ fi cd], [zO0 wb_ m2_84 wy2_85 l1 pc2_86 a1_98 a2_99 a3_100 a4_101 a5_102 a6_103, zAr T 0 a1_98 7 g1_87, zAr T 0 a2_99 7 g2_88, zAr T 0 a3_100 7 f3B, zAr T 0 a4_101 (zMk mdB n4B (zPl cr1_ inn1_ k11_)) g4_89, zAr T 0 a5_102 (zMk mdB n4B (zPl cr1_ inn1_ k11_)) g5_90, zAr T 0 a6_103 (zMk mdB n4B (zPl cr1_ inn1_ k11_)) g6_91], z1_] _ _ := G.re rfl
        refine z_Vi (bc := [[zO0 wb_ m2_84 wy2_85 l1 pc2_86 a1_98 a2_99 a3_100 a4_101 a5_102 a6_103, zAr T 0 a1_98 7 g1_87, zAr T 0 a2_99 7 g2_88, zAr T 0 a3_100 7 f3B, zAr T 0 a4_101 (zMk mdB n4B (zPl cr1_ inn1_ k11_)) g4_89, zAr T 0 a5_102 (zMk mdB n4B (zPl cr1_ inn1_ k11_)) g5_90, zAr T 0 a6_103 (zMk mdB n4B (zPl cr1_ inn1_ k11_)) g6_91]]) (br := [z0_, wwA, wt, [zO10 xo t im mk rd po co tr wa wb_ fi cd], z1_]) (As := [.int (nI i), .int a_]) (rest := []) C G (c_steps l T wb_ l1 m2_84 wy2_85 pc2_86 g1_87 g2_88 f3B g4_89 g5_90 g6_91 (zMk mdB n4B (zPl cr1_ inn1_ k11_)) ([zO0 wb_ m2_84 wy2_85 l1 pc2_86 a1_98 a2_99 a3_100 a4_101 a5_102 a6_103, zAr T 0 a1_98 7 g1_87, zAr T 0 a2_99 7 g2_88, zAr T 0 a3_100 7 f3B, zAr T 0 a4_101 (zMk mdB n4B (zPl cr1_ inn1_ k11_)) g4_89, zAr T 0 a5_102 (zMk mdB n4B (zPl cr1_ inn1_ k11_)) g5_90, zAr T 0 a6_103 (zMk mdB n4B (zPl cr1_ inn1_ k11_)) g6_91]) (nI i) a_ hw_112 (by first | with_reducible assumption | with_reducible rfl | omega | assumption | rfl)) (kV_RX11_266 C.2.2.2.2 (Nat.le_of_ble_eq_true rfl) (Nat.le_of_ble_eq_true rfl)) [4] [4] rfl rfl (ci := 0) (qc := (RX0, TX0, 10)) rfl rfl (List.mem_flatten.mpr ⟨_, List.mem_of_getElem? (i := 0) rfl, (bWays_mem hw_112).choose_spec⟩) rfl rfl hl.1 dX11_longest_59 (Nat.le_of_ble_eq_true rfl) (by show _ + 0 ≤ 6 * (zNA (i1.toInt = 0 ∧ 0 < (fk 0).toInt ∧ 0 ≤ a_.toInt ∧ a_.toInt < cr0_.toInt ∧ a_.toInt < 7) mdA n4A (zPl cr0_ inn0_ k10_) - n4A) + 6 * (zNA (i1.toInt = 1 ∧ 1 < (fk 0).toInt ∧ 0 ≤ a_.toInt ∧ a_.toInt < cr1_.toInt ∧ a_.toInt < 7) mdB n4B (zPl cr1_ inn1_ k11_) - n4B); omega) (fun r_114 b1 H locs hw G => ?_)
        refine zAn2 hw ?_
        intro hbs9 h_113
        clear hw
        subst hbs9
        have G : zS T A s.heap s [z0_, wwA, wt, [zO10 xo t im mk rd po co tr wa wb_ fi cd], z1_, [zO0 wb_ m2_84 wy2_85 l1 pc2_86 a1_98 a2_99 a3_100 a4_101 a5_102 a6_103, zAr T 0 a1_98 7 g1_87, zAr T 0 a2_99 7 g2_88, zAr T 0 a3_100 7 f3B, zAr T 0 a4_101 (zMk mdB n4B (zPl cr1_ inn1_ k11_)) g4_89, zAr T 0 a5_102 (zMk mdB n4B (zPl cr1_ inn1_ k11_)) g5_90, zAr T 0 a6_103 (zMk mdB n4B (zPl cr1_ inn1_ k11_)) g6_91]] _ _ := G
        subst h_113
        refine lv_istore (lv' := [(10, .int (zEntry g5_90 (zMk mdB n4B (zPl cr1_ inn1_ k11_)) (nI i) a_ >>> (17 &&& 31))), (9, .int (nI i)), (8, .int u8), (7, .int u7), (6, .ref wb_), (5, .ref l1), (0, .ref xo), (1, .int i1), (2, .int a_), (3, .int w_), (4, .int q_)]) hx hb dX11_longest_62 hl (by decide) (zLvf_h rfl) (fun ls hl => ?_)
        refine lv_iload hx hb dX11_longest_64 (lv_at hl 3 rfl) ?_
        refine lv_iconst (v := (-1)) hx hb dX11_longest_66 (by decide) ?_
        refine lv_icmp_eq (tgt := 91) hx hb dX11_longest_67 (by decide) (fun c_115 => ?_) (fun c_115 => ?_)
        · have c_115n : u7.toInt = (-1 : Int) := (fa_eq _ _).mp c_115
          refine lv_iconst (v := 1) hx hb dX11_longest_91 (by decide) ?_
          refine lv_goto (tgt := 96) hx hb dX11_longest_92 (by decide) ?_
          refine lv_istore (lv' := [(11, .int 1), (10, .int (zEntry g5_90 (zMk mdB n4B (zPl cr1_ inn1_ k11_)) (nI i) a_ >>> (17 &&& 31))), (9, .int (nI i)), (8, .int u8), (7, .int u7), (6, .ref wb_), (5, .ref l1), (0, .ref xo), (1, .int i1), (2, .int a_), (3, .int w_), (4, .int q_)]) hx hb dX11_longest_96 hl (by decide) (zLvf_h rfl) (fun ls hl => ?_)
          refine lv_iload hx hb dX11_longest_98 (lv_at hl 0 rfl) ?_
          refine lv_if_eq (tgt := 127) hx hb dX11_longest_100 (by decide) (fun q => absurd q (by decide)) (fun _ => ?_)
          refine lv_aload hx hb dX11_longest_103 (lv_at hl 6 rfl) ?_
          refine lv_aload hx hb dX11_longest_105 (lv_at hl 5 rfl) ?_
          refine lv_iload hx hb dX11_longest_107 (lv_at hl 2 rfl) ?_
          refine lv_iload_n hx hb dX11_longest_109 rfl (lv_at hl 9 rfl) ?_
          refine z_Vi (bc := [[zO0 wb_ m2_84 wy2_85 l1 pc2_86 a1_98 a2_99 a3_100 a4_101 a5_102 a6_103, zAr T 0 a1_98 7 g1_87, zAr T 0 a2_99 7 g2_88, zAr T 0 a3_100 7 f3B, zAr T 0 a4_101 (zMk mdB n4B (zPl cr1_ inn1_ k11_)) g4_89, zAr T 0 a5_102 (zMk mdB n4B (zPl cr1_ inn1_ k11_)) g5_90, zAr T 0 a6_103 (zMk mdB n4B (zPl cr1_ inn1_ k11_)) g6_91]]) (br := [z0_, wwA, wt, [zO10 xo t im mk rd po co tr wa wb_ fi cd], z1_]) (As := [.int (nI i), .int a_]) (rest := [.ref l1]) C G (c_where l T wb_ l1 m2_84 wy2_85 pc2_86 g1_87 g2_88 f3B g4_89 g5_90 g6_91 (zMk mdB n4B (zPl cr1_ inn1_ k11_)) ([zO0 wb_ m2_84 wy2_85 l1 pc2_86 a1_98 a2_99 a3_100 a4_101 a5_102 a6_103, zAr T 0 a1_98 7 g1_87, zAr T 0 a2_99 7 g2_88, zAr T 0 a3_100 7 f3B, zAr T 0 a4_101 (zMk mdB n4B (zPl cr1_ inn1_ k11_)) g4_89, zAr T 0 a5_102 (zMk mdB n4B (zPl cr1_ inn1_ k11_)) g5_90, zAr T 0 a6_103 (zMk mdB n4B (zPl cr1_ inn1_ k11_)) g6_91]) (nI i) a_ hw_112 (by first | with_reducible assumption | with_reducible rfl | omega | assumption | rfl)) (kV_RX11_260 C.2.2.2.2 (Nat.le_of_ble_eq_true rfl) (Nat.le_of_ble_eq_true rfl)) [5] [5] rfl rfl (ci := 0) (qc := (RX0, TX0, 10)) rfl rfl (List.mem_flatten.mpr ⟨_, List.mem_of_getElem? (i := 0) rfl, (bWays_mem hw_112).choose_spec⟩) rfl rfl hl.1 dX11_longest_110 (Nat.le_of_ble_eq_true rfl) (by show _ + 0 ≤ 6 * (zNA (i1.toInt = 0 ∧ 0 < (fk 0).toInt ∧ 0 ≤ a_.toInt ∧ a_.toInt < cr0_.toInt ∧ a_.toInt < 7) mdA n4A (zPl cr0_ inn0_ k10_) - n4A) + 6 * (zNA (i1.toInt = 1 ∧ 1 < (fk 0).toInt ∧ 0 ≤ a_.toInt ∧ a_.toInt < cr1_.toInt ∧ a_.toInt < 7) mdB n4B (zPl cr1_ inn1_ k11_) - n4B); omega) (fun r_117 b1 H locs hw G => ?_)
          refine zAn2 hw ?_
          intro hbs9 h_116
          clear hw
          subst hbs9
          have G : zS T A s.heap s [z0_, wwA, wt, [zO10 xo t im mk rd po co tr wa wb_ fi cd], z1_, [zO0 wb_ m2_84 wy2_85 l1 pc2_86 a1_98 a2_99 a3_100 a4_101 a5_102 a6_103, zAr T 0 a1_98 7 g1_87, zAr T 0 a2_99 7 g2_88, zAr T 0 a3_100 7 f3B, zAr T 0 a4_101 (zMk mdB n4B (zPl cr1_ inn1_ k11_)) g4_89, zAr T 0 a5_102 (zMk mdB n4B (zPl cr1_ inn1_ k11_)) g5_90, zAr T 0 a6_103 (zMk mdB n4B (zPl cr1_ inn1_ k11_)) g6_91]] _ _ := G
          subst h_116
          refine z_Vi (bc := [z1_]) (br := [z0_, wwA, wt, [zO10 xo t im mk rd po co tr wa wb_ fi cd], [zO0 wb_ m2_84 wy2_85 l1 pc2_86 a1_98 a2_99 a3_100 a4_101 a5_102 a6_103, zAr T 0 a1_98 7 g1_87, zAr T 0 a2_99 7 g2_88, zAr T 0 a3_100 7 f3B, zAr T 0 a4_101 (zMk mdB n4B (zPl cr1_ inn1_ k11_)) g4_89, zAr T 0 a5_102 (zMk mdB n4B (zPl cr1_ inn1_ k11_)) g5_90, zAr T 0 a6_103 (zMk mdB n4B (zPl cr1_ inn1_ k11_)) g6_91]]) (As := [.int (zEntry g5_90 (zMk mdB n4B (zPl cr1_ inn1_ k11_)) (nI i) a_ &&& 7)]) (rest := []) C G (c_isInn l T l1 cr1_ inn1_ k11_ k21_ k31_ k41_ z1_ (zEntry g5_90 (zMk mdB n4B (zPl cr1_ inn1_ k11_)) (nI i) a_ &&& 7) hz1_) (kV_RX11_174 C.2.2.2.2 (Nat.le_of_ble_eq_true rfl) (Nat.le_of_ble_eq_true rfl)) [4] [4] rfl rfl (ci := 4) (qc := (RX4, TX4, 6)) rfl rfl (List.mem_flatten.mpr ⟨_, List.mem_of_getElem? (i := 0) rfl, (bLand_mem hz1_).choose_spec⟩) rfl rfl hl.1 dX11_longest_113 (Nat.le_of_ble_eq_true rfl) (by show _ + 0 ≤ 6 * (zNA (i1.toInt = 0 ∧ 0 < (fk 0).toInt ∧ 0 ≤ a_.toInt ∧ a_.toInt < cr0_.toInt ∧ a_.toInt < 7) mdA n4A (zPl cr0_ inn0_ k10_) - n4A) + 6 * (zNA (i1.toInt = 1 ∧ 1 < (fk 0).toInt ∧ 0 ≤ a_.toInt ∧ a_.toInt < cr1_.toInt ∧ a_.toInt < 7) mdB n4B (zPl cr1_ inn1_ k11_) - n4B); omega) (fun r_119 b1 H locs hw G => ?_)
          refine zAn2 hw ?_
          intro hbs9 hc_118
          clear hw
          subst hbs9
          have G : zS T A s.heap s [z0_, wwA, wt, [zO10 xo t im mk rd po co tr wa wb_ fi cd], [zO0 wb_ m2_84 wy2_85 l1 pc2_86 a1_98 a2_99 a3_100 a4_101 a5_102 a6_103, zAr T 0 a1_98 7 g1_87, zAr T 0 a2_99 7 g2_88, zAr T 0 a3_100 7 f3B, zAr T 0 a4_101 (zMk mdB n4B (zPl cr1_ inn1_ k11_)) g4_89, zAr T 0 a5_102 (zMk mdB n4B (zPl cr1_ inn1_ k11_)) g5_90, zAr T 0 a6_103 (zMk mdB n4B (zPl cr1_ inn1_ k11_)) g6_91], z1_] _ _ := G
          rcases hc_118 with ⟨rfl, h_120, h_121, h_122, h_123⟩ | ⟨rfl, h_124⟩
          · have h_120 : 0 ≤ (zEntry g5_90 (zMk mdB n4B (zPl cr1_ inn1_ k11_)) (nI i) a_ &&& 7).toInt := h_120
            have h_121 : (zEntry g5_90 (zMk mdB n4B (zPl cr1_ inn1_ k11_)) (nI i) a_ &&& 7).toInt < cr1_.toInt := h_121
            have h_122 : (zEntry g5_90 (zMk mdB n4B (zPl cr1_ inn1_ k11_)) (nI i) a_ &&& 7).toInt < 7 := h_122
            have h_123 : ¬ zBit inn1_ (zEntry g5_90 (zMk mdB n4B (zPl cr1_ inn1_ k11_)) (nI i) a_ &&& 7) = 0 := h_123
            refine lv_if_eq (tgt := 127) hx hb dX11_longest_116 (by decide) (fun q => absurd q (by decide)) (fun _ => ?_)
            refine lv_iload hx hb dX11_longest_119 (lv_at hl 1 rfl) ?_
            refine lv_istore (lv' := [(7, .int (zEntry g5_90 (zMk mdB n4B (zPl cr1_ inn1_ k11_)) (nI i) a_ >>> (17 &&& 31))), (11, .int 1), (10, .int (zEntry g5_90 (zMk mdB n4B (zPl cr1_ inn1_ k11_)) (nI i) a_ >>> (17 &&& 31))), (9, .int (nI i)), (8, .int u8), (6, .ref wb_), (5, .ref l1), (0, .ref xo), (1, .int i1), (2, .int a_), (3, .int w_), (4, .int q_)]) hx hb dX11_longest_121 hl (by decide) (zLvf_h rfl) (fun ls hl => ?_)
            refine lv_iload hx hb dX11_longest_123 (lv_at hl 3 rfl) ?_
            refine lv_istore (lv' := [(8, .int (nI i)), (7, .int (zEntry g5_90 (zMk mdB n4B (zPl cr1_ inn1_ k11_)) (nI i) a_ >>> (17 &&& 31))), (11, .int 1), (10, .int (zEntry g5_90 (zMk mdB n4B (zPl cr1_ inn1_ k11_)) (nI i) a_ >>> (17 &&& 31))), (9, .int (nI i)), (6, .ref wb_), (5, .ref l1), (0, .ref xo), (1, .int i1), (2, .int a_), (3, .int w_), (4, .int q_)]) hx hb dX11_longest_125 hl (by decide) (zLvf_h rfl) (fun ls hl => ?_)
            refine lv_iinc (v := nI (i + 1)) (lv' := [(9, .int (nI (i + 1))), (8, .int (nI i)), (7, .int (zEntry g5_90 (zMk mdB n4B (zPl cr1_ inn1_ k11_)) (nI i) a_ >>> (17 &&& 31))), (11, .int 1), (10, .int (zEntry g5_90 (zMk mdB n4B (zPl cr1_ inn1_ k11_)) (nI i) a_ >>> (17 &&& 31))), (6, .ref wb_), (5, .ref l1), (0, .ref xo), (1, .int i1), (2, .int a_), (3, .int w_), (4, .int q_)]) hx hb dX11_longest_127 hl (k := 4) rfl (z_inc i 1) (by decide) (zLvf_h rfl) (fun ls hl => ?_)
            refine lv_goto (tgt := 44) hx hb dX11_longest_130 (by decide) ?_
            exact ih_44 (i + 1) (zEntry g5_90 (zMk mdB n4B (zPl cr1_ inn1_ k11_)) (nI i) a_ >>> (17 &&& 31)) (nI i) (show (i + 1) ≤ aPr (aW cr1_ inn1_ k11_) 7 from (by omega)) (show aPr (aW cr1_ inn1_ k11_) 7 - (i + 1) < aPr (aW cr1_ inn1_ k11_) 7 - i from by omega) _ _ ls G (lv_sub hl [0, 1, 2, 5, 6, 7, 8, 9, 10, 11] rfl)
          · have h_124 : ((zEntry g5_90 (zMk mdB n4B (zPl cr1_ inn1_ k11_)) (nI i) a_ &&& 7).toInt < 0 ∨ cr1_.toInt ≤ (zEntry g5_90 (zMk mdB n4B (zPl cr1_ inn1_ k11_)) (nI i) a_ &&& 7).toInt ∨ 7 ≤ (zEntry g5_90 (zMk mdB n4B (zPl cr1_ inn1_ k11_)) (nI i) a_ &&& 7).toInt ∨ zBit inn1_ (zEntry g5_90 (zMk mdB n4B (zPl cr1_ inn1_ k11_)) (nI i) a_ &&& 7) = 0) := h_124
            refine lv_if_eq (tgt := 127) hx hb dX11_longest_116 (by decide) (fun _ => ?_) (fun q => absurd (by decide) q)
            refine lv_iinc (v := nI (i + 1)) (lv' := [(9, .int (nI (i + 1))), (11, .int 1), (10, .int (zEntry g5_90 (zMk mdB n4B (zPl cr1_ inn1_ k11_)) (nI i) a_ >>> (17 &&& 31))), (8, .int u8), (7, .int u7), (6, .ref wb_), (5, .ref l1), (0, .ref xo), (1, .int i1), (2, .int a_), (3, .int w_), (4, .int q_)]) hx hb dX11_longest_127 hl (k := 2) rfl (z_inc i 1) (by decide) (zLvf_h rfl) (fun ls hl => ?_)
            refine lv_goto (tgt := 44) hx hb dX11_longest_130 (by decide) ?_
            exact ih_44 (i + 1) u7 u8 (show (i + 1) ≤ aPr (aW cr1_ inn1_ k11_) 7 from (by omega)) (show aPr (aW cr1_ inn1_ k11_) 7 - (i + 1) < aPr (aW cr1_ inn1_ k11_) 7 - i from by omega) _ _ ls G (lv_sub hl [0, 3, 4, 5, 6, 7, 8, 9, 10, 11] rfl)
        · have c_115n : ¬ u7.toInt = (-1 : Int) := fun q => c_115 ((fa_eq _ _).mpr q)
          refine lv_iload_n hx hb dX11_longest_70 rfl (lv_at hl 9 rfl) ?_
          refine lv_if_eq (tgt := 84) hx hb dX11_longest_71 (by decide) (fun c_125 => ?_) (fun c_125 => ?_)
          · have c_125n : w_.toInt = (0 : Int) := (fa_eq _ _).mp c_125
            refine lv_iload hx hb dX11_longest_84 (lv_at hl 0 rfl) ?_
            refine lv_iload hx hb dX11_longest_86 (lv_at hl 3 rfl) ?_
            refine lv_icmp_le (tgt := 95) hx hb dX11_longest_88 (by decide) (fun c_126 => ?_) (fun c_126 => ?_)
            · have c_126n : (zEntry g5_90 (zMk mdB n4B (zPl cr1_ inn1_ k11_)) (nI i) a_ >>> (17 &&& 31)).toInt ≤ u7.toInt := (fa_le _ _).mp c_126
              refine lv_iconst (v := 0) hx hb dX11_longest_95 (by decide) ?_
              refine lv_istore (lv' := [(11, .int 0), (10, .int (zEntry g5_90 (zMk mdB n4B (zPl cr1_ inn1_ k11_)) (nI i) a_ >>> (17 &&& 31))), (9, .int (nI i)), (8, .int u8), (7, .int u7), (6, .ref wb_), (5, .ref l1), (0, .ref xo), (1, .int i1), (2, .int a_), (3, .int w_), (4, .int q_)]) hx hb dX11_longest_96 hl (by decide) (zLvf_h rfl) (fun ls hl => ?_)
              refine lv_iload hx hb dX11_longest_98 (lv_at hl 0 rfl) ?_
              refine lv_if_eq (tgt := 127) hx hb dX11_longest_100 (by decide) (fun _ => ?_) (fun q => absurd (by decide) q)
              refine lv_iinc (v := nI (i + 1)) (lv' := [(9, .int (nI (i + 1))), (11, .int 0), (10, .int (zEntry g5_90 (zMk mdB n4B (zPl cr1_ inn1_ k11_)) (nI i) a_ >>> (17 &&& 31))), (8, .int u8), (7, .int u7), (6, .ref wb_), (5, .ref l1), (0, .ref xo), (1, .int i1), (2, .int a_), (3, .int w_), (4, .int q_)]) hx hb dX11_longest_127 hl (k := 2) rfl (z_inc i 1) (by decide) (zLvf_h rfl) (fun ls hl => ?_)
              refine lv_goto (tgt := 44) hx hb dX11_longest_130 (by decide) ?_
              have G := G.sub (bs' := [z0_, wwA, wt, [zO10 xo t im mk rd po co tr wa wb_ fi cd], [zO0 wb_ m2_84 wy2_85 l1 pc2_86 a1_98 a2_99 a3_100 a4_101 a5_102 a6_103, zAr T 0 a1_98 7 g1_87, zAr T 0 a2_99 7 g2_88, zAr T 0 a3_100 7 f3B, zAr T 0 a4_101 (zMk mdB n4B (zPl cr1_ inn1_ k11_)) g4_89, zAr T 0 a5_102 (zMk mdB n4B (zPl cr1_ inn1_ k11_)) g5_90, zAr T 0 a6_103 (zMk mdB n4B (zPl cr1_ inn1_ k11_)) g6_91], z1_]) [0, 1, 2, 3, 5, 4] rfl
              exact ih_44 (i + 1) u7 u8 (show (i + 1) ≤ aPr (aW cr1_ inn1_ k11_) 7 from (by omega)) (show aPr (aW cr1_ inn1_ k11_) 7 - (i + 1) < aPr (aW cr1_ inn1_ k11_) 7 - i from by omega) _ _ ls G (lv_sub hl [0, 3, 4, 5, 6, 7, 8, 9, 10, 11] rfl)
            · have c_126n : ¬ (zEntry g5_90 (zMk mdB n4B (zPl cr1_ inn1_ k11_)) (nI i) a_ >>> (17 &&& 31)).toInt ≤ u7.toInt := fun q => c_126 ((fa_le _ _).mpr q)
              refine lv_iconst (v := 1) hx hb dX11_longest_91 (by decide) ?_
              refine lv_goto (tgt := 96) hx hb dX11_longest_92 (by decide) ?_
              refine lv_istore (lv' := [(11, .int 1), (10, .int (zEntry g5_90 (zMk mdB n4B (zPl cr1_ inn1_ k11_)) (nI i) a_ >>> (17 &&& 31))), (9, .int (nI i)), (8, .int u8), (7, .int u7), (6, .ref wb_), (5, .ref l1), (0, .ref xo), (1, .int i1), (2, .int a_), (3, .int w_), (4, .int q_)]) hx hb dX11_longest_96 hl (by decide) (zLvf_h rfl) (fun ls hl => ?_)
              refine lv_iload hx hb dX11_longest_98 (lv_at hl 0 rfl) ?_
              refine lv_if_eq (tgt := 127) hx hb dX11_longest_100 (by decide) (fun q => absurd q (by decide)) (fun _ => ?_)
              refine lv_aload hx hb dX11_longest_103 (lv_at hl 6 rfl) ?_
              refine lv_aload hx hb dX11_longest_105 (lv_at hl 5 rfl) ?_
              refine lv_iload hx hb dX11_longest_107 (lv_at hl 2 rfl) ?_
              refine lv_iload_n hx hb dX11_longest_109 rfl (lv_at hl 9 rfl) ?_
              refine z_Vi (bc := [[zO0 wb_ m2_84 wy2_85 l1 pc2_86 a1_98 a2_99 a3_100 a4_101 a5_102 a6_103, zAr T 0 a1_98 7 g1_87, zAr T 0 a2_99 7 g2_88, zAr T 0 a3_100 7 f3B, zAr T 0 a4_101 (zMk mdB n4B (zPl cr1_ inn1_ k11_)) g4_89, zAr T 0 a5_102 (zMk mdB n4B (zPl cr1_ inn1_ k11_)) g5_90, zAr T 0 a6_103 (zMk mdB n4B (zPl cr1_ inn1_ k11_)) g6_91]]) (br := [z0_, wwA, wt, [zO10 xo t im mk rd po co tr wa wb_ fi cd], z1_]) (As := [.int (nI i), .int a_]) (rest := [.ref l1]) C G (c_where l T wb_ l1 m2_84 wy2_85 pc2_86 g1_87 g2_88 f3B g4_89 g5_90 g6_91 (zMk mdB n4B (zPl cr1_ inn1_ k11_)) ([zO0 wb_ m2_84 wy2_85 l1 pc2_86 a1_98 a2_99 a3_100 a4_101 a5_102 a6_103, zAr T 0 a1_98 7 g1_87, zAr T 0 a2_99 7 g2_88, zAr T 0 a3_100 7 f3B, zAr T 0 a4_101 (zMk mdB n4B (zPl cr1_ inn1_ k11_)) g4_89, zAr T 0 a5_102 (zMk mdB n4B (zPl cr1_ inn1_ k11_)) g5_90, zAr T 0 a6_103 (zMk mdB n4B (zPl cr1_ inn1_ k11_)) g6_91]) (nI i) a_ hw_112 (by first | with_reducible assumption | with_reducible rfl | omega | assumption | rfl)) (kV_RX11_260 C.2.2.2.2 (Nat.le_of_ble_eq_true rfl) (Nat.le_of_ble_eq_true rfl)) [5] [5] rfl rfl (ci := 0) (qc := (RX0, TX0, 10)) rfl rfl (List.mem_flatten.mpr ⟨_, List.mem_of_getElem? (i := 0) rfl, (bWays_mem hw_112).choose_spec⟩) rfl rfl hl.1 dX11_longest_110 (Nat.le_of_ble_eq_true rfl) (by show _ + 0 ≤ 6 * (zNA (i1.toInt = 0 ∧ 0 < (fk 0).toInt ∧ 0 ≤ a_.toInt ∧ a_.toInt < cr0_.toInt ∧ a_.toInt < 7) mdA n4A (zPl cr0_ inn0_ k10_) - n4A) + 6 * (zNA (i1.toInt = 1 ∧ 1 < (fk 0).toInt ∧ 0 ≤ a_.toInt ∧ a_.toInt < cr1_.toInt ∧ a_.toInt < 7) mdB n4B (zPl cr1_ inn1_ k11_) - n4B); omega) (fun r_128 b1 H locs hw G => ?_)
              refine zAn2 hw ?_
              intro hbs9 h_127
              clear hw
              subst hbs9
              have G : zS T A s.heap s [z0_, wwA, wt, [zO10 xo t im mk rd po co tr wa wb_ fi cd], z1_, [zO0 wb_ m2_84 wy2_85 l1 pc2_86 a1_98 a2_99 a3_100 a4_101 a5_102 a6_103, zAr T 0 a1_98 7 g1_87, zAr T 0 a2_99 7 g2_88, zAr T 0 a3_100 7 f3B, zAr T 0 a4_101 (zMk mdB n4B (zPl cr1_ inn1_ k11_)) g4_89, zAr T 0 a5_102 (zMk mdB n4B (zPl cr1_ inn1_ k11_)) g5_90, zAr T 0 a6_103 (zMk mdB n4B (zPl cr1_ inn1_ k11_)) g6_91]] _ _ := G
              subst h_127
              refine z_Vi (bc := [z1_]) (br := [z0_, wwA, wt, [zO10 xo t im mk rd po co tr wa wb_ fi cd], [zO0 wb_ m2_84 wy2_85 l1 pc2_86 a1_98 a2_99 a3_100 a4_101 a5_102 a6_103, zAr T 0 a1_98 7 g1_87, zAr T 0 a2_99 7 g2_88, zAr T 0 a3_100 7 f3B, zAr T 0 a4_101 (zMk mdB n4B (zPl cr1_ inn1_ k11_)) g4_89, zAr T 0 a5_102 (zMk mdB n4B (zPl cr1_ inn1_ k11_)) g5_90, zAr T 0 a6_103 (zMk mdB n4B (zPl cr1_ inn1_ k11_)) g6_91]]) (As := [.int (zEntry g5_90 (zMk mdB n4B (zPl cr1_ inn1_ k11_)) (nI i) a_ &&& 7)]) (rest := []) C G (c_isInn l T l1 cr1_ inn1_ k11_ k21_ k31_ k41_ z1_ (zEntry g5_90 (zMk mdB n4B (zPl cr1_ inn1_ k11_)) (nI i) a_ &&& 7) hz1_) (kV_RX11_174 C.2.2.2.2 (Nat.le_of_ble_eq_true rfl) (Nat.le_of_ble_eq_true rfl)) [4] [4] rfl rfl (ci := 4) (qc := (RX4, TX4, 6)) rfl rfl (List.mem_flatten.mpr ⟨_, List.mem_of_getElem? (i := 0) rfl, (bLand_mem hz1_).choose_spec⟩) rfl rfl hl.1 dX11_longest_113 (Nat.le_of_ble_eq_true rfl) (by show _ + 0 ≤ 6 * (zNA (i1.toInt = 0 ∧ 0 < (fk 0).toInt ∧ 0 ≤ a_.toInt ∧ a_.toInt < cr0_.toInt ∧ a_.toInt < 7) mdA n4A (zPl cr0_ inn0_ k10_) - n4A) + 6 * (zNA (i1.toInt = 1 ∧ 1 < (fk 0).toInt ∧ 0 ≤ a_.toInt ∧ a_.toInt < cr1_.toInt ∧ a_.toInt < 7) mdB n4B (zPl cr1_ inn1_ k11_) - n4B); omega) (fun r_130 b1 H locs hw G => ?_)
              refine zAn2 hw ?_
              intro hbs9 hc_129
              clear hw
              subst hbs9
              have G : zS T A s.heap s [z0_, wwA, wt, [zO10 xo t im mk rd po co tr wa wb_ fi cd], [zO0 wb_ m2_84 wy2_85 l1 pc2_86 a1_98 a2_99 a3_100 a4_101 a5_102 a6_103, zAr T 0 a1_98 7 g1_87, zAr T 0 a2_99 7 g2_88, zAr T 0 a3_100 7 f3B, zAr T 0 a4_101 (zMk mdB n4B (zPl cr1_ inn1_ k11_)) g4_89, zAr T 0 a5_102 (zMk mdB n4B (zPl cr1_ inn1_ k11_)) g5_90, zAr T 0 a6_103 (zMk mdB n4B (zPl cr1_ inn1_ k11_)) g6_91], z1_] _ _ := G
              rcases hc_129 with ⟨rfl, h_131, h_132, h_133, h_134⟩ | ⟨rfl, h_135⟩
              · have h_131 : 0 ≤ (zEntry g5_90 (zMk mdB n4B (zPl cr1_ inn1_ k11_)) (nI i) a_ &&& 7).toInt := h_131
                have h_132 : (zEntry g5_90 (zMk mdB n4B (zPl cr1_ inn1_ k11_)) (nI i) a_ &&& 7).toInt < cr1_.toInt := h_132
                have h_133 : (zEntry g5_90 (zMk mdB n4B (zPl cr1_ inn1_ k11_)) (nI i) a_ &&& 7).toInt < 7 := h_133
                have h_134 : ¬ zBit inn1_ (zEntry g5_90 (zMk mdB n4B (zPl cr1_ inn1_ k11_)) (nI i) a_ &&& 7) = 0 := h_134
                refine lv_if_eq (tgt := 127) hx hb dX11_longest_116 (by decide) (fun q => absurd q (by decide)) (fun _ => ?_)
                refine lv_iload hx hb dX11_longest_119 (lv_at hl 1 rfl) ?_
                refine lv_istore (lv' := [(7, .int (zEntry g5_90 (zMk mdB n4B (zPl cr1_ inn1_ k11_)) (nI i) a_ >>> (17 &&& 31))), (11, .int 1), (10, .int (zEntry g5_90 (zMk mdB n4B (zPl cr1_ inn1_ k11_)) (nI i) a_ >>> (17 &&& 31))), (9, .int (nI i)), (8, .int u8), (6, .ref wb_), (5, .ref l1), (0, .ref xo), (1, .int i1), (2, .int a_), (3, .int w_), (4, .int q_)]) hx hb dX11_longest_121 hl (by decide) (zLvf_h rfl) (fun ls hl => ?_)
                refine lv_iload hx hb dX11_longest_123 (lv_at hl 3 rfl) ?_
                refine lv_istore (lv' := [(8, .int (nI i)), (7, .int (zEntry g5_90 (zMk mdB n4B (zPl cr1_ inn1_ k11_)) (nI i) a_ >>> (17 &&& 31))), (11, .int 1), (10, .int (zEntry g5_90 (zMk mdB n4B (zPl cr1_ inn1_ k11_)) (nI i) a_ >>> (17 &&& 31))), (9, .int (nI i)), (6, .ref wb_), (5, .ref l1), (0, .ref xo), (1, .int i1), (2, .int a_), (3, .int w_), (4, .int q_)]) hx hb dX11_longest_125 hl (by decide) (zLvf_h rfl) (fun ls hl => ?_)
                refine lv_iinc (v := nI (i + 1)) (lv' := [(9, .int (nI (i + 1))), (8, .int (nI i)), (7, .int (zEntry g5_90 (zMk mdB n4B (zPl cr1_ inn1_ k11_)) (nI i) a_ >>> (17 &&& 31))), (11, .int 1), (10, .int (zEntry g5_90 (zMk mdB n4B (zPl cr1_ inn1_ k11_)) (nI i) a_ >>> (17 &&& 31))), (6, .ref wb_), (5, .ref l1), (0, .ref xo), (1, .int i1), (2, .int a_), (3, .int w_), (4, .int q_)]) hx hb dX11_longest_127 hl (k := 4) rfl (z_inc i 1) (by decide) (zLvf_h rfl) (fun ls hl => ?_)
                refine lv_goto (tgt := 44) hx hb dX11_longest_130 (by decide) ?_
                exact ih_44 (i + 1) (zEntry g5_90 (zMk mdB n4B (zPl cr1_ inn1_ k11_)) (nI i) a_ >>> (17 &&& 31)) (nI i) (show (i + 1) ≤ aPr (aW cr1_ inn1_ k11_) 7 from (by omega)) (show aPr (aW cr1_ inn1_ k11_) 7 - (i + 1) < aPr (aW cr1_ inn1_ k11_) 7 - i from by omega) _ _ ls G (lv_sub hl [0, 1, 2, 5, 6, 7, 8, 9, 10, 11] rfl)
              · have h_135 : ((zEntry g5_90 (zMk mdB n4B (zPl cr1_ inn1_ k11_)) (nI i) a_ &&& 7).toInt < 0 ∨ cr1_.toInt ≤ (zEntry g5_90 (zMk mdB n4B (zPl cr1_ inn1_ k11_)) (nI i) a_ &&& 7).toInt ∨ 7 ≤ (zEntry g5_90 (zMk mdB n4B (zPl cr1_ inn1_ k11_)) (nI i) a_ &&& 7).toInt ∨ zBit inn1_ (zEntry g5_90 (zMk mdB n4B (zPl cr1_ inn1_ k11_)) (nI i) a_ &&& 7) = 0) := h_135
                refine lv_if_eq (tgt := 127) hx hb dX11_longest_116 (by decide) (fun _ => ?_) (fun q => absurd (by decide) q)
                refine lv_iinc (v := nI (i + 1)) (lv' := [(9, .int (nI (i + 1))), (11, .int 1), (10, .int (zEntry g5_90 (zMk mdB n4B (zPl cr1_ inn1_ k11_)) (nI i) a_ >>> (17 &&& 31))), (8, .int u8), (7, .int u7), (6, .ref wb_), (5, .ref l1), (0, .ref xo), (1, .int i1), (2, .int a_), (3, .int w_), (4, .int q_)]) hx hb dX11_longest_127 hl (k := 2) rfl (z_inc i 1) (by decide) (zLvf_h rfl) (fun ls hl => ?_)
                refine lv_goto (tgt := 44) hx hb dX11_longest_130 (by decide) ?_
                exact ih_44 (i + 1) u7 u8 (show (i + 1) ≤ aPr (aW cr1_ inn1_ k11_) 7 from (by omega)) (show aPr (aW cr1_ inn1_ k11_) 7 - (i + 1) < aPr (aW cr1_ inn1_ k11_) 7 - i from by omega) _ _ ls G (lv_sub hl [0, 3, 4, 5, 6, 7, 8, 9, 10, 11] rfl)
          · have c_125n : ¬ w_.toInt = (0 : Int) := fun q => c_125 ((fa_eq _ _).mpr q)
            refine lv_iload hx hb dX11_longest_74 (lv_at hl 0 rfl) ?_
            refine lv_iload hx hb dX11_longest_76 (lv_at hl 3 rfl) ?_
            refine lv_icmp_ge (tgt := 95) hx hb dX11_longest_78 (by decide) (fun c_136 => ?_) (fun c_136 => ?_)
            · have c_136n : u7.toInt ≤ (zEntry g5_90 (zMk mdB n4B (zPl cr1_ inn1_ k11_)) (nI i) a_ >>> (17 &&& 31)).toInt := (fa_le _ _).mp c_136
              refine lv_iconst (v := 0) hx hb dX11_longest_95 (by decide) ?_
              refine lv_istore (lv' := [(11, .int 0), (10, .int (zEntry g5_90 (zMk mdB n4B (zPl cr1_ inn1_ k11_)) (nI i) a_ >>> (17 &&& 31))), (9, .int (nI i)), (8, .int u8), (7, .int u7), (6, .ref wb_), (5, .ref l1), (0, .ref xo), (1, .int i1), (2, .int a_), (3, .int w_), (4, .int q_)]) hx hb dX11_longest_96 hl (by decide) (zLvf_h rfl) (fun ls hl => ?_)
              refine lv_iload hx hb dX11_longest_98 (lv_at hl 0 rfl) ?_
              refine lv_if_eq (tgt := 127) hx hb dX11_longest_100 (by decide) (fun _ => ?_) (fun q => absurd (by decide) q)
              refine lv_iinc (v := nI (i + 1)) (lv' := [(9, .int (nI (i + 1))), (11, .int 0), (10, .int (zEntry g5_90 (zMk mdB n4B (zPl cr1_ inn1_ k11_)) (nI i) a_ >>> (17 &&& 31))), (8, .int u8), (7, .int u7), (6, .ref wb_), (5, .ref l1), (0, .ref xo), (1, .int i1), (2, .int a_), (3, .int w_), (4, .int q_)]) hx hb dX11_longest_127 hl (k := 2) rfl (z_inc i 1) (by decide) (zLvf_h rfl) (fun ls hl => ?_)
              refine lv_goto (tgt := 44) hx hb dX11_longest_130 (by decide) ?_
              have G := G.sub (bs' := [z0_, wwA, wt, [zO10 xo t im mk rd po co tr wa wb_ fi cd], [zO0 wb_ m2_84 wy2_85 l1 pc2_86 a1_98 a2_99 a3_100 a4_101 a5_102 a6_103, zAr T 0 a1_98 7 g1_87, zAr T 0 a2_99 7 g2_88, zAr T 0 a3_100 7 f3B, zAr T 0 a4_101 (zMk mdB n4B (zPl cr1_ inn1_ k11_)) g4_89, zAr T 0 a5_102 (zMk mdB n4B (zPl cr1_ inn1_ k11_)) g5_90, zAr T 0 a6_103 (zMk mdB n4B (zPl cr1_ inn1_ k11_)) g6_91], z1_]) [0, 1, 2, 3, 5, 4] rfl
              exact ih_44 (i + 1) u7 u8 (show (i + 1) ≤ aPr (aW cr1_ inn1_ k11_) 7 from (by omega)) (show aPr (aW cr1_ inn1_ k11_) 7 - (i + 1) < aPr (aW cr1_ inn1_ k11_) 7 - i from by omega) _ _ ls G (lv_sub hl [0, 3, 4, 5, 6, 7, 8, 9, 10, 11] rfl)
            · have c_136n : ¬ u7.toInt ≤ (zEntry g5_90 (zMk mdB n4B (zPl cr1_ inn1_ k11_)) (nI i) a_ >>> (17 &&& 31)).toInt := fun q => c_136 ((fa_le _ _).mpr q)
              refine lv_goto (tgt := 91) hx hb dX11_longest_81 (by decide) ?_
              refine lv_iconst (v := 1) hx hb dX11_longest_91 (by decide) ?_
              refine lv_goto (tgt := 96) hx hb dX11_longest_92 (by decide) ?_
              refine lv_istore (lv' := [(11, .int 1), (10, .int (zEntry g5_90 (zMk mdB n4B (zPl cr1_ inn1_ k11_)) (nI i) a_ >>> (17 &&& 31))), (9, .int (nI i)), (8, .int u8), (7, .int u7), (6, .ref wb_), (5, .ref l1), (0, .ref xo), (1, .int i1), (2, .int a_), (3, .int w_), (4, .int q_)]) hx hb dX11_longest_96 hl (by decide) (zLvf_h rfl) (fun ls hl => ?_)
              refine lv_iload hx hb dX11_longest_98 (lv_at hl 0 rfl) ?_
              refine lv_if_eq (tgt := 127) hx hb dX11_longest_100 (by decide) (fun q => absurd q (by decide)) (fun _ => ?_)
              refine lv_aload hx hb dX11_longest_103 (lv_at hl 6 rfl) ?_
              refine lv_aload hx hb dX11_longest_105 (lv_at hl 5 rfl) ?_
              refine lv_iload hx hb dX11_longest_107 (lv_at hl 2 rfl) ?_
              refine lv_iload_n hx hb dX11_longest_109 rfl (lv_at hl 9 rfl) ?_
              refine z_Vi (bc := [[zO0 wb_ m2_84 wy2_85 l1 pc2_86 a1_98 a2_99 a3_100 a4_101 a5_102 a6_103, zAr T 0 a1_98 7 g1_87, zAr T 0 a2_99 7 g2_88, zAr T 0 a3_100 7 f3B, zAr T 0 a4_101 (zMk mdB n4B (zPl cr1_ inn1_ k11_)) g4_89, zAr T 0 a5_102 (zMk mdB n4B (zPl cr1_ inn1_ k11_)) g5_90, zAr T 0 a6_103 (zMk mdB n4B (zPl cr1_ inn1_ k11_)) g6_91]]) (br := [z0_, wwA, wt, [zO10 xo t im mk rd po co tr wa wb_ fi cd], z1_]) (As := [.int (nI i), .int a_]) (rest := [.ref l1]) C G (c_where l T wb_ l1 m2_84 wy2_85 pc2_86 g1_87 g2_88 f3B g4_89 g5_90 g6_91 (zMk mdB n4B (zPl cr1_ inn1_ k11_)) ([zO0 wb_ m2_84 wy2_85 l1 pc2_86 a1_98 a2_99 a3_100 a4_101 a5_102 a6_103, zAr T 0 a1_98 7 g1_87, zAr T 0 a2_99 7 g2_88, zAr T 0 a3_100 7 f3B, zAr T 0 a4_101 (zMk mdB n4B (zPl cr1_ inn1_ k11_)) g4_89, zAr T 0 a5_102 (zMk mdB n4B (zPl cr1_ inn1_ k11_)) g5_90, zAr T 0 a6_103 (zMk mdB n4B (zPl cr1_ inn1_ k11_)) g6_91]) (nI i) a_ hw_112 (by first | with_reducible assumption | with_reducible rfl | omega | assumption | rfl)) (kV_RX11_260 C.2.2.2.2 (Nat.le_of_ble_eq_true rfl) (Nat.le_of_ble_eq_true rfl)) [5] [5] rfl rfl (ci := 0) (qc := (RX0, TX0, 10)) rfl rfl (List.mem_flatten.mpr ⟨_, List.mem_of_getElem? (i := 0) rfl, (bWays_mem hw_112).choose_spec⟩) rfl rfl hl.1 dX11_longest_110 (Nat.le_of_ble_eq_true rfl) (by show _ + 0 ≤ 6 * (zNA (i1.toInt = 0 ∧ 0 < (fk 0).toInt ∧ 0 ≤ a_.toInt ∧ a_.toInt < cr0_.toInt ∧ a_.toInt < 7) mdA n4A (zPl cr0_ inn0_ k10_) - n4A) + 6 * (zNA (i1.toInt = 1 ∧ 1 < (fk 0).toInt ∧ 0 ≤ a_.toInt ∧ a_.toInt < cr1_.toInt ∧ a_.toInt < 7) mdB n4B (zPl cr1_ inn1_ k11_) - n4B); omega) (fun r_138 b1 H locs hw G => ?_)
              refine zAn2 hw ?_
              intro hbs9 h_137
              clear hw
              subst hbs9
              have G : zS T A s.heap s [z0_, wwA, wt, [zO10 xo t im mk rd po co tr wa wb_ fi cd], z1_, [zO0 wb_ m2_84 wy2_85 l1 pc2_86 a1_98 a2_99 a3_100 a4_101 a5_102 a6_103, zAr T 0 a1_98 7 g1_87, zAr T 0 a2_99 7 g2_88, zAr T 0 a3_100 7 f3B, zAr T 0 a4_101 (zMk mdB n4B (zPl cr1_ inn1_ k11_)) g4_89, zAr T 0 a5_102 (zMk mdB n4B (zPl cr1_ inn1_ k11_)) g5_90, zAr T 0 a6_103 (zMk mdB n4B (zPl cr1_ inn1_ k11_)) g6_91]] _ _ := G
              subst h_137
              refine z_Vi (bc := [z1_]) (br := [z0_, wwA, wt, [zO10 xo t im mk rd po co tr wa wb_ fi cd], [zO0 wb_ m2_84 wy2_85 l1 pc2_86 a1_98 a2_99 a3_100 a4_101 a5_102 a6_103, zAr T 0 a1_98 7 g1_87, zAr T 0 a2_99 7 g2_88, zAr T 0 a3_100 7 f3B, zAr T 0 a4_101 (zMk mdB n4B (zPl cr1_ inn1_ k11_)) g4_89, zAr T 0 a5_102 (zMk mdB n4B (zPl cr1_ inn1_ k11_)) g5_90, zAr T 0 a6_103 (zMk mdB n4B (zPl cr1_ inn1_ k11_)) g6_91]]) (As := [.int (zEntry g5_90 (zMk mdB n4B (zPl cr1_ inn1_ k11_)) (nI i) a_ &&& 7)]) (rest := []) C G (c_isInn l T l1 cr1_ inn1_ k11_ k21_ k31_ k41_ z1_ (zEntry g5_90 (zMk mdB n4B (zPl cr1_ inn1_ k11_)) (nI i) a_ &&& 7) hz1_) (kV_RX11_174 C.2.2.2.2 (Nat.le_of_ble_eq_true rfl) (Nat.le_of_ble_eq_true rfl)) [4] [4] rfl rfl (ci := 4) (qc := (RX4, TX4, 6)) rfl rfl (List.mem_flatten.mpr ⟨_, List.mem_of_getElem? (i := 0) rfl, (bLand_mem hz1_).choose_spec⟩) rfl rfl hl.1 dX11_longest_113 (Nat.le_of_ble_eq_true rfl) (by show _ + 0 ≤ 6 * (zNA (i1.toInt = 0 ∧ 0 < (fk 0).toInt ∧ 0 ≤ a_.toInt ∧ a_.toInt < cr0_.toInt ∧ a_.toInt < 7) mdA n4A (zPl cr0_ inn0_ k10_) - n4A) + 6 * (zNA (i1.toInt = 1 ∧ 1 < (fk 0).toInt ∧ 0 ≤ a_.toInt ∧ a_.toInt < cr1_.toInt ∧ a_.toInt < 7) mdB n4B (zPl cr1_ inn1_ k11_) - n4B); omega) (fun r_140 b1 H locs hw G => ?_)
              refine zAn2 hw ?_
              intro hbs9 hc_139
              clear hw
              subst hbs9
              have G : zS T A s.heap s [z0_, wwA, wt, [zO10 xo t im mk rd po co tr wa wb_ fi cd], [zO0 wb_ m2_84 wy2_85 l1 pc2_86 a1_98 a2_99 a3_100 a4_101 a5_102 a6_103, zAr T 0 a1_98 7 g1_87, zAr T 0 a2_99 7 g2_88, zAr T 0 a3_100 7 f3B, zAr T 0 a4_101 (zMk mdB n4B (zPl cr1_ inn1_ k11_)) g4_89, zAr T 0 a5_102 (zMk mdB n4B (zPl cr1_ inn1_ k11_)) g5_90, zAr T 0 a6_103 (zMk mdB n4B (zPl cr1_ inn1_ k11_)) g6_91], z1_] _ _ := G
              rcases hc_139 with ⟨rfl, h_141, h_142, h_143, h_144⟩ | ⟨rfl, h_145⟩
              · have h_141 : 0 ≤ (zEntry g5_90 (zMk mdB n4B (zPl cr1_ inn1_ k11_)) (nI i) a_ &&& 7).toInt := h_141
                have h_142 : (zEntry g5_90 (zMk mdB n4B (zPl cr1_ inn1_ k11_)) (nI i) a_ &&& 7).toInt < cr1_.toInt := h_142
                have h_143 : (zEntry g5_90 (zMk mdB n4B (zPl cr1_ inn1_ k11_)) (nI i) a_ &&& 7).toInt < 7 := h_143
                have h_144 : ¬ zBit inn1_ (zEntry g5_90 (zMk mdB n4B (zPl cr1_ inn1_ k11_)) (nI i) a_ &&& 7) = 0 := h_144
                refine lv_if_eq (tgt := 127) hx hb dX11_longest_116 (by decide) (fun q => absurd q (by decide)) (fun _ => ?_)
                refine lv_iload hx hb dX11_longest_119 (lv_at hl 1 rfl) ?_
                refine lv_istore (lv' := [(7, .int (zEntry g5_90 (zMk mdB n4B (zPl cr1_ inn1_ k11_)) (nI i) a_ >>> (17 &&& 31))), (11, .int 1), (10, .int (zEntry g5_90 (zMk mdB n4B (zPl cr1_ inn1_ k11_)) (nI i) a_ >>> (17 &&& 31))), (9, .int (nI i)), (8, .int u8), (6, .ref wb_), (5, .ref l1), (0, .ref xo), (1, .int i1), (2, .int a_), (3, .int w_), (4, .int q_)]) hx hb dX11_longest_121 hl (by decide) (zLvf_h rfl) (fun ls hl => ?_)
                refine lv_iload hx hb dX11_longest_123 (lv_at hl 3 rfl) ?_
                refine lv_istore (lv' := [(8, .int (nI i)), (7, .int (zEntry g5_90 (zMk mdB n4B (zPl cr1_ inn1_ k11_)) (nI i) a_ >>> (17 &&& 31))), (11, .int 1), (10, .int (zEntry g5_90 (zMk mdB n4B (zPl cr1_ inn1_ k11_)) (nI i) a_ >>> (17 &&& 31))), (9, .int (nI i)), (6, .ref wb_), (5, .ref l1), (0, .ref xo), (1, .int i1), (2, .int a_), (3, .int w_), (4, .int q_)]) hx hb dX11_longest_125 hl (by decide) (zLvf_h rfl) (fun ls hl => ?_)
                refine lv_iinc (v := nI (i + 1)) (lv' := [(9, .int (nI (i + 1))), (8, .int (nI i)), (7, .int (zEntry g5_90 (zMk mdB n4B (zPl cr1_ inn1_ k11_)) (nI i) a_ >>> (17 &&& 31))), (11, .int 1), (10, .int (zEntry g5_90 (zMk mdB n4B (zPl cr1_ inn1_ k11_)) (nI i) a_ >>> (17 &&& 31))), (6, .ref wb_), (5, .ref l1), (0, .ref xo), (1, .int i1), (2, .int a_), (3, .int w_), (4, .int q_)]) hx hb dX11_longest_127 hl (k := 4) rfl (z_inc i 1) (by decide) (zLvf_h rfl) (fun ls hl => ?_)
                refine lv_goto (tgt := 44) hx hb dX11_longest_130 (by decide) ?_
                exact ih_44 (i + 1) (zEntry g5_90 (zMk mdB n4B (zPl cr1_ inn1_ k11_)) (nI i) a_ >>> (17 &&& 31)) (nI i) (show (i + 1) ≤ aPr (aW cr1_ inn1_ k11_) 7 from (by omega)) (show aPr (aW cr1_ inn1_ k11_) 7 - (i + 1) < aPr (aW cr1_ inn1_ k11_) 7 - i from by omega) _ _ ls G (lv_sub hl [0, 1, 2, 5, 6, 7, 8, 9, 10, 11] rfl)
              · have h_145 : ((zEntry g5_90 (zMk mdB n4B (zPl cr1_ inn1_ k11_)) (nI i) a_ &&& 7).toInt < 0 ∨ cr1_.toInt ≤ (zEntry g5_90 (zMk mdB n4B (zPl cr1_ inn1_ k11_)) (nI i) a_ &&& 7).toInt ∨ 7 ≤ (zEntry g5_90 (zMk mdB n4B (zPl cr1_ inn1_ k11_)) (nI i) a_ &&& 7).toInt ∨ zBit inn1_ (zEntry g5_90 (zMk mdB n4B (zPl cr1_ inn1_ k11_)) (nI i) a_ &&& 7) = 0) := h_145
                refine lv_if_eq (tgt := 127) hx hb dX11_longest_116 (by decide) (fun _ => ?_) (fun q => absurd (by decide) q)
                refine lv_iinc (v := nI (i + 1)) (lv' := [(9, .int (nI (i + 1))), (11, .int 1), (10, .int (zEntry g5_90 (zMk mdB n4B (zPl cr1_ inn1_ k11_)) (nI i) a_ >>> (17 &&& 31))), (8, .int u8), (7, .int u7), (6, .ref wb_), (5, .ref l1), (0, .ref xo), (1, .int i1), (2, .int a_), (3, .int w_), (4, .int q_)]) hx hb dX11_longest_127 hl (k := 2) rfl (z_inc i 1) (by decide) (zLvf_h rfl) (fun ls hl => ?_)
                refine lv_goto (tgt := 44) hx hb dX11_longest_130 (by decide) ?_
                exact ih_44 (i + 1) u7 u8 (show (i + 1) ≤ aPr (aW cr1_ inn1_ k11_) 7 from (by omega)) (show aPr (aW cr1_ inn1_ k11_) 7 - (i + 1) < aPr (aW cr1_ inn1_ k11_) 7 - i from by omega) _ _ ls G (lv_sub hl [0, 3, 4, 5, 6, 7, 8, 9, 10, 11] rfl)
    · have h_82 : (a_.toInt < 0 ∨ cr1_.toInt ≤ a_.toInt ∨ 7 ≤ a_.toInt) := h_82
      refine lv_if_ne (tgt := 26) hx hb dX11_longest_21 (by decide) (fun q => absurd (by decide) q) (fun _ => ?_)
      refine lv_iconst (v := (-1)) hx hb dX11_longest_24 (by decide) ?_
      have G := G.sub (bs' := [[zO10 xo t im mk rd po co tr wa wb_ fi cd], wt, z0_, z1_, wwA, wwB]) [0, 4, 1, 5, 2, 3] rfl
      exact z_back hQz_ (z_iret C hr hlocks G (Nat.le_of_ble_eq_true rfl) (by omega) dX11_longest_25 ⟨laA, mdA, wyA, pc_A, f1A, f2A, f3A, f4A, f5A, f6A, n4A, wwA, laB, mdB, wyB, pc_B, f1B, f2B, f3B, f4B, f5B, f6B, n4B, wwB, rfl, hwwA, hmdA, hwmA, (by first | exact hNAo.symm | exact (zNA_n (by first | omega | grind)).symm), hpwA, (fun q => q), hTbA, hwwB, hmdB, hwmB, (by first | exact hNAo.symm | exact (zNA_n (by first | omega | grind)).symm), hpwB, (fun q => q), hTbB⟩)
set_option maxHeartbeats 4000000 in
set_option maxRecDepth 100000 in
/-- c_t_back -/
theorem c_t_back (l : Launch) (T : zTy) (xo : Nat) (t : Nat) (im : Nat) (mk : Nat) (rd : Nat) (po : Nat) (co : Nat) (tr : Nat) (wa : Nat) (wb_ : Nat) (fi : Nat) (cd : Nat) (l0 : Nat) (l1 : Nat) (d0 : Nat) (d1 : Nat) (g0 : Nat) (g1 : Nat) (ln : Int32) (fl : Int32) (pl : Int32) (ft : Nat → Int32) (fk : Nat → Int32) (wt : va_W) (cr0_ : Int32) (inn0_ : Int32) (k10_ : Nat → Int32) (k20_ : Nat → Int32) (k30_ : Nat → Int32) (k40_ : Nat → Int32) (z0_ : va_W) (cr1_ : Int32) (inn1_ : Int32) (k11_ : Nat → Int32) (k21_ : Nat → Int32) (k31_ : Nat → Int32) (k41_ : Nat → Int32) (z1_ : va_W) (laA : Nat) (mdA : Int32) (wyA : Int32) (pc_A : Int32) (f1A : Nat → Int32) (f2A : Nat → Int32) (f3A : Nat → Int32) (f4A : Nat → Int32) (f5A : Nat → Int32) (f6A : Nat → Int32) (n4A : Nat) (wwA : va_W) (laB : Nat) (mdB : Int32) (wyB : Int32) (pc_B : Int32) (f1B : Nat → Int32) (f2B : Nat → Int32) (f3B : Nat → Int32) (f4B : Nat → Int32) (f5B : Nat → Int32) (f6B : Nat → Int32) (n4B : Nat) (wwB : va_W) (i1 : Int32) (a_ : Int32) (ht : bTold T t l0 l1 d0 d1 g0 g1 ln fl pl ft fk wt) (hK : zKT fk) (hz0_ : bLand T l0 cr0_ inn0_ k10_ k20_ k30_ k40_ z0_) (hI0_ : zLI cr0_ k10_ k30_) (hz1_ : bLand T l1 cr1_ inn1_ k11_ k21_ k31_ k41_ z1_) (hI1_ : zLI cr1_ k11_ k31_) (hwwA : bWays T wa laA mdA wyA pc_A f1A f2A f3A f4A f5A f6A n4A wwA) (hpwA : zPw n4A) (hmdA : mdA = 0 ∨ laA = l0) (hwmA : 0 ≤ wyA.toInt ∧ wyA.toInt ≤ 16384) (hTbA : mdA = 0 ∨ zTab cr0_ inn0_ k10_ k20_ wyA pc_A f1A f2A f5A n4A) (hLq0 : zLq cr0_ k10_ k20_) (hwwB : bWays T wb_ laB mdB wyB pc_B f1B f2B f3B f4B f5B f6B n4B wwB) (hpwB : zPw n4B) (hmdB : mdB = 0 ∨ laB = l1) (hwmB : 0 ≤ wyB.toInt ∧ wyB.toInt ≤ 16384) (hTbB : mdB = 0 ∨ zTab cr1_ inn1_ k11_ k21_ wyB pc_B f1B f2B f5B n4B) (hLq1 : zLq cr1_ k11_ k21_) : zMi l T yX11_back cX11_back 8 (some .int) 7 3 (6 * (zNA (i1.toInt = 0 ∧ 0 < (fk 0).toInt ∧ 0 ≤ a_.toInt ∧ a_.toInt < cr0_.toInt ∧ a_.toInt < 7) mdA n4A (zPl cr0_ inn0_ k10_) - n4A) + 6 * (zNA (i1.toInt = 1 ∧ 1 < (fk 0).toInt ∧ 0 ≤ a_.toInt ∧ a_.toInt < cr1_.toInt ∧ a_.toInt < 7) mdB n4B (zPl cr1_ inn1_ k11_) - n4B)) [.ref xo, .int i1, .int a_] [[zO10 xo t im mk rd po co tr wa wb_ fi cd], wt, z0_, z1_, wwA, wwB] (fun (r : Int32) bs => ∃ (laA_2 : Nat) (mdA_2 : Int32) (wyA_2 : Int32) (pc_A_2 : Int32) (f1A_2 : Nat → Int32) (f2A_2 : Nat → Int32) (f3A_2 : Nat → Int32) (f4A_2 : Nat → Int32) (f5A_2 : Nat → Int32) (f6A_2 : Nat → Int32) (n4A_2 : Nat) (wwA_2 : va_W) (laB_2 : Nat) (mdB_2 : Int32) (wyB_2 : Int32) (pc_B_2 : Int32) (f1B_2 : Nat → Int32) (f2B_2 : Nat → Int32) (f3B_2 : Nat → Int32) (f4B_2 : Nat → Int32) (f5B_2 : Nat → Int32) (f6B_2 : Nat → Int32) (n4B_2 : Nat) (wwB_2 : va_W), bs = [[zO10 xo t im mk rd po co tr wa wb_ fi cd], wt, z0_, z1_, wwA_2, wwB_2] ∧ bWays T wa laA_2 mdA_2 wyA_2 pc_A_2 f1A_2 f2A_2 f3A_2 f4A_2 f5A_2 f6A_2 n4A_2 wwA_2 ∧ (mdA_2 = 0 ∨ laA_2 = l0) ∧ (0 ≤ wyA_2.toInt ∧ wyA_2.toInt ≤ 16384) ∧ n4A_2 = zNA (i1.toInt = 0 ∧ 0 < (fk 0).toInt ∧ 0 ≤ a_.toInt ∧ a_.toInt < cr0_.toInt ∧ a_.toInt < 7) mdA n4A (zPl cr0_ inn0_ k10_) ∧ zPw n4A_2 ∧ (¬ mdA = 0 → ¬ mdA_2 = 0) ∧ (mdA_2 = 0 ∨ zTab cr0_ inn0_ k10_ k20_ wyA_2 pc_A_2 f1A_2 f2A_2 f5A_2 n4A_2) ∧ bWays T wb_ laB_2 mdB_2 wyB_2 pc_B_2 f1B_2 f2B_2 f3B_2 f4B_2 f5B_2 f6B_2 n4B_2 wwB_2 ∧ (mdB_2 = 0 ∨ laB_2 = l1) ∧ (0 ≤ wyB_2.toInt ∧ wyB_2.toInt ≤ 16384) ∧ n4B_2 = zNA (i1.toInt = 1 ∧ 1 < (fk 0).toInt ∧ 0 ≤ a_.toInt ∧ a_.toInt < cr1_.toInt ∧ a_.toInt < 7) mdB n4B (zPl cr1_ inn1_ k11_) ∧ zPw n4B_2 ∧ (¬ mdB = 0 → ¬ mdB_2 = 0) ∧ (mdB_2 = 0 ∨ zTab cr1_ inn1_ k11_ k21_ wyB_2 pc_B_2 f1B_2 f2B_2 f5B_2 n4B_2)) := by
  refine zMi_of (own := RX11) (by decide) rfl (Nat.le_of_ble_eq_true rfl) ?_
  intro p e s m args below meth c A ls C hr hlocks hnm hAe G hl
  refine zHide (fun Qz_ hQz_ => ?_)
  have hx := C.1
  have hb := C.2.1
  replace hmdA : zHd (mdA = 0 ∨ laA = l0) := hmdA
  replace hTbA : zHd (mdA = 0 ∨ zTab cr0_ inn0_ k10_ k20_ wyA pc_A f1A f2A f5A n4A) := hTbA
  replace hmdB : zHd (mdB = 0 ∨ laB = l1) := hmdB
  replace hTbB : zHd (mdB = 0 ∨ zTab cr1_ inn1_ k11_ k21_ wyB pc_B f1B f2B f5B n4B) := hTbB
  have hl : lv_has ls 8 [(0, .ref xo), (1, .int i1), (2, .int a_)] := hl
  refine lv_aload_n hx hb dX11_back_0 rfl (lv_at hl 0 rfl) ?_
  refine z_get C G clX11 0 rfl 0 (by decide) m_fl_RX11_10 rfl dX11_back_1 ?_
  refine lv_iload_n hx hb dX11_back_4 rfl (lv_at hl 1 rfl) ?_
  refine z_Vq (bc := [wt]) (br := [[zO10 xo t im mk rd po co tr wa wb_ fi cd], z0_, z1_, wwA, wwB]) (As := [.int i1]) (rest := []) C G (c_landAt l T t l0 l1 d0 d1 g0 g1 ln fl pl ft fk wt i1 ht) (kV_RX11_121 C.2.2.2.2 (Nat.le_of_ble_eq_true rfl) (Nat.le_of_ble_eq_true rfl)) [1] [1] rfl rfl (ci := 8) (qc := (RX9, TX9, 8)) rfl rfl (List.mem_flatten.mpr ⟨_, List.mem_of_getElem? (i := 0) rfl, (bTold_mem ht).choose_spec⟩) rfl rfl hl.1 dX11_back_5 (Nat.le_of_ble_eq_true rfl) (by show _ + 0 ≤ 6 * (zNA (i1.toInt = 0 ∧ 0 < (fk 0).toInt ∧ 0 ≤ a_.toInt ∧ a_.toInt < cr0_.toInt ∧ a_.toInt < 7) mdA n4A (zPl cr0_ inn0_ k10_) - n4A) + 6 * (zNA (i1.toInt = 1 ∧ 1 < (fk 0).toInt ∧ 0 ≤ a_.toInt ∧ a_.toInt < cr1_.toInt ∧ a_.toInt < 7) mdB n4B (zPl cr1_ inn1_ k11_) - n4B); omega) (fun r_2 b1 H locs hw G => ?_)
  refine zAn2 hw ?_
  intro hbs9 hc_1
  clear hw
  subst hbs9
  have G : zS T A s.heap s [[zO10 xo t im mk rd po co tr wa wb_ fi cd], z0_, z1_, wwA, wwB, wt] _ _ := G
  rcases hc_1 with ⟨rfl, h_3⟩ | ⟨rfl, h_4, h_5⟩ | ⟨rfl, h_6, h_7⟩
  · have h_3 : (i1.toInt < 0 ∨ (fk 0).toInt ≤ i1.toInt ∨ 2 ≤ i1.toInt) := h_3
    refine lv_astore_nN (lv' := [(3, .null), (0, .ref xo), (1, .int i1), (2, .int a_)]) hx hb dX11_back_8 rfl hl (by decide) (zLvf_h rfl) (fun ls hl => ?_)
    refine lv_aload_nN hx hb dX11_back_9 rfl (lv_at hl 0 rfl) ?_
    refine lv_ifnullN (tgt := 21) hx hb dX11_back_10 (by decide) ?_
    refine lv_iconst (v := (-1)) hx hb dX11_back_21 (by decide) ?_
    have G := G.sub (bs' := [[zO10 xo t im mk rd po co tr wa wb_ fi cd], wt, z0_, z1_, wwA, wwB]) [0, 5, 1, 2, 3, 4] rfl
    exact z_back hQz_ (z_iret C hr hlocks G (Nat.le_of_ble_eq_true rfl) (by omega) dX11_back_22 ⟨laA, mdA, wyA, pc_A, f1A, f2A, f3A, f4A, f5A, f6A, n4A, wwA, laB, mdB, wyB, pc_B, f1B, f2B, f3B, f4B, f5B, f6B, n4B, wwB, rfl, hwwA, hmdA, hwmA, (by first | exact hNAo.symm | exact (zNA_n (by first | omega | grind)).symm), hpwA, (fun q => q), hTbA, hwwB, hmdB, hwmB, (by first | exact hNAo.symm | exact (zNA_n (by first | omega | grind)).symm), hpwB, (fun q => q), hTbB⟩)
  · have h_4 : i1.toInt = 0 := h_4
    have h_5 : 0 < (fk 0).toInt := h_5
    refine lv_astore_n (lv' := [(3, .ref l0), (0, .ref xo), (1, .int i1), (2, .int a_)]) hx hb dX11_back_8 rfl hl (by decide) (zLvf_h rfl) (fun ls hl => ?_)
    refine lv_aload_n hx hb dX11_back_9 rfl (lv_at hl 0 rfl) ?_
    refine lv_ifnull hx hb dX11_back_10 ?_
    refine lv_aload_n hx hb dX11_back_13 rfl (lv_at hl 0 rfl) ?_
    refine lv_iload_n hx hb dX11_back_14 rfl (lv_at hl 3 rfl) ?_
    refine z_Vi (bc := [z0_]) (br := [[zO10 xo t im mk rd po co tr wa wb_ fi cd], z1_, wwA, wwB, wt]) (As := [.int a_]) (rest := []) C G (c_has l T l0 cr0_ inn0_ k10_ k20_ k30_ k40_ z0_ a_ hz0_) (kV_RX11_160 C.2.2.2.2 (Nat.le_of_ble_eq_true rfl) (Nat.le_of_ble_eq_true rfl)) [1] [1] rfl rfl (ci := 4) (qc := (RX4, TX4, 6)) rfl rfl (List.mem_flatten.mpr ⟨_, List.mem_of_getElem? (i := 0) rfl, (bLand_mem hz0_).choose_spec⟩) rfl rfl hl.1 dX11_back_15 (Nat.le_of_ble_eq_true rfl) (by show _ + 0 ≤ 6 * (zNA (i1.toInt = 0 ∧ 0 < (fk 0).toInt ∧ 0 ≤ a_.toInt ∧ a_.toInt < cr0_.toInt ∧ a_.toInt < 7) mdA n4A (zPl cr0_ inn0_ k10_) - n4A) + 6 * (zNA (i1.toInt = 1 ∧ 1 < (fk 0).toInt ∧ 0 ≤ a_.toInt ∧ a_.toInt < cr1_.toInt ∧ a_.toInt < 7) mdB n4B (zPl cr1_ inn1_ k11_) - n4B); omega) (fun r_9 b1 H locs hw G => ?_)
    refine zAn2 hw ?_
    intro hbs9 hc_8
    clear hw
    subst hbs9
    have G : zS T A s.heap s [[zO10 xo t im mk rd po co tr wa wb_ fi cd], z1_, wwA, wwB, wt, z0_] _ _ := G
    rcases hc_8 with ⟨rfl, h_10, h_11, h_12⟩ | ⟨rfl, h_13⟩
    · have h_10 : 0 ≤ a_.toInt := h_10
      have h_11 : a_.toInt < cr0_.toInt := h_11
      have h_12 : a_.toInt < 7 := h_12
      refine lv_if_ne (tgt := 23) hx hb dX11_back_18 (by decide) (fun _ => ?_) (fun q => absurd q (by decide))
      refine lv_aload_n hx hb dX11_back_23 rfl (lv_at hl 1 rfl) ?_
      refine lv_iload_n hx hb dX11_back_24 rfl (lv_at hl 2 rfl) ?_
      refine lv_aload_n hx hb dX11_back_25 rfl (lv_at hl 0 rfl) ?_
      have hNAm : zNA (i1.toInt = 0 ∧ 0 < (fk 0).toInt ∧ 0 ≤ a_.toInt ∧ a_.toInt < cr0_.toInt ∧ a_.toInt < 7) mdA n4A (zPl cr0_ inn0_ k10_) = zMk mdA n4A (zPl cr0_ inn0_ k10_) := zNA_y (by first | omega | (repeat' (first | omega | assumption | constructor)))
      have hNAo : zNA (i1.toInt = 1 ∧ 1 < (fk 0).toInt ∧ 0 ≤ a_.toInt ∧ a_.toInt < cr1_.toInt ∧ a_.toInt < 7) mdB n4B (zPl cr1_ inn1_ k11_) = n4B := zNA_n (by omega)
      have hn9 : zMk mdA n4A (zPl cr0_ inn0_ k10_) ≤ 131072 := zPw_le (zMk_pw hpwA)
      refine z_Vq (bc := [[zO10 xo t im mk rd po co tr wa wb_ fi cd], wwA, z0_]) (br := [z1_, wwB, wt]) (As := [.int i1, .ref l0]) (rest := []) C G (c_f_waysInA l T xo t im mk rd po co tr wa wb_ fi cd i1 laA mdA wyA pc_A f1A f2A f3A f4A f5A f6A n4A wwA l0 cr0_ inn0_ k10_ k20_ k30_ k40_ z0_ hwwA hz0_ hI0_ hpwA hmdA (kaOk hI0_ hLq0).1 hTbA (by omega)) (kV_RX11_235 C.2.2.2.2 (Nat.le_of_ble_eq_true rfl) (Nat.le_of_ble_eq_true rfl)) [0, 2, 5] [0, 1, 2] rfl rfl (ci := 10) (qc := (RX11, TX11, 11)) rfl rfl (List.mem_flatten.mpr ⟨_, List.mem_of_getElem? (i := 0) rfl, List.mem_cons_self⟩) rfl rfl hl.1 dX11_back_26 (Nat.le_of_ble_eq_true rfl) (by show _ + (6 * (zMk mdA n4A (zPl cr0_ inn0_ k10_) - n4A)) ≤ 6 * (zNA (i1.toInt = 0 ∧ 0 < (fk 0).toInt ∧ 0 ≤ a_.toInt ∧ a_.toInt < cr0_.toInt ∧ a_.toInt < 7) mdA n4A (zPl cr0_ inn0_ k10_) - n4A) + 6 * (zNA (i1.toInt = 1 ∧ 1 < (fk 0).toInt ∧ 0 ≤ a_.toInt ∧ a_.toInt < cr1_.toInt ∧ a_.toInt < 7) mdB n4B (zPl cr1_ inn1_ k11_) - n4B); omega) (fun r_28 b1 H locs hw G => ?_)
      refine zEx9 hw ?_
      intro w2_14 m2_15 wy2_16 pc2_17 g1_18 g2_19 g4_20 g5_21 g6_22
      refine zCu6 ?_
      intro hbs9 h_23 h_24 h_25 h_26 h_27
      clear hw
      subst hbs9
      have G : zS T A s.heap s [z1_, wwB, wt, [zO10 xo t im mk rd po co tr wa wb_ fi cd], w2_14, z0_] _ _ := G
      subst h_23
      have hwy9 : 0 ≤ wy2_16.toInt ∧ wy2_16.toInt ≤ 16384 := by have q9 := zWy_in (inn := inn0_) hI0_; rw [h_25]; exact ⟨by omega, q9.2⟩
      have hp79 : aPr (aW cr0_ inn0_ k10_) 7 ≤ 16384 := aPr_7 hI0_
      have hwN9 : wy2_16 = nI (aPr (aW cr0_ inn0_ k10_) 7) := h_25.trans (zWy_z hI0_)
      have hwT9 : wy2_16.toInt = ((aPr (aW cr0_ inn0_ k10_) 7 : Nat) : Int) := by rw [hwN9, nI_toInt (by omega)]
      have hOk9 := (kaOk (inn := inn0_) hI0_ hLq0).1
      have hc79 := hI0_.1
      refine lv_astore (lv' := [(4, .ref wa), (3, .ref l0), (0, .ref xo), (1, .int i1), (2, .int a_)]) hx hb dX11_back_29 hl (by decide) (zLvf_h rfl) (fun ls hl => ?_)
      refine lv_aload hx hb dX11_back_31 (lv_at hl 0 rfl) ?_
      refine z_Vi (bc := [w2_14, z0_]) (br := [z1_, wwB, wt, [zO10 xo t im mk rd po co tr wa wb_ fi cd]]) (As := []) (rest := []) C G (c_wayTold l T wa l0 m2_15 wy2_16 pc2_17 g1_18 g2_19 f3A g4_20 g5_21 g6_22 (zMk mdA n4A (zPl cr0_ inn0_ k10_)) w2_14 cr0_ inn0_ k10_ k20_ k30_ k40_ z0_ h_24 hz0_ (by first | with_reducible assumption | with_reducible rfl | omega | assumption | rfl)) (kV_RX11_242 C.2.2.2.2 (Nat.le_of_ble_eq_true rfl) (Nat.le_of_ble_eq_true rfl)) [4, 5] [4, 0] rfl rfl (ci := 0) (qc := (RX0, TX0, 10)) rfl rfl (List.mem_flatten.mpr ⟨_, List.mem_of_getElem? (i := 0) rfl, (bWays_mem h_24).choose_spec⟩) rfl rfl hl.1 dX11_back_33 (Nat.le_of_ble_eq_true rfl) (by show _ + 0 ≤ 6 * (zNA (i1.toInt = 0 ∧ 0 < (fk 0).toInt ∧ 0 ≤ a_.toInt ∧ a_.toInt < cr0_.toInt ∧ a_.toInt < 7) mdA n4A (zPl cr0_ inn0_ k10_) - n4A) + 6 * (zNA (i1.toInt = 1 ∧ 1 < (fk 0).toInt ∧ 0 ≤ a_.toInt ∧ a_.toInt < cr1_.toInt ∧ a_.toInt < 7) mdB n4B (zPl cr1_ inn1_ k11_) - n4B); omega) (fun r_29 b1 H locs hw G => ?_)
      obtain rfl := hw
      have G : zS T A s.heap s [z1_, wwB, wt, [zO10 xo t im mk rd po co tr wa wb_ fi cd], w2_14, z0_] _ _ := G
      refine lv_istore (lv' := [(5, .int r_29), (4, .ref wa), (3, .ref l0), (0, .ref xo), (1, .int i1), (2, .int a_)]) hx hb dX11_back_36 hl (by decide) (zLvf_h rfl) (fun ls hl => ?_)
      refine lv_iconst (v := 0) hx hb dX11_back_38 (by decide) ?_
      refine lv_istore (lv' := [(6, .int 0), (5, .int r_29), (4, .ref wa), (3, .ref l0), (0, .ref xo), (1, .int i1), (2, .int a_)]) hx hb dX11_back_39 hl (by decide) (zLvf_h rfl) (fun ls hl => ?_)
      refine lv_iconst (v := 0) hx hb dX11_back_41 (by decide) ?_
      refine lv_istore (lv' := [(7, .int 0), (6, .int 0), (5, .int r_29), (4, .ref wa), (3, .ref l0), (0, .ref xo), (1, .int i1), (2, .int a_)]) hx hb dX11_back_42 hl (by decide) (zLvf_h rfl) (fun ls hl => ?_)
      refine zEx6 h_24 ?_
      intro a1_30 a2_31 a3_32 a4_33 a5_34 a6_35 hbs9
      clear h_24
      subst hbs9
      have G : zS T A s.heap s [z1_, wwB, wt, [zO10 xo t im mk rd po co tr wa wb_ fi cd], [zO0 wa m2_15 wy2_16 l0 pc2_17 a1_30 a2_31 a3_32 a4_33 a5_34 a6_35], [zAr T 0 a1_30 7 g1_18], [zAr T 0 a2_31 7 g2_19], [zAr T 0 a3_32 7 f3A], [zAr T 0 a4_33 (zMk mdA n4A (zPl cr0_ inn0_ k10_)) g4_20], [zAr T 0 a5_34 (zMk mdA n4A (zPl cr0_ inn0_ k10_)) g5_21], [zAr T 0 a6_35 (zMk mdA n4A (zPl cr0_ inn0_ k10_)) g6_22], z0_] _ _ := G.re rfl
      have hw_36 : bWays T wa l0 m2_15 wy2_16 pc2_17 g1_18 g2_19 f3A g4_20 g5_21 g6_22 (zMk mdA n4A (zPl cr0_ inn0_ k10_)) [zO0 wa m2_15 wy2_16 l0 pc2_17 a1_30 a2_31 a3_32 a4_33 a5_34 a6_35, zAr T 0 a1_30 7 g1_18, zAr T 0 a2_31 7 g2_19, zAr T 0 a3_32 7 f3A, zAr T 0 a4_33 (zMk mdA n4A (zPl cr0_ inn0_ k10_)) g4_20, zAr T 0 a5_34 (zMk mdA n4A (zPl cr0_ inn0_ k10_)) g5_21, zAr T 0 a6_35 (zMk mdA n4A (zPl cr0_ inn0_ k10_)) g6_22] := ⟨a1_30, a2_31, a3_32, a4_33, a5_34, a6_35, rfl⟩
      have G : zS T A s.heap s [z1_, wwB, wt, [zO10 xo t im mk rd po co tr wa wb_ fi cd], [zO0 wa m2_15 wy2_16 l0 pc2_17 a1_30 a2_31 a3_32 a4_33 a5_34 a6_35, zAr T 0 a1_30 7 g1_18, zAr T 0 a2_31 7 g2_19, zAr T 0 a3_32 7 f3A, zAr T 0 a4_33 (zMk mdA n4A (zPl cr0_ inn0_ k10_)) g4_20, zAr T 0 a5_34 (zMk mdA n4A (zPl cr0_ inn0_ k10_)) g5_21, zAr T 0 a6_35 (zMk mdA n4A (zPl cr0_ inn0_ k10_)) g6_22], z0_] _ _ := G.re rfl
      refine z_lp2 (T := T) 44 (fun (i : Nat) (u6 : Int32) => [z1_, wwB, wt, [zO10 xo t im mk rd po co tr wa wb_ fi cd], [zO0 wa m2_15 wy2_16 l0 pc2_17 a1_30 a2_31 a3_32 a4_33 a5_34 a6_35, zAr T 0 a1_30 7 g1_18, zAr T 0 a2_31 7 g2_19, zAr T 0 a3_32 7 f3A, zAr T 0 a4_33 (zMk mdA n4A (zPl cr0_ inn0_ k10_)) g4_20, zAr T 0 a5_34 (zMk mdA n4A (zPl cr0_ inn0_ k10_)) g5_21, zAr T 0 a6_35 (zMk mdA n4A (zPl cr0_ inn0_ k10_)) g6_22], z0_]) (fun (i : Nat) (u6 : Int32) => [(7, .int (nI i)), (6, .int u6), (5, .int r_29), (4, .ref wa), (3, .ref l0), (0, .ref xo), (1, .int i1), (2, .int a_)]) (fun (i : Nat) (u6 : Int32) => i ≤ aPr (aW cr0_ inn0_ k10_) 7) (fun (i : Nat) (u6 : Int32) => aPr (aW cr0_ inn0_ k10_) 7 - i) ?_ 0 0 (show 0 ≤ aPr (aW cr0_ inn0_ k10_) 7 from (Nat.zero_le _)) G (lv_sub hl [0, 1, 2, 3, 4, 5, 6, 7] rfl)
      intro i u6 hi ih_44 H locs ls G hl
      replace hi : i ≤ aPr (aW cr0_ inn0_ k10_) 7 := hi
      replace G : zS T A s.heap s [z1_, wwB, wt, [zO10 xo t im mk rd po co tr wa wb_ fi cd], [zO0 wa m2_15 wy2_16 l0 pc2_17 a1_30 a2_31 a3_32 a4_33 a5_34 a6_35, zAr T 0 a1_30 7 g1_18, zAr T 0 a2_31 7 g2_19, zAr T 0 a3_32 7 f3A, zAr T 0 a4_33 (zMk mdA n4A (zPl cr0_ inn0_ k10_)) g4_20, zAr T 0 a5_34 (zMk mdA n4A (zPl cr0_ inn0_ k10_)) g5_21, zAr T 0 a6_35 (zMk mdA n4A (zPl cr0_ inn0_ k10_)) g6_22], z0_] _ _ := G
      replace hl : lv_has ls 8 [(7, .int (nI i)), (6, .int u6), (5, .int r_29), (4, .ref wa), (3, .ref l0), (0, .ref xo), (1, .int i1), (2, .int a_)] := hl
      refine lv_iload hx hb dX11_back_44 (lv_at hl 0 rfl) ?_
      refine lv_aload hx hb dX11_back_46 (lv_at hl 3 rfl) ?_
      have G : zS T A s.heap s [z1_, wwB, wt, [zO10 xo t im mk rd po co tr wa wb_ fi cd], [zO0 wa m2_15 wy2_16 l0 pc2_17 a1_30 a2_31 a3_32 a4_33 a5_34 a6_35], [zAr T 0 a1_30 7 g1_18], [zAr T 0 a2_31 7 g2_19], [zAr T 0 a3_32 7 f3A], [zAr T 0 a4_33 (zMk mdA n4A (zPl cr0_ inn0_ k10_)) g4_20], [zAr T 0 a5_34 (zMk mdA n4A (zPl cr0_ inn0_ k10_)) g5_21], [zAr T 0 a6_35 (zMk mdA n4A (zPl cr0_ inn0_ k10_)) g6_22], z0_] _ _ := G.re rfl
      refine z_get C G clX0 4 rfl 1 (by decide) m_fl_RX11_257 rfl dX11_back_48 ?_
      refine lv_icmp_ge (tgt := 76) hx hb dX11_back_51 (by decide) (fun c_37 => ?_) (fun c_37 => ?_)
      · have c_37n : wy2_16.toInt ≤ (i : Int) := by have q := (fa_le _ _).mp c_37; rw [nI_toInt (n := i) (by omega)] at q; exact q
        refine lv_iload hx hb dX11_back_76 (lv_at hl 1 rfl) ?_
        have hw_38 : bWays T wa l0 m2_15 wy2_16 pc2_17 g1_18 g2_19 f3A g4_20 g5_21 g6_22 (zMk mdA n4A (zPl cr0_ inn0_ k10_)) [zO0 wa m2_15 wy2_16 l0 pc2_17 a1_30 a2_31 a3_32 a4_33 a5_34 a6_35, zAr T 0 a1_30 7 g1_18, zAr T 0 a2_31 7 g2_19, zAr T 0 a3_32 7 f3A, zAr T 0 a4_33 (zMk mdA n4A (zPl cr0_ inn0_ k10_)) g4_20, zAr T 0 a5_34 (zMk mdA n4A (zPl cr0_ inn0_ k10_)) g5_21, zAr T 0 a6_35 (zMk mdA n4A (zPl cr0_ inn0_ k10_)) g6_22] := ⟨a1_30, a2_31, a3_32, a4_33, a5_34, a6_35, rfl⟩
        have G : zS T A s.heap s [z1_, wwB, wt, [zO10 xo t im mk rd po co tr wa wb_ fi cd], [zO0 wa m2_15 wy2_16 l0 pc2_17 a1_30 a2_31 a3_32 a4_33 a5_34 a6_35, zAr T 0 a1_30 7 g1_18, zAr T 0 a2_31 7 g2_19, zAr T 0 a3_32 7 f3A, zAr T 0 a4_33 (zMk mdA n4A (zPl cr0_ inn0_ k10_)) g4_20, zAr T 0 a5_34 (zMk mdA n4A (zPl cr0_ inn0_ k10_)) g5_21, zAr T 0 a6_35 (zMk mdA n4A (zPl cr0_ inn0_ k10_)) g6_22], z0_] _ _ := G.re rfl
        have G := G.sub (bs' := [[zO10 xo t im mk rd po co tr wa wb_ fi cd], wt, z0_, z1_, [zO0 wa m2_15 wy2_16 l0 pc2_17 a1_30 a2_31 a3_32 a4_33 a5_34 a6_35, zAr T 0 a1_30 7 g1_18, zAr T 0 a2_31 7 g2_19, zAr T 0 a3_32 7 f3A, zAr T 0 a4_33 (zMk mdA n4A (zPl cr0_ inn0_ k10_)) g4_20, zAr T 0 a5_34 (zMk mdA n4A (zPl cr0_ inn0_ k10_)) g5_21, zAr T 0 a6_35 (zMk mdA n4A (zPl cr0_ inn0_ k10_)) g6_22], wwB]) [3, 2, 5, 0, 4, 1] rfl
        exact z_back hQz_ (z_iret C hr hlocks G (Nat.le_of_ble_eq_true rfl) (by omega) dX11_back_78 ⟨l0, m2_15, wy2_16, pc2_17, g1_18, g2_19, f3A, g4_20, g5_21, g6_22, (zMk mdA n4A (zPl cr0_ inn0_ k10_)), ([zO0 wa m2_15 wy2_16 l0 pc2_17 a1_30 a2_31 a3_32 a4_33 a5_34 a6_35, zAr T 0 a1_30 7 g1_18, zAr T 0 a2_31 7 g2_19, zAr T 0 a3_32 7 f3A, zAr T 0 a4_33 (zMk mdA n4A (zPl cr0_ inn0_ k10_)) g4_20, zAr T 0 a5_34 (zMk mdA n4A (zPl cr0_ inn0_ k10_)) g5_21, zAr T 0 a6_35 (zMk mdA n4A (zPl cr0_ inn0_ k10_)) g6_22]), laB, mdB, wyB, pc_B, f1B, f2B, f3B, f4B, f5B, f6B, n4B, wwB, rfl, hw_38, (Or.inr rfl), hwy9, hNAm.symm, (zMk_pw hpwA), (fun _ => h_26), (Or.inr h_27), hwwB, hmdB, hwmB, (by first | exact hNAo.symm | exact (zNA_n (by first | omega | grind)).symm), hpwB, (fun q => q), hTbB⟩)
      · have c_37n : ¬ wy2_16.toInt ≤ (i : Int) := fun q => c_37 ((fa_le _ _).mpr (by rw [nI_toInt (n := i) (by omega)]; exact q))
        refine lv_aload hx hb dX11_back_54 (lv_at hl 3 rfl) ?_
        refine lv_iload hx hb dX11_back_56 (lv_at hl 0 rfl) ?_
        refine lv_iload_n hx hb dX11_back_58 rfl (lv_at hl 7 rfl) ?_
        have hw_39 : bWays T wa l0 m2_15 wy2_16 pc2_17 g1_18 g2_19 f3A g4_20 g5_21 g6_22 (zMk mdA n4A (zPl cr0_ inn0_ k10_)) [zO0 wa m2_15 wy2_16 l0 pc2_17 a1_30 a2_31 a3_32 a4_33 a5_34 a6_35, zAr T 0 a1_30 7 g1_18, zAr T 0 a2_31 7 g2_19, zAr T 0 a3_32 7 f3A, zAr T 0 a4_33 (zMk mdA n4A (zPl cr0_ inn0_ k10_)) g4_20, zAr T 0 a5_34 (zMk mdA n4A (zPl cr0_ inn0_ k10_)) g5_21, zAr T 0 a6_35 (zMk mdA n4A (zPl cr0_ inn0_ k10_)) g6_22] := ⟨a1_30, a2_31, a3_32, a4_33, a5_34, a6_35, rfl⟩
        have G : zS T A s.heap s [z1_, wwB, wt, [zO10 xo t im mk rd po co tr wa wb_ fi cd], [zO0 wa m2_15 wy2_16 l0 pc2_17 a1_30 a2_31 a3_32 a4_33 a5_34 a6_35, zAr T 0 a1_30 7 g1_18, zAr T 0 a2_31 7 g2_19, zAr T 0 a3_32 7 f3A, zAr T 0 a4_33 (zMk mdA n4A (zPl cr0_ inn0_ k10_)) g4_20, zAr T 0 a5_34 (zMk mdA n4A (zPl cr0_ inn0_ k10_)) g5_21, zAr T 0 a6_35 (zMk mdA n4A (zPl cr0_ inn0_ k10_)) g6_22], z0_] _ _ := G.re rfl
        refine z_Vi (bc := [[zO0 wa m2_15 wy2_16 l0 pc2_17 a1_30 a2_31 a3_32 a4_33 a5_34 a6_35, zAr T 0 a1_30 7 g1_18, zAr T 0 a2_31 7 g2_19, zAr T 0 a3_32 7 f3A, zAr T 0 a4_33 (zMk mdA n4A (zPl cr0_ inn0_ k10_)) g4_20, zAr T 0 a5_34 (zMk mdA n4A (zPl cr0_ inn0_ k10_)) g5_21, zAr T 0 a6_35 (zMk mdA n4A (zPl cr0_ inn0_ k10_)) g6_22]]) (br := [z1_, wwB, wt, [zO10 xo t im mk rd po co tr wa wb_ fi cd], z0_]) (As := [.int (nI i), .int a_]) (rest := []) C G (c_wayAfter l T wa l0 m2_15 wy2_16 pc2_17 g1_18 g2_19 f3A g4_20 g5_21 g6_22 (zMk mdA n4A (zPl cr0_ inn0_ k10_)) ([zO0 wa m2_15 wy2_16 l0 pc2_17 a1_30 a2_31 a3_32 a4_33 a5_34 a6_35, zAr T 0 a1_30 7 g1_18, zAr T 0 a2_31 7 g2_19, zAr T 0 a3_32 7 f3A, zAr T 0 a4_33 (zMk mdA n4A (zPl cr0_ inn0_ k10_)) g4_20, zAr T 0 a5_34 (zMk mdA n4A (zPl cr0_ inn0_ k10_)) g5_21, zAr T 0 a6_35 (zMk mdA n4A (zPl cr0_ inn0_ k10_)) g6_22]) (nI i) a_ hw_39 (by first | with_reducible assumption | with_reducible rfl | omega | assumption | rfl)) (kV_RX11_275 C.2.2.2.2 (Nat.le_of_ble_eq_true rfl) (Nat.le_of_ble_eq_true rfl)) [4] [4] rfl rfl (ci := 0) (qc := (RX0, TX0, 10)) rfl rfl (List.mem_flatten.mpr ⟨_, List.mem_of_getElem? (i := 0) rfl, (bWays_mem hw_39).choose_spec⟩) rfl rfl hl.1 dX11_back_59 (Nat.le_of_ble_eq_true rfl) (by show _ + 0 ≤ 6 * (zNA (i1.toInt = 0 ∧ 0 < (fk 0).toInt ∧ 0 ≤ a_.toInt ∧ a_.toInt < cr0_.toInt ∧ a_.toInt < 7) mdA n4A (zPl cr0_ inn0_ k10_) - n4A) + 6 * (zNA (i1.toInt = 1 ∧ 1 < (fk 0).toInt ∧ 0 ≤ a_.toInt ∧ a_.toInt < cr1_.toInt ∧ a_.toInt < 7) mdB n4B (zPl cr1_ inn1_ k11_) - n4B); omega) (fun r_41 b1 H locs hw G => ?_)
        refine zAn2 hw ?_
        intro hbs9 h_40
        clear hw
        subst hbs9
        have G : zS T A s.heap s [z1_, wwB, wt, [zO10 xo t im mk rd po co tr wa wb_ fi cd], z0_, [zO0 wa m2_15 wy2_16 l0 pc2_17 a1_30 a2_31 a3_32 a4_33 a5_34 a6_35, zAr T 0 a1_30 7 g1_18, zAr T 0 a2_31 7 g2_19, zAr T 0 a3_32 7 f3A, zAr T 0 a4_33 (zMk mdA n4A (zPl cr0_ inn0_ k10_)) g4_20, zAr T 0 a5_34 (zMk mdA n4A (zPl cr0_ inn0_ k10_)) g5_21, zAr T 0 a6_35 (zMk mdA n4A (zPl cr0_ inn0_ k10_)) g6_22]] _ _ := G
        subst h_40
        refine lv_iload hx hb dX11_back_62 (lv_at hl 2 rfl) ?_
        refine lv_icmp_ne (tgt := 70) hx hb dX11_back_64 (by decide) (fun c_42 => ?_) (fun c_42 => ?_)
        · have c_42n : ¬ ((zEntry g5_21 (zMk mdA n4A (zPl cr0_ inn0_ k10_)) (nI i) a_ &&& 131071) >>> (3 &&& 31)).toInt = r_29.toInt := fun q => c_42 ((fa_eq _ _).mpr q)
          refine lv_iinc (v := nI (i + 1)) (lv' := [(7, .int (nI (i + 1))), (6, .int u6), (5, .int r_29), (4, .ref wa), (3, .ref l0), (0, .ref xo), (1, .int i1), (2, .int a_)]) hx hb dX11_back_70 hl (k := 0) rfl (z_inc i 1) (by decide) (zLvf_h rfl) (fun ls hl => ?_)
          refine lv_goto (tgt := 44) hx hb dX11_back_73 (by decide) ?_
          have G := G.sub (bs' := [z1_, wwB, wt, [zO10 xo t im mk rd po co tr wa wb_ fi cd], [zO0 wa m2_15 wy2_16 l0 pc2_17 a1_30 a2_31 a3_32 a4_33 a5_34 a6_35, zAr T 0 a1_30 7 g1_18, zAr T 0 a2_31 7 g2_19, zAr T 0 a3_32 7 f3A, zAr T 0 a4_33 (zMk mdA n4A (zPl cr0_ inn0_ k10_)) g4_20, zAr T 0 a5_34 (zMk mdA n4A (zPl cr0_ inn0_ k10_)) g5_21, zAr T 0 a6_35 (zMk mdA n4A (zPl cr0_ inn0_ k10_)) g6_22], z0_]) [0, 1, 2, 3, 5, 4] rfl
          exact ih_44 (i + 1) u6 (show (i + 1) ≤ aPr (aW cr0_ inn0_ k10_) 7 from (by omega)) (show aPr (aW cr0_ inn0_ k10_) 7 - (i + 1) < aPr (aW cr0_ inn0_ k10_) 7 - i from by omega) _ _ ls G (lv_sub hl [0, 1, 2, 3, 4, 5, 6, 7] rfl)
        · have c_42n : ((zEntry g5_21 (zMk mdA n4A (zPl cr0_ inn0_ k10_)) (nI i) a_ &&& 131071) >>> (3 &&& 31)).toInt = r_29.toInt := (fa_eq _ _).mp c_42
          refine lv_iinc (v := u6 + 1) (lv' := [(6, .int (u6 + 1)), (7, .int (nI i)), (5, .int r_29), (4, .ref wa), (3, .ref l0), (0, .ref xo), (1, .int i1), (2, .int a_)]) hx hb dX11_back_67 hl (k := 1) rfl rfl (by decide) (zLvf_h rfl) (fun ls hl => ?_)
          refine lv_iinc (v := nI (i + 1)) (lv' := [(7, .int (nI (i + 1))), (6, .int (u6 + 1)), (5, .int r_29), (4, .ref wa), (3, .ref l0), (0, .ref xo), (1, .int i1), (2, .int a_)]) hx hb dX11_back_70 hl (k := 1) rfl (z_inc i 1) (by decide) (zLvf_h rfl) (fun ls hl => ?_)
          refine lv_goto (tgt := 44) hx hb dX11_back_73 (by decide) ?_
          have G := G.sub (bs' := [z1_, wwB, wt, [zO10 xo t im mk rd po co tr wa wb_ fi cd], [zO0 wa m2_15 wy2_16 l0 pc2_17 a1_30 a2_31 a3_32 a4_33 a5_34 a6_35, zAr T 0 a1_30 7 g1_18, zAr T 0 a2_31 7 g2_19, zAr T 0 a3_32 7 f3A, zAr T 0 a4_33 (zMk mdA n4A (zPl cr0_ inn0_ k10_)) g4_20, zAr T 0 a5_34 (zMk mdA n4A (zPl cr0_ inn0_ k10_)) g5_21, zAr T 0 a6_35 (zMk mdA n4A (zPl cr0_ inn0_ k10_)) g6_22], z0_]) [0, 1, 2, 3, 5, 4] rfl
          exact ih_44 (i + 1) (u6 + 1) (show (i + 1) ≤ aPr (aW cr0_ inn0_ k10_) 7 from (by omega)) (show aPr (aW cr0_ inn0_ k10_) 7 - (i + 1) < aPr (aW cr0_ inn0_ k10_) 7 - i from by omega) _ _ ls G (lv_sub hl [0, 1, 2, 3, 4, 5, 6, 7] rfl)
    · have h_13 : (a_.toInt < 0 ∨ cr0_.toInt ≤ a_.toInt ∨ 7 ≤ a_.toInt) := h_13
      refine lv_if_ne (tgt := 23) hx hb dX11_back_18 (by decide) (fun q => absurd (by decide) q) (fun _ => ?_)
      refine lv_iconst (v := (-1)) hx hb dX11_back_21 (by decide) ?_
      have G := G.sub (bs' := [[zO10 xo t im mk rd po co tr wa wb_ fi cd], wt, z0_, z1_, wwA, wwB]) [0, 4, 5, 1, 2, 3] rfl
      exact z_back hQz_ (z_iret C hr hlocks G (Nat.le_of_ble_eq_true rfl) (by omega) dX11_back_22 ⟨laA, mdA, wyA, pc_A, f1A, f2A, f3A, f4A, f5A, f6A, n4A, wwA, laB, mdB, wyB, pc_B, f1B, f2B, f3B, f4B, f5B, f6B, n4B, wwB, rfl, hwwA, hmdA, hwmA, (by first | exact hNAo.symm | exact (zNA_n (by first | omega | grind)).symm), hpwA, (fun q => q), hTbA, hwwB, hmdB, hwmB, (by first | exact hNAo.symm | exact (zNA_n (by first | omega | grind)).symm), hpwB, (fun q => q), hTbB⟩)
  · have h_6 : i1.toInt = 1 := h_6
    have h_7 : 1 < (fk 0).toInt := h_7
    refine lv_astore_n (lv' := [(3, .ref l1), (0, .ref xo), (1, .int i1), (2, .int a_)]) hx hb dX11_back_8 rfl hl (by decide) (zLvf_h rfl) (fun ls hl => ?_)
    refine lv_aload_n hx hb dX11_back_9 rfl (lv_at hl 0 rfl) ?_
    refine lv_ifnull hx hb dX11_back_10 ?_
    refine lv_aload_n hx hb dX11_back_13 rfl (lv_at hl 0 rfl) ?_
    refine lv_iload_n hx hb dX11_back_14 rfl (lv_at hl 3 rfl) ?_
    refine z_Vi (bc := [z1_]) (br := [[zO10 xo t im mk rd po co tr wa wb_ fi cd], z0_, wwA, wwB, wt]) (As := [.int a_]) (rest := []) C G (c_has l T l1 cr1_ inn1_ k11_ k21_ k31_ k41_ z1_ a_ hz1_) (kV_RX11_160 C.2.2.2.2 (Nat.le_of_ble_eq_true rfl) (Nat.le_of_ble_eq_true rfl)) [2] [2] rfl rfl (ci := 4) (qc := (RX4, TX4, 6)) rfl rfl (List.mem_flatten.mpr ⟨_, List.mem_of_getElem? (i := 0) rfl, (bLand_mem hz1_).choose_spec⟩) rfl rfl hl.1 dX11_back_15 (Nat.le_of_ble_eq_true rfl) (by show _ + 0 ≤ 6 * (zNA (i1.toInt = 0 ∧ 0 < (fk 0).toInt ∧ 0 ≤ a_.toInt ∧ a_.toInt < cr0_.toInt ∧ a_.toInt < 7) mdA n4A (zPl cr0_ inn0_ k10_) - n4A) + 6 * (zNA (i1.toInt = 1 ∧ 1 < (fk 0).toInt ∧ 0 ≤ a_.toInt ∧ a_.toInt < cr1_.toInt ∧ a_.toInt < 7) mdB n4B (zPl cr1_ inn1_ k11_) - n4B); omega) (fun r_44 b1 H locs hw G => ?_)
    refine zAn2 hw ?_
    intro hbs9 hc_43
    clear hw
    subst hbs9
    have G : zS T A s.heap s [[zO10 xo t im mk rd po co tr wa wb_ fi cd], z0_, wwA, wwB, wt, z1_] _ _ := G
    rcases hc_43 with ⟨rfl, h_45, h_46, h_47⟩ | ⟨rfl, h_48⟩
    · have h_45 : 0 ≤ a_.toInt := h_45
      have h_46 : a_.toInt < cr1_.toInt := h_46
      have h_47 : a_.toInt < 7 := h_47
      refine lv_if_ne (tgt := 23) hx hb dX11_back_18 (by decide) (fun _ => ?_) (fun q => absurd q (by decide))
      refine lv_aload_n hx hb dX11_back_23 rfl (lv_at hl 1 rfl) ?_
      refine lv_iload_n hx hb dX11_back_24 rfl (lv_at hl 2 rfl) ?_
      refine lv_aload_n hx hb dX11_back_25 rfl (lv_at hl 0 rfl) ?_
      have hNAm : zNA (i1.toInt = 1 ∧ 1 < (fk 0).toInt ∧ 0 ≤ a_.toInt ∧ a_.toInt < cr1_.toInt ∧ a_.toInt < 7) mdB n4B (zPl cr1_ inn1_ k11_) = zMk mdB n4B (zPl cr1_ inn1_ k11_) := zNA_y (by first | omega | (repeat' (first | omega | assumption | constructor)))
      have hNAo : zNA (i1.toInt = 0 ∧ 0 < (fk 0).toInt ∧ 0 ≤ a_.toInt ∧ a_.toInt < cr0_.toInt ∧ a_.toInt < 7) mdA n4A (zPl cr0_ inn0_ k10_) = n4A := zNA_n (by omega)
      have hn9 : zMk mdB n4B (zPl cr1_ inn1_ k11_) ≤ 131072 := zPw_le (zMk_pw hpwB)
      refine z_Vq (bc := [[zO10 xo t im mk rd po co tr wa wb_ fi cd], wwB, z1_]) (br := [z0_, wwA, wt]) (As := [.int i1, .ref l1]) (rest := []) C G (c_f_waysInB l T xo t im mk rd po co tr wa wb_ fi cd i1 laB mdB wyB pc_B f1B f2B f3B f4B f5B f6B n4B wwB l1 cr1_ inn1_ k11_ k21_ k31_ k41_ z1_ hwwB hz1_ hI1_ hpwB hmdB (kaOk hI1_ hLq1).1 hTbB (by omega)) (kV_RX11_235 C.2.2.2.2 (Nat.le_of_ble_eq_true rfl) (Nat.le_of_ble_eq_true rfl)) [0, 3, 5] [0, 2, 1] rfl rfl (ci := 10) (qc := (RX11, TX11, 11)) rfl rfl (List.mem_flatten.mpr ⟨_, List.mem_of_getElem? (i := 0) rfl, List.mem_cons_self⟩) rfl rfl hl.1 dX11_back_26 (Nat.le_of_ble_eq_true rfl) (by show _ + (6 * (zMk mdB n4B (zPl cr1_ inn1_ k11_) - n4B)) ≤ 6 * (zNA (i1.toInt = 0 ∧ 0 < (fk 0).toInt ∧ 0 ≤ a_.toInt ∧ a_.toInt < cr0_.toInt ∧ a_.toInt < 7) mdA n4A (zPl cr0_ inn0_ k10_) - n4A) + 6 * (zNA (i1.toInt = 1 ∧ 1 < (fk 0).toInt ∧ 0 ≤ a_.toInt ∧ a_.toInt < cr1_.toInt ∧ a_.toInt < 7) mdB n4B (zPl cr1_ inn1_ k11_) - n4B); omega) (fun r_63 b1 H locs hw G => ?_)
      refine zEx9 hw ?_
      intro w2_49 m2_50 wy2_51 pc2_52 g1_53 g2_54 g4_55 g5_56 g6_57
      refine zCu6 ?_
      intro hbs9 h_58 h_59 h_60 h_61 h_62
      clear hw
      subst hbs9
      have G : zS T A s.heap s [z0_, wwA, wt, [zO10 xo t im mk rd po co tr wa wb_ fi cd], w2_49, z1_] _ _ := G
      subst h_58
      have hwy9 : 0 ≤ wy2_51.toInt ∧ wy2_51.toInt ≤ 16384 := by have q9 := zWy_in (inn := inn1_) hI1_; rw [h_60]; exact ⟨by omega, q9.2⟩
      have hp79 : aPr (aW cr1_ inn1_ k11_) 7 ≤ 16384 := aPr_7 hI1_
      have hwN9 : wy2_51 = nI (aPr (aW cr1_ inn1_ k11_) 7) := h_60.trans (zWy_z hI1_)
      have hwT9 : wy2_51.toInt = ((aPr (aW cr1_ inn1_ k11_) 7 : Nat) : Int) := by rw [hwN9, nI_toInt (by omega)]
      have hOk9 := (kaOk (inn := inn1_) hI1_ hLq1).1
      have hc79 := hI1_.1
      refine lv_astore (lv' := [(4, .ref wb_), (3, .ref l1), (0, .ref xo), (1, .int i1), (2, .int a_)]) hx hb dX11_back_29 hl (by decide) (zLvf_h rfl) (fun ls hl => ?_)
      refine lv_aload hx hb dX11_back_31 (lv_at hl 0 rfl) ?_
      refine z_Vi (bc := [w2_49, z1_]) (br := [z0_, wwA, wt, [zO10 xo t im mk rd po co tr wa wb_ fi cd]]) (As := []) (rest := []) C G (c_wayTold l T wb_ l1 m2_50 wy2_51 pc2_52 g1_53 g2_54 f3B g4_55 g5_56 g6_57 (zMk mdB n4B (zPl cr1_ inn1_ k11_)) w2_49 cr1_ inn1_ k11_ k21_ k31_ k41_ z1_ h_59 hz1_ (by first | with_reducible assumption | with_reducible rfl | omega | assumption | rfl)) (kV_RX11_242 C.2.2.2.2 (Nat.le_of_ble_eq_true rfl) (Nat.le_of_ble_eq_true rfl)) [4, 5] [4, 0] rfl rfl (ci := 0) (qc := (RX0, TX0, 10)) rfl rfl (List.mem_flatten.mpr ⟨_, List.mem_of_getElem? (i := 0) rfl, (bWays_mem h_59).choose_spec⟩) rfl rfl hl.1 dX11_back_33 (Nat.le_of_ble_eq_true rfl) (by show _ + 0 ≤ 6 * (zNA (i1.toInt = 0 ∧ 0 < (fk 0).toInt ∧ 0 ≤ a_.toInt ∧ a_.toInt < cr0_.toInt ∧ a_.toInt < 7) mdA n4A (zPl cr0_ inn0_ k10_) - n4A) + 6 * (zNA (i1.toInt = 1 ∧ 1 < (fk 0).toInt ∧ 0 ≤ a_.toInt ∧ a_.toInt < cr1_.toInt ∧ a_.toInt < 7) mdB n4B (zPl cr1_ inn1_ k11_) - n4B); omega) (fun r_64 b1 H locs hw G => ?_)
      obtain rfl := hw
      have G : zS T A s.heap s [z0_, wwA, wt, [zO10 xo t im mk rd po co tr wa wb_ fi cd], w2_49, z1_] _ _ := G
      refine lv_istore (lv' := [(5, .int r_64), (4, .ref wb_), (3, .ref l1), (0, .ref xo), (1, .int i1), (2, .int a_)]) hx hb dX11_back_36 hl (by decide) (zLvf_h rfl) (fun ls hl => ?_)
      refine lv_iconst (v := 0) hx hb dX11_back_38 (by decide) ?_
      refine lv_istore (lv' := [(6, .int 0), (5, .int r_64), (4, .ref wb_), (3, .ref l1), (0, .ref xo), (1, .int i1), (2, .int a_)]) hx hb dX11_back_39 hl (by decide) (zLvf_h rfl) (fun ls hl => ?_)
      refine lv_iconst (v := 0) hx hb dX11_back_41 (by decide) ?_
      refine lv_istore (lv' := [(7, .int 0), (6, .int 0), (5, .int r_64), (4, .ref wb_), (3, .ref l1), (0, .ref xo), (1, .int i1), (2, .int a_)]) hx hb dX11_back_42 hl (by decide) (zLvf_h rfl) (fun ls hl => ?_)
      refine zEx6 h_59 ?_
      intro a1_65 a2_66 a3_67 a4_68 a5_69 a6_70 hbs9
      clear h_59
      subst hbs9
      have G : zS T A s.heap s [z0_, wwA, wt, [zO10 xo t im mk rd po co tr wa wb_ fi cd], [zO0 wb_ m2_50 wy2_51 l1 pc2_52 a1_65 a2_66 a3_67 a4_68 a5_69 a6_70], [zAr T 0 a1_65 7 g1_53], [zAr T 0 a2_66 7 g2_54], [zAr T 0 a3_67 7 f3B], [zAr T 0 a4_68 (zMk mdB n4B (zPl cr1_ inn1_ k11_)) g4_55], [zAr T 0 a5_69 (zMk mdB n4B (zPl cr1_ inn1_ k11_)) g5_56], [zAr T 0 a6_70 (zMk mdB n4B (zPl cr1_ inn1_ k11_)) g6_57], z1_] _ _ := G.re rfl
      have hw_71 : bWays T wb_ l1 m2_50 wy2_51 pc2_52 g1_53 g2_54 f3B g4_55 g5_56 g6_57 (zMk mdB n4B (zPl cr1_ inn1_ k11_)) [zO0 wb_ m2_50 wy2_51 l1 pc2_52 a1_65 a2_66 a3_67 a4_68 a5_69 a6_70, zAr T 0 a1_65 7 g1_53, zAr T 0 a2_66 7 g2_54, zAr T 0 a3_67 7 f3B, zAr T 0 a4_68 (zMk mdB n4B (zPl cr1_ inn1_ k11_)) g4_55, zAr T 0 a5_69 (zMk mdB n4B (zPl cr1_ inn1_ k11_)) g5_56, zAr T 0 a6_70 (zMk mdB n4B (zPl cr1_ inn1_ k11_)) g6_57] := ⟨a1_65, a2_66, a3_67, a4_68, a5_69, a6_70, rfl⟩
      have G : zS T A s.heap s [z0_, wwA, wt, [zO10 xo t im mk rd po co tr wa wb_ fi cd], [zO0 wb_ m2_50 wy2_51 l1 pc2_52 a1_65 a2_66 a3_67 a4_68 a5_69 a6_70, zAr T 0 a1_65 7 g1_53, zAr T 0 a2_66 7 g2_54, zAr T 0 a3_67 7 f3B, zAr T 0 a4_68 (zMk mdB n4B (zPl cr1_ inn1_ k11_)) g4_55, zAr T 0 a5_69 (zMk mdB n4B (zPl cr1_ inn1_ k11_)) g5_56, zAr T 0 a6_70 (zMk mdB n4B (zPl cr1_ inn1_ k11_)) g6_57], z1_] _ _ := G.re rfl
      refine z_lp2 (T := T) 44 (fun (i : Nat) (u6 : Int32) => [z0_, wwA, wt, [zO10 xo t im mk rd po co tr wa wb_ fi cd], [zO0 wb_ m2_50 wy2_51 l1 pc2_52 a1_65 a2_66 a3_67 a4_68 a5_69 a6_70, zAr T 0 a1_65 7 g1_53, zAr T 0 a2_66 7 g2_54, zAr T 0 a3_67 7 f3B, zAr T 0 a4_68 (zMk mdB n4B (zPl cr1_ inn1_ k11_)) g4_55, zAr T 0 a5_69 (zMk mdB n4B (zPl cr1_ inn1_ k11_)) g5_56, zAr T 0 a6_70 (zMk mdB n4B (zPl cr1_ inn1_ k11_)) g6_57], z1_]) (fun (i : Nat) (u6 : Int32) => [(7, .int (nI i)), (6, .int u6), (5, .int r_64), (4, .ref wb_), (3, .ref l1), (0, .ref xo), (1, .int i1), (2, .int a_)]) (fun (i : Nat) (u6 : Int32) => i ≤ aPr (aW cr1_ inn1_ k11_) 7) (fun (i : Nat) (u6 : Int32) => aPr (aW cr1_ inn1_ k11_) 7 - i) ?_ 0 0 (show 0 ≤ aPr (aW cr1_ inn1_ k11_) 7 from (Nat.zero_le _)) G (lv_sub hl [0, 1, 2, 3, 4, 5, 6, 7] rfl)
      intro i u6 hi ih_44 H locs ls G hl
      replace hi : i ≤ aPr (aW cr1_ inn1_ k11_) 7 := hi
      replace G : zS T A s.heap s [z0_, wwA, wt, [zO10 xo t im mk rd po co tr wa wb_ fi cd], [zO0 wb_ m2_50 wy2_51 l1 pc2_52 a1_65 a2_66 a3_67 a4_68 a5_69 a6_70, zAr T 0 a1_65 7 g1_53, zAr T 0 a2_66 7 g2_54, zAr T 0 a3_67 7 f3B, zAr T 0 a4_68 (zMk mdB n4B (zPl cr1_ inn1_ k11_)) g4_55, zAr T 0 a5_69 (zMk mdB n4B (zPl cr1_ inn1_ k11_)) g5_56, zAr T 0 a6_70 (zMk mdB n4B (zPl cr1_ inn1_ k11_)) g6_57], z1_] _ _ := G
      replace hl : lv_has ls 8 [(7, .int (nI i)), (6, .int u6), (5, .int r_64), (4, .ref wb_), (3, .ref l1), (0, .ref xo), (1, .int i1), (2, .int a_)] := hl
      refine lv_iload hx hb dX11_back_44 (lv_at hl 0 rfl) ?_
      refine lv_aload hx hb dX11_back_46 (lv_at hl 3 rfl) ?_
      have G : zS T A s.heap s [z0_, wwA, wt, [zO10 xo t im mk rd po co tr wa wb_ fi cd], [zO0 wb_ m2_50 wy2_51 l1 pc2_52 a1_65 a2_66 a3_67 a4_68 a5_69 a6_70], [zAr T 0 a1_65 7 g1_53], [zAr T 0 a2_66 7 g2_54], [zAr T 0 a3_67 7 f3B], [zAr T 0 a4_68 (zMk mdB n4B (zPl cr1_ inn1_ k11_)) g4_55], [zAr T 0 a5_69 (zMk mdB n4B (zPl cr1_ inn1_ k11_)) g5_56], [zAr T 0 a6_70 (zMk mdB n4B (zPl cr1_ inn1_ k11_)) g6_57], z1_] _ _ := G.re rfl
      refine z_get C G clX0 4 rfl 1 (by decide) m_fl_RX11_257 rfl dX11_back_48 ?_
      refine lv_icmp_ge (tgt := 76) hx hb dX11_back_51 (by decide) (fun c_72 => ?_) (fun c_72 => ?_)
      · have c_72n : wy2_51.toInt ≤ (i : Int) := by have q := (fa_le _ _).mp c_72; rw [nI_toInt (n := i) (by omega)] at q; exact q
        refine lv_iload hx hb dX11_back_76 (lv_at hl 1 rfl) ?_
        have hw_73 : bWays T wb_ l1 m2_50 wy2_51 pc2_52 g1_53 g2_54 f3B g4_55 g5_56 g6_57 (zMk mdB n4B (zPl cr1_ inn1_ k11_)) [zO0 wb_ m2_50 wy2_51 l1 pc2_52 a1_65 a2_66 a3_67 a4_68 a5_69 a6_70, zAr T 0 a1_65 7 g1_53, zAr T 0 a2_66 7 g2_54, zAr T 0 a3_67 7 f3B, zAr T 0 a4_68 (zMk mdB n4B (zPl cr1_ inn1_ k11_)) g4_55, zAr T 0 a5_69 (zMk mdB n4B (zPl cr1_ inn1_ k11_)) g5_56, zAr T 0 a6_70 (zMk mdB n4B (zPl cr1_ inn1_ k11_)) g6_57] := ⟨a1_65, a2_66, a3_67, a4_68, a5_69, a6_70, rfl⟩
        have G : zS T A s.heap s [z0_, wwA, wt, [zO10 xo t im mk rd po co tr wa wb_ fi cd], [zO0 wb_ m2_50 wy2_51 l1 pc2_52 a1_65 a2_66 a3_67 a4_68 a5_69 a6_70, zAr T 0 a1_65 7 g1_53, zAr T 0 a2_66 7 g2_54, zAr T 0 a3_67 7 f3B, zAr T 0 a4_68 (zMk mdB n4B (zPl cr1_ inn1_ k11_)) g4_55, zAr T 0 a5_69 (zMk mdB n4B (zPl cr1_ inn1_ k11_)) g5_56, zAr T 0 a6_70 (zMk mdB n4B (zPl cr1_ inn1_ k11_)) g6_57], z1_] _ _ := G.re rfl
        have G := G.sub (bs' := [[zO10 xo t im mk rd po co tr wa wb_ fi cd], wt, z0_, z1_, wwA, [zO0 wb_ m2_50 wy2_51 l1 pc2_52 a1_65 a2_66 a3_67 a4_68 a5_69 a6_70, zAr T 0 a1_65 7 g1_53, zAr T 0 a2_66 7 g2_54, zAr T 0 a3_67 7 f3B, zAr T 0 a4_68 (zMk mdB n4B (zPl cr1_ inn1_ k11_)) g4_55, zAr T 0 a5_69 (zMk mdB n4B (zPl cr1_ inn1_ k11_)) g5_56, zAr T 0 a6_70 (zMk mdB n4B (zPl cr1_ inn1_ k11_)) g6_57]]) [3, 2, 0, 5, 1, 4] rfl
        exact z_back hQz_ (z_iret C hr hlocks G (Nat.le_of_ble_eq_true rfl) (by omega) dX11_back_78 ⟨laA, mdA, wyA, pc_A, f1A, f2A, f3A, f4A, f5A, f6A, n4A, wwA, l1, m2_50, wy2_51, pc2_52, g1_53, g2_54, f3B, g4_55, g5_56, g6_57, (zMk mdB n4B (zPl cr1_ inn1_ k11_)), ([zO0 wb_ m2_50 wy2_51 l1 pc2_52 a1_65 a2_66 a3_67 a4_68 a5_69 a6_70, zAr T 0 a1_65 7 g1_53, zAr T 0 a2_66 7 g2_54, zAr T 0 a3_67 7 f3B, zAr T 0 a4_68 (zMk mdB n4B (zPl cr1_ inn1_ k11_)) g4_55, zAr T 0 a5_69 (zMk mdB n4B (zPl cr1_ inn1_ k11_)) g5_56, zAr T 0 a6_70 (zMk mdB n4B (zPl cr1_ inn1_ k11_)) g6_57]), rfl, hwwA, hmdA, hwmA, (by first | exact hNAo.symm | exact (zNA_n (by first | omega | grind)).symm), hpwA, (fun q => q), hTbA, hw_73, (Or.inr rfl), hwy9, hNAm.symm, (zMk_pw hpwB), (fun _ => h_61), (Or.inr h_62)⟩)
      · have c_72n : ¬ wy2_51.toInt ≤ (i : Int) := fun q => c_72 ((fa_le _ _).mpr (by rw [nI_toInt (n := i) (by omega)]; exact q))
        refine lv_aload hx hb dX11_back_54 (lv_at hl 3 rfl) ?_
        refine lv_iload hx hb dX11_back_56 (lv_at hl 0 rfl) ?_
        refine lv_iload_n hx hb dX11_back_58 rfl (lv_at hl 7 rfl) ?_
        have hw_74 : bWays T wb_ l1 m2_50 wy2_51 pc2_52 g1_53 g2_54 f3B g4_55 g5_56 g6_57 (zMk mdB n4B (zPl cr1_ inn1_ k11_)) [zO0 wb_ m2_50 wy2_51 l1 pc2_52 a1_65 a2_66 a3_67 a4_68 a5_69 a6_70, zAr T 0 a1_65 7 g1_53, zAr T 0 a2_66 7 g2_54, zAr T 0 a3_67 7 f3B, zAr T 0 a4_68 (zMk mdB n4B (zPl cr1_ inn1_ k11_)) g4_55, zAr T 0 a5_69 (zMk mdB n4B (zPl cr1_ inn1_ k11_)) g5_56, zAr T 0 a6_70 (zMk mdB n4B (zPl cr1_ inn1_ k11_)) g6_57] := ⟨a1_65, a2_66, a3_67, a4_68, a5_69, a6_70, rfl⟩
        have G : zS T A s.heap s [z0_, wwA, wt, [zO10 xo t im mk rd po co tr wa wb_ fi cd], [zO0 wb_ m2_50 wy2_51 l1 pc2_52 a1_65 a2_66 a3_67 a4_68 a5_69 a6_70, zAr T 0 a1_65 7 g1_53, zAr T 0 a2_66 7 g2_54, zAr T 0 a3_67 7 f3B, zAr T 0 a4_68 (zMk mdB n4B (zPl cr1_ inn1_ k11_)) g4_55, zAr T 0 a5_69 (zMk mdB n4B (zPl cr1_ inn1_ k11_)) g5_56, zAr T 0 a6_70 (zMk mdB n4B (zPl cr1_ inn1_ k11_)) g6_57], z1_] _ _ := G.re rfl
        refine z_Vi (bc := [[zO0 wb_ m2_50 wy2_51 l1 pc2_52 a1_65 a2_66 a3_67 a4_68 a5_69 a6_70, zAr T 0 a1_65 7 g1_53, zAr T 0 a2_66 7 g2_54, zAr T 0 a3_67 7 f3B, zAr T 0 a4_68 (zMk mdB n4B (zPl cr1_ inn1_ k11_)) g4_55, zAr T 0 a5_69 (zMk mdB n4B (zPl cr1_ inn1_ k11_)) g5_56, zAr T 0 a6_70 (zMk mdB n4B (zPl cr1_ inn1_ k11_)) g6_57]]) (br := [z0_, wwA, wt, [zO10 xo t im mk rd po co tr wa wb_ fi cd], z1_]) (As := [.int (nI i), .int a_]) (rest := []) C G (c_wayAfter l T wb_ l1 m2_50 wy2_51 pc2_52 g1_53 g2_54 f3B g4_55 g5_56 g6_57 (zMk mdB n4B (zPl cr1_ inn1_ k11_)) ([zO0 wb_ m2_50 wy2_51 l1 pc2_52 a1_65 a2_66 a3_67 a4_68 a5_69 a6_70, zAr T 0 a1_65 7 g1_53, zAr T 0 a2_66 7 g2_54, zAr T 0 a3_67 7 f3B, zAr T 0 a4_68 (zMk mdB n4B (zPl cr1_ inn1_ k11_)) g4_55, zAr T 0 a5_69 (zMk mdB n4B (zPl cr1_ inn1_ k11_)) g5_56, zAr T 0 a6_70 (zMk mdB n4B (zPl cr1_ inn1_ k11_)) g6_57]) (nI i) a_ hw_74 (by first | with_reducible assumption | with_reducible rfl | omega | assumption | rfl)) (kV_RX11_275 C.2.2.2.2 (Nat.le_of_ble_eq_true rfl) (Nat.le_of_ble_eq_true rfl)) [4] [4] rfl rfl (ci := 0) (qc := (RX0, TX0, 10)) rfl rfl (List.mem_flatten.mpr ⟨_, List.mem_of_getElem? (i := 0) rfl, (bWays_mem hw_74).choose_spec⟩) rfl rfl hl.1 dX11_back_59 (Nat.le_of_ble_eq_true rfl) (by show _ + 0 ≤ 6 * (zNA (i1.toInt = 0 ∧ 0 < (fk 0).toInt ∧ 0 ≤ a_.toInt ∧ a_.toInt < cr0_.toInt ∧ a_.toInt < 7) mdA n4A (zPl cr0_ inn0_ k10_) - n4A) + 6 * (zNA (i1.toInt = 1 ∧ 1 < (fk 0).toInt ∧ 0 ≤ a_.toInt ∧ a_.toInt < cr1_.toInt ∧ a_.toInt < 7) mdB n4B (zPl cr1_ inn1_ k11_) - n4B); omega) (fun r_76 b1 H locs hw G => ?_)
        refine zAn2 hw ?_
        intro hbs9 h_75
        clear hw
        subst hbs9
        have G : zS T A s.heap s [z0_, wwA, wt, [zO10 xo t im mk rd po co tr wa wb_ fi cd], z1_, [zO0 wb_ m2_50 wy2_51 l1 pc2_52 a1_65 a2_66 a3_67 a4_68 a5_69 a6_70, zAr T 0 a1_65 7 g1_53, zAr T 0 a2_66 7 g2_54, zAr T 0 a3_67 7 f3B, zAr T 0 a4_68 (zMk mdB n4B (zPl cr1_ inn1_ k11_)) g4_55, zAr T 0 a5_69 (zMk mdB n4B (zPl cr1_ inn1_ k11_)) g5_56, zAr T 0 a6_70 (zMk mdB n4B (zPl cr1_ inn1_ k11_)) g6_57]] _ _ := G
        subst h_75
        refine lv_iload hx hb dX11_back_62 (lv_at hl 2 rfl) ?_
        refine lv_icmp_ne (tgt := 70) hx hb dX11_back_64 (by decide) (fun c_77 => ?_) (fun c_77 => ?_)
        · have c_77n : ¬ ((zEntry g5_56 (zMk mdB n4B (zPl cr1_ inn1_ k11_)) (nI i) a_ &&& 131071) >>> (3 &&& 31)).toInt = r_64.toInt := fun q => c_77 ((fa_eq _ _).mpr q)
          refine lv_iinc (v := nI (i + 1)) (lv' := [(7, .int (nI (i + 1))), (6, .int u6), (5, .int r_64), (4, .ref wb_), (3, .ref l1), (0, .ref xo), (1, .int i1), (2, .int a_)]) hx hb dX11_back_70 hl (k := 0) rfl (z_inc i 1) (by decide) (zLvf_h rfl) (fun ls hl => ?_)
          refine lv_goto (tgt := 44) hx hb dX11_back_73 (by decide) ?_
          have G := G.sub (bs' := [z0_, wwA, wt, [zO10 xo t im mk rd po co tr wa wb_ fi cd], [zO0 wb_ m2_50 wy2_51 l1 pc2_52 a1_65 a2_66 a3_67 a4_68 a5_69 a6_70, zAr T 0 a1_65 7 g1_53, zAr T 0 a2_66 7 g2_54, zAr T 0 a3_67 7 f3B, zAr T 0 a4_68 (zMk mdB n4B (zPl cr1_ inn1_ k11_)) g4_55, zAr T 0 a5_69 (zMk mdB n4B (zPl cr1_ inn1_ k11_)) g5_56, zAr T 0 a6_70 (zMk mdB n4B (zPl cr1_ inn1_ k11_)) g6_57], z1_]) [0, 1, 2, 3, 5, 4] rfl
          exact ih_44 (i + 1) u6 (show (i + 1) ≤ aPr (aW cr1_ inn1_ k11_) 7 from (by omega)) (show aPr (aW cr1_ inn1_ k11_) 7 - (i + 1) < aPr (aW cr1_ inn1_ k11_) 7 - i from by omega) _ _ ls G (lv_sub hl [0, 1, 2, 3, 4, 5, 6, 7] rfl)
        · have c_77n : ((zEntry g5_56 (zMk mdB n4B (zPl cr1_ inn1_ k11_)) (nI i) a_ &&& 131071) >>> (3 &&& 31)).toInt = r_64.toInt := (fa_eq _ _).mp c_77
          refine lv_iinc (v := u6 + 1) (lv' := [(6, .int (u6 + 1)), (7, .int (nI i)), (5, .int r_64), (4, .ref wb_), (3, .ref l1), (0, .ref xo), (1, .int i1), (2, .int a_)]) hx hb dX11_back_67 hl (k := 1) rfl rfl (by decide) (zLvf_h rfl) (fun ls hl => ?_)
          refine lv_iinc (v := nI (i + 1)) (lv' := [(7, .int (nI (i + 1))), (6, .int (u6 + 1)), (5, .int r_64), (4, .ref wb_), (3, .ref l1), (0, .ref xo), (1, .int i1), (2, .int a_)]) hx hb dX11_back_70 hl (k := 1) rfl (z_inc i 1) (by decide) (zLvf_h rfl) (fun ls hl => ?_)
          refine lv_goto (tgt := 44) hx hb dX11_back_73 (by decide) ?_
          have G := G.sub (bs' := [z0_, wwA, wt, [zO10 xo t im mk rd po co tr wa wb_ fi cd], [zO0 wb_ m2_50 wy2_51 l1 pc2_52 a1_65 a2_66 a3_67 a4_68 a5_69 a6_70, zAr T 0 a1_65 7 g1_53, zAr T 0 a2_66 7 g2_54, zAr T 0 a3_67 7 f3B, zAr T 0 a4_68 (zMk mdB n4B (zPl cr1_ inn1_ k11_)) g4_55, zAr T 0 a5_69 (zMk mdB n4B (zPl cr1_ inn1_ k11_)) g5_56, zAr T 0 a6_70 (zMk mdB n4B (zPl cr1_ inn1_ k11_)) g6_57], z1_]) [0, 1, 2, 3, 5, 4] rfl
          exact ih_44 (i + 1) (u6 + 1) (show (i + 1) ≤ aPr (aW cr1_ inn1_ k11_) 7 from (by omega)) (show aPr (aW cr1_ inn1_ k11_) 7 - (i + 1) < aPr (aW cr1_ inn1_ k11_) 7 - i from by omega) _ _ ls G (lv_sub hl [0, 1, 2, 3, 4, 5, 6, 7] rfl)
    · have h_48 : (a_.toInt < 0 ∨ cr1_.toInt ≤ a_.toInt ∨ 7 ≤ a_.toInt) := h_48
      refine lv_if_ne (tgt := 23) hx hb dX11_back_18 (by decide) (fun q => absurd (by decide) q) (fun _ => ?_)
      refine lv_iconst (v := (-1)) hx hb dX11_back_21 (by decide) ?_
      have G := G.sub (bs' := [[zO10 xo t im mk rd po co tr wa wb_ fi cd], wt, z0_, z1_, wwA, wwB]) [0, 4, 1, 5, 2, 3] rfl
      exact z_back hQz_ (z_iret C hr hlocks G (Nat.le_of_ble_eq_true rfl) (by omega) dX11_back_22 ⟨laA, mdA, wyA, pc_A, f1A, f2A, f3A, f4A, f5A, f6A, n4A, wwA, laB, mdB, wyB, pc_B, f1B, f2B, f3B, f4B, f5B, f6B, n4B, wwB, rfl, hwwA, hmdA, hwmA, (by first | exact hNAo.symm | exact (zNA_n (by first | omega | grind)).symm), hpwA, (fun q => q), hTbA, hwwB, hmdB, hwmB, (by first | exact hNAo.symm | exact (zNA_n (by first | omega | grind)).symm), hpwB, (fun q => q), hTbB⟩)


theorem aN_st {W L : Nat → Int32} : ∀ (n w c k : Nat), (aN W L n w c k).2.2 ≤ n + k
  | 0, w, c, k => by show k ≤ 0 + k; omega
  | n + 1, w, c, k => by
    unfold aN
    by_cases q : c < 7 ∧ 0 < (W c).toInt
    · rw [if_pos q]
      have t := aN_st (W := W) (L := L) n (aTn W w c) (L (4 * c + aRd W (aTn W w c) c)).toInt.toNat (k + 1)
      omega
    · rw [if_neg q]
      show k ≤ n + 1 + k
      omega
theorem rStp_le {W L : Nat → Int32} {w : Nat} {c : Int32} : rStp W L w c ≤ 499 := by
  have t := aN_st (W := W) (L := L) 499 w c.toInt.toNat 0
  have t : rStp W L w c ≤ 499 + 0 := t
  omega
theorem rCn_t {p : Nat → Bool} {n : Nat} (h : p n = true) : rCn p (n + 1) = rCn p n + 1 := by
  show rCn p n + (if p n = true then 1 else 0) = _
  rw [if_pos h]
theorem rCn_f {p : Nat → Bool} {n : Nat} (h : ¬ p n = true) : rCn p (n + 1) = rCn p n := by
  show rCn p n + (if p n = true then 1 else 0) = _
  rw [if_neg h, Nat.add_zero]
theorem rSu_s {g : Nat → Nat} {n : Nat} : rSu g (n + 1) = rSu g n + g n := rfl
theorem rAll_s {p : Nat → Bool} {n : Nat} (h : rAll p n = true) (h2 : p n = true) : rAll p (n + 1) = true := by
  show (rAll p n && p n) = true
  rw [h, h2]
  rfl
theorem rBg_s {c : Nat → Bool} {g : Nat → Nat} {s b w : Int32} {n : Nat} (hg : ∀ w, g w < 1000) (hn : n < 16384) (hb : b = (rBg c g s n).2) (hw : w = (rBg c g s n).1) : (c n = true → (b.toInt = -1 ∨ s.toInt = 0 ∧ b.toInt < (g n : Int) ∨ ¬ s.toInt = 0 ∧ (g n : Int) < b.toInt) → nI (g n) = (rBg c g s (n + 1)).2 ∧ nI n = (rBg c g s (n + 1)).1) ∧ (¬ (c n = true ∧ (b.toInt = -1 ∨ s.toInt = 0 ∧ b.toInt < (g n : Int) ∨ ¬ s.toInt = 0 ∧ (g n : Int) < b.toInt)) → b = (rBg c g s (n + 1)).2 ∧ w = (rBg c g s (n + 1)).1) := by
  have m1 : (-1 : Int32).toInt = -1 := rfl
  have gn := hg n
  have tg := nI_toInt (n := g n) (by omega)
  have i := rBg_i (c := c) (s := s) hg n (by omega)
  have eq : ((rBg c g s n).1 = -1 ∨ (if s = 0 then (rBg c g s n).2 < nI (g n) else nI (g n) < (rBg c g s n).2)) ↔ (b.toInt = -1 ∨ s.toInt = 0 ∧ b.toInt < (g n : Int) ∨ ¬ s.toInt = 0 ∧ (g n : Int) < b.toInt) := by
    rw [← hb, ← hw]
    have bw : w = -1 ↔ b.toInt = -1 := by
      rcases i with q | ⟨v, hv, q⟩
      · rw [hw, hb, q]
        exact ⟨fun _ => rfl, fun _ => rfl⟩
      · have gv := hg v
        have tv := nI_toInt (n := v) (by omega)
        have tgv := nI_toInt (n := g v) (by omega)
        have e1 : w = nI v := by rw [hw, q]
        have e2 : b = nI (g v) := by rw [hb, q]
        constructor
        · intro z
          rw [e1] at z
          have z := congrArg Int32.toInt z
          omega
        · intro z
          rw [e2] at z
          omega
    have s0 : s = 0 ↔ s.toInt = 0 := ⟨fun z => by rw [z]; rfl, fun z => Int32.toInt_inj.mp z⟩
    by_cases z : s = 0
    · have z2 := s0.mp z
      rw [if_pos z, bw, fa_lt, tg]
      omega
    · have z2 : ¬ s.toInt = 0 := fun q => z (s0.mpr q)
      rw [if_neg z, bw, fa_lt, tg]
      omega
  constructor
  · intro h1 h2
    have e : rBg c g s (n + 1) = (nI n, nI (g n)) := if_pos ⟨h1, eq.mpr h2⟩
    rw [e]
    exact ⟨rfl, rfl⟩
  · intro h
    have e : rBg c g s (n + 1) = rBg c g s n := if_neg (fun q => h ⟨q.1, eq.mp q.2⟩)
    rw [e]
    exact ⟨hb, hw⟩
theorem rBg_w {c : Nat → Bool} {g : Nat → Nat} {s b w : Int32} {n : Nat} (hg : ∀ w, g w < 1000) (hn : n ≤ 16384) (hb : b = (rBg c g s n).2) (hw : w = (rBg c g s n).1) : w = -1 ∧ b = -1 ∨ ¬ w = -1 ∧ 0 ≤ w.toInt ∧ w.toInt < (n : Int) := by
  have m1 : (-1 : Int32).toInt = -1 := rfl
  rcases rBg_i (c := c) (s := s) hg n hn with q | ⟨v, hv, q⟩
  · rw [hw, hb, q]
    exact Or.inl ⟨rfl, rfl⟩
  · have tv := nI_toInt (n := v) (by omega)
    have e1 : w = nI v := by rw [hw, q]
    have e2 : w.toInt = (v : Nat) := by rw [e1]; exact tv
    refine Or.inr ⟨fun z => ?_, by omega, by omega⟩
    rw [e1] at z
    have z := congrArg Int32.toInt z
    omega
theorem rLong_e {W L : Nat → Int32} {m : Nat} {inn a s q b w r : Int32} (hN : aPr W 7 ≤ 16384) (hb : b = (rBg (fun v => decide (zBit inn (rWh W L v a) = 1)) (fun v => rStp W L v a) s (aPr W 7)).2) (hw : w = (rBg (fun v => decide (zBit inn (rWh W L v a) = 1)) (fun v => rStp W L v a) s (aPr W 7)).1) (h : (q = 0 ∨ w = -1) ∧ r = b ∨ ¬ q = 0 ∧ ¬ w = -1 ∧ r = aNu W w.toInt.toNat m) : r = rLong W L m inn a s q := by
  have g : ∀ v, rStp W L v a < 1000 := fun v => by
    have t := rStp_le (W := W) (L := L) (w := v) (c := a)
    omega
  have k := rBg_w g hN hb hw
  unfold rLong
  rw [← hb, ← hw]
  by_cases z : w = -1
  · rw [if_pos z]
    rcases h with ⟨_, h⟩ | ⟨_, h, _⟩
    · rw [h]
      exact (k.resolve_right (fun y => y.1 z)).2
    · exact absurd z h
  · rw [if_neg z]
    by_cases y : q = 0
    · rw [if_pos y]
      rcases h with ⟨_, h⟩ | ⟨h, _⟩
      · exact h
      · exact absurd y h
    · rw [if_neg y]
      rcases h with ⟨h, _⟩ | ⟨_, _, h⟩
      · rcases h with h | h
        · exact absurd h y
        · exact absurd h z
      · exact h
set_option maxHeartbeats 4000000 in
set_option maxRecDepth 100000 in
/-- c_f_lot -/
theorem c_f_lot (l : Launch) (T : zTy) (xo : Nat) (t : Nat) (im : Nat) (mk : Nat) (rd : Nat) (po : Nat) (co : Nat) (tr : Nat) (wa : Nat) (wb_ : Nat) (fi : Nat) (cd : Nat) (l0 : Nat) (l1 : Nat) (d0 : Nat) (d1 : Nat) (g0 : Nat) (g1 : Nat) (ln : Int32) (fl : Int32) (pl : Int32) (ft : Nat → Int32) (fk : Nat → Int32) (wt : va_W) (cr0_ : Int32) (inn0_ : Int32) (k10_ : Nat → Int32) (k20_ : Nat → Int32) (k30_ : Nat → Int32) (k40_ : Nat → Int32) (z0_ : va_W) (cr1_ : Int32) (inn1_ : Int32) (k11_ : Nat → Int32) (k21_ : Nat → Int32) (k31_ : Nat → Int32) (k41_ : Nat → Int32) (z1_ : va_W) (laA : Nat) (mdA : Int32) (wyA : Int32) (pc_A : Int32) (f1A : Nat → Int32) (f2A : Nat → Int32) (f3A : Nat → Int32) (f4A : Nat → Int32) (f5A : Nat → Int32) (f6A : Nat → Int32) (n4A : Nat) (wwA : va_W) (laB : Nat) (mdB : Int32) (wyB : Int32) (pc_B : Int32) (f1B : Nat → Int32) (f2B : Nat → Int32) (f3B : Nat → Int32) (f4B : Nat → Int32) (f5B : Nat → Int32) (f6B : Nat → Int32) (n4B : Nat) (wwB : va_W) (i1 : Int32) (a_ : Int32) (b_ : Int32) (w_ : Int32) (ht : bTold T t l0 l1 d0 d1 g0 g1 ln fl pl ft fk wt) (hK : zKT fk) (hz0_ : bLand T l0 cr0_ inn0_ k10_ k20_ k30_ k40_ z0_) (hI0_ : zLI cr0_ k10_ k30_) (hz1_ : bLand T l1 cr1_ inn1_ k11_ k21_ k31_ k41_ z1_) (hI1_ : zLI cr1_ k11_ k31_) (hwwA : bWays T wa laA mdA wyA pc_A f1A f2A f3A f4A f5A f6A n4A wwA) (hpwA : zPw n4A) (hmdA : mdA = 0 ∨ laA = l0) (hwmA : 0 ≤ wyA.toInt ∧ wyA.toInt ≤ 16384) (hTbA : mdA = 0 ∨ zTab cr0_ inn0_ k10_ k20_ wyA pc_A f1A f2A f5A n4A) (hLq0 : zLq cr0_ k10_ k20_) (hwwB : bWays T wb_ laB mdB wyB pc_B f1B f2B f3B f4B f5B f6B n4B wwB) (hpwB : zPw n4B) (hmdB : mdB = 0 ∨ laB = l1) (hwmB : 0 ≤ wyB.toInt ∧ wyB.toInt ≤ 16384) (hTbB : mdB = 0 ∨ zTab cr1_ inn1_ k11_ k21_ wyB pc_B f1B f2B f5B n4B) (hLq1 : zLq cr1_ k11_ k21_) : zMi l T yX11_lot cX11_lot 9 (some .int) 7 3 (6 * (zNA (i1.toInt = 0 ∧ 0 < (fk 0).toInt ∧ 0 ≤ a_.toInt ∧ a_.toInt < cr0_.toInt ∧ a_.toInt < 7 ∧ 0 ≤ b_.toInt ∧ b_.toInt < cr0_.toInt ∧ b_.toInt < 7 ∧ ¬ zBit inn0_ b_ = 0) mdA n4A (zPl cr0_ inn0_ k10_) - n4A) + 6 * (zNA (i1.toInt = 1 ∧ 1 < (fk 0).toInt ∧ 0 ≤ a_.toInt ∧ a_.toInt < cr1_.toInt ∧ a_.toInt < 7 ∧ 0 ≤ b_.toInt ∧ b_.toInt < cr1_.toInt ∧ b_.toInt < 7 ∧ ¬ zBit inn1_ b_ = 0) mdB n4B (zPl cr1_ inn1_ k11_) - n4B)) [.ref xo, .int i1, .int a_, .int b_, .int w_] [[zO10 xo t im mk rd po co tr wa wb_ fi cd], wt, z0_, z1_, wwA, wwB] (fun (r : Int32) bs => ∃ (laA_2 : Nat) (mdA_2 : Int32) (wyA_2 : Int32) (pc_A_2 : Int32) (f1A_2 : Nat → Int32) (f2A_2 : Nat → Int32) (f3A_2 : Nat → Int32) (f4A_2 : Nat → Int32) (f5A_2 : Nat → Int32) (f6A_2 : Nat → Int32) (n4A_2 : Nat) (wwA_2 : va_W) (laB_2 : Nat) (mdB_2 : Int32) (wyB_2 : Int32) (pc_B_2 : Int32) (f1B_2 : Nat → Int32) (f2B_2 : Nat → Int32) (f3B_2 : Nat → Int32) (f4B_2 : Nat → Int32) (f5B_2 : Nat → Int32) (f6B_2 : Nat → Int32) (n4B_2 : Nat) (wwB_2 : va_W), bs = [[zO10 xo t im mk rd po co tr wa wb_ fi cd], wt, z0_, z1_, wwA_2, wwB_2] ∧ bWays T wa laA_2 mdA_2 wyA_2 pc_A_2 f1A_2 f2A_2 f3A_2 f4A_2 f5A_2 f6A_2 n4A_2 wwA_2 ∧ (mdA_2 = 0 ∨ laA_2 = l0) ∧ (0 ≤ wyA_2.toInt ∧ wyA_2.toInt ≤ 16384) ∧ n4A_2 = zNA (i1.toInt = 0 ∧ 0 < (fk 0).toInt ∧ 0 ≤ a_.toInt ∧ a_.toInt < cr0_.toInt ∧ a_.toInt < 7 ∧ 0 ≤ b_.toInt ∧ b_.toInt < cr0_.toInt ∧ b_.toInt < 7 ∧ ¬ zBit inn0_ b_ = 0) mdA n4A (zPl cr0_ inn0_ k10_) ∧ zPw n4A_2 ∧ (¬ mdA = 0 → ¬ mdA_2 = 0) ∧ (mdA_2 = 0 ∨ zTab cr0_ inn0_ k10_ k20_ wyA_2 pc_A_2 f1A_2 f2A_2 f5A_2 n4A_2) ∧ bWays T wb_ laB_2 mdB_2 wyB_2 pc_B_2 f1B_2 f2B_2 f3B_2 f4B_2 f5B_2 f6B_2 n4B_2 wwB_2 ∧ (mdB_2 = 0 ∨ laB_2 = l1) ∧ (0 ≤ wyB_2.toInt ∧ wyB_2.toInt ≤ 16384) ∧ n4B_2 = zNA (i1.toInt = 1 ∧ 1 < (fk 0).toInt ∧ 0 ≤ a_.toInt ∧ a_.toInt < cr1_.toInt ∧ a_.toInt < 7 ∧ 0 ≤ b_.toInt ∧ b_.toInt < cr1_.toInt ∧ b_.toInt < 7 ∧ ¬ zBit inn1_ b_ = 0) mdB n4B (zPl cr1_ inn1_ k11_) ∧ zPw n4B_2 ∧ (¬ mdB = 0 → ¬ mdB_2 = 0) ∧ (mdB_2 = 0 ∨ zTab cr1_ inn1_ k11_ k21_ wyB_2 pc_B_2 f1B_2 f2B_2 f5B_2 n4B_2) ∧ ((i1.toInt < 0 ∨ (fk 0).toInt ≤ i1.toInt ∨ 2 ≤ i1.toInt) ∧ r = -1 ∨ i1.toInt = 0 ∧ 0 < (fk 0).toInt ∧ r = kLot cr0_ inn0_ k10_ k20_ k30_ a_ b_ w_ ∨ i1.toInt = 1 ∧ 1 < (fk 0).toInt ∧ r = kLot cr1_ inn1_ k11_ k21_ k31_ a_ b_ w_)) := by
  refine zMi_of (own := RX11) (by decide) rfl (Nat.le_of_ble_eq_true rfl) ?_
  intro p e s m args below meth c A ls C hr hlocks hnm hAe G hl
  refine zHide (fun Qz_ hQz_ => ?_)
  have hx := C.1
  have hb := C.2.1
  replace hmdA : zHd (mdA = 0 ∨ laA = l0) := hmdA
  replace hTbA : zHd (mdA = 0 ∨ zTab cr0_ inn0_ k10_ k20_ wyA pc_A f1A f2A f5A n4A) := hTbA
  replace hmdB : zHd (mdB = 0 ∨ laB = l1) := hmdB
  replace hTbB : zHd (mdB = 0 ∨ zTab cr1_ inn1_ k11_ k21_ wyB pc_B f1B f2B f5B n4B) := hTbB
  have hl : lv_has ls 9 [(0, .ref xo), (1, .int i1), (2, .int a_), (3, .int b_), (4, .int w_)] := hl
  refine lv_aload_n hx hb dX11_lot_0 rfl (lv_at hl 0 rfl) ?_
  refine z_get C G clX11 0 rfl 0 (by decide) m_fl_RX11_10 rfl dX11_lot_1 ?_
  refine lv_iload_n hx hb dX11_lot_4 rfl (lv_at hl 1 rfl) ?_
  refine z_Vq (bc := [wt]) (br := [[zO10 xo t im mk rd po co tr wa wb_ fi cd], z0_, z1_, wwA, wwB]) (As := [.int i1]) (rest := []) C G (c_landAt l T t l0 l1 d0 d1 g0 g1 ln fl pl ft fk wt i1 ht) (kV_RX11_121 C.2.2.2.2 (Nat.le_of_ble_eq_true rfl) (Nat.le_of_ble_eq_true rfl)) [1] [1] rfl rfl (ci := 8) (qc := (RX9, TX9, 8)) rfl rfl (List.mem_flatten.mpr ⟨_, List.mem_of_getElem? (i := 0) rfl, (bTold_mem ht).choose_spec⟩) rfl rfl hl.1 dX11_lot_5 (Nat.le_of_ble_eq_true rfl) (by show _ + 0 ≤ 6 * (zNA (i1.toInt = 0 ∧ 0 < (fk 0).toInt ∧ 0 ≤ a_.toInt ∧ a_.toInt < cr0_.toInt ∧ a_.toInt < 7 ∧ 0 ≤ b_.toInt ∧ b_.toInt < cr0_.toInt ∧ b_.toInt < 7 ∧ ¬ zBit inn0_ b_ = 0) mdA n4A (zPl cr0_ inn0_ k10_) - n4A) + 6 * (zNA (i1.toInt = 1 ∧ 1 < (fk 0).toInt ∧ 0 ≤ a_.toInt ∧ a_.toInt < cr1_.toInt ∧ a_.toInt < 7 ∧ 0 ≤ b_.toInt ∧ b_.toInt < cr1_.toInt ∧ b_.toInt < 7 ∧ ¬ zBit inn1_ b_ = 0) mdB n4B (zPl cr1_ inn1_ k11_) - n4B); omega) (fun r_2 b1 H locs hw G => ?_)
  refine zAn2 hw ?_
  intro hbs9 hc_1
  clear hw
  subst hbs9
  have G : zS T A s.heap s [[zO10 xo t im mk rd po co tr wa wb_ fi cd], z0_, z1_, wwA, wwB, wt] _ _ := G
  rcases hc_1 with ⟨rfl, h_3⟩ | ⟨rfl, h_4, h_5⟩ | ⟨rfl, h_6, h_7⟩
  · have h_3 : (i1.toInt < 0 ∨ (fk 0).toInt ≤ i1.toInt ∨ 2 ≤ i1.toInt) := h_3
    refine lv_astoreN (lv' := [(5, .null), (0, .ref xo), (1, .int i1), (2, .int a_), (3, .int b_), (4, .int w_)]) hx hb dX11_lot_8 hl (by decide) (zLvf_h rfl) (fun ls hl => ?_)
    refine lv_aloadN hx hb dX11_lot_10 (lv_at hl 0 rfl) ?_
    refine lv_ifnullN (tgt := 33) hx hb dX11_lot_12 (by decide) ?_
    refine lv_iconst (v := (-1)) hx hb dX11_lot_33 (by decide) ?_
    have G := G.sub (bs' := [[zO10 xo t im mk rd po co tr wa wb_ fi cd], wt, z0_, z1_, wwA, wwB]) [0, 5, 1, 2, 3, 4] rfl
    exact z_back hQz_ (z_iret C hr hlocks G (Nat.le_of_ble_eq_true rfl) (by omega) dX11_lot_34 ⟨laA, mdA, wyA, pc_A, f1A, f2A, f3A, f4A, f5A, f6A, n4A, wwA, laB, mdB, wyB, pc_B, f1B, f2B, f3B, f4B, f5B, f6B, n4B, wwB, rfl, hwwA, hmdA, hwmA, (by first | exact hNAo.symm | exact (zNA_n (by first | omega | grind)).symm), hpwA, (fun q => q), hTbA, hwwB, hmdB, hwmB, (by first | exact hNAo.symm | exact (zNA_n (by first | omega | grind)).symm), hpwB, (fun q => q), hTbB, (Or.inl ⟨by first | with_reducible assumption | assumption, rfl⟩)⟩)
  · have h_4 : i1.toInt = 0 := h_4
    have h_5 : 0 < (fk 0).toInt := h_5
    refine lv_astore (lv' := [(5, .ref l0), (0, .ref xo), (1, .int i1), (2, .int a_), (3, .int b_), (4, .int w_)]) hx hb dX11_lot_8 hl (by decide) (zLvf_h rfl) (fun ls hl => ?_)
    refine lv_aload hx hb dX11_lot_10 (lv_at hl 0 rfl) ?_
    refine lv_ifnull hx hb dX11_lot_12 ?_
    refine lv_aload hx hb dX11_lot_15 (lv_at hl 0 rfl) ?_
    refine lv_iload_n hx hb dX11_lot_17 rfl (lv_at hl 3 rfl) ?_
    refine z_Vi (bc := [z0_]) (br := [[zO10 xo t im mk rd po co tr wa wb_ fi cd], z1_, wwA, wwB, wt]) (As := [.int a_]) (rest := []) C G (c_has l T l0 cr0_ inn0_ k10_ k20_ k30_ k40_ z0_ a_ hz0_) (kV_RX11_160 C.2.2.2.2 (Nat.le_of_ble_eq_true rfl) (Nat.le_of_ble_eq_true rfl)) [1] [1] rfl rfl (ci := 4) (qc := (RX4, TX4, 6)) rfl rfl (List.mem_flatten.mpr ⟨_, List.mem_of_getElem? (i := 0) rfl, (bLand_mem hz0_).choose_spec⟩) rfl rfl hl.1 dX11_lot_18 (Nat.le_of_ble_eq_true rfl) (by show _ + 0 ≤ 6 * (zNA (i1.toInt = 0 ∧ 0 < (fk 0).toInt ∧ 0 ≤ a_.toInt ∧ a_.toInt < cr0_.toInt ∧ a_.toInt < 7 ∧ 0 ≤ b_.toInt ∧ b_.toInt < cr0_.toInt ∧ b_.toInt < 7 ∧ ¬ zBit inn0_ b_ = 0) mdA n4A (zPl cr0_ inn0_ k10_) - n4A) + 6 * (zNA (i1.toInt = 1 ∧ 1 < (fk 0).toInt ∧ 0 ≤ a_.toInt ∧ a_.toInt < cr1_.toInt ∧ a_.toInt < 7 ∧ 0 ≤ b_.toInt ∧ b_.toInt < cr1_.toInt ∧ b_.toInt < 7 ∧ ¬ zBit inn1_ b_ = 0) mdB n4B (zPl cr1_ inn1_ k11_) - n4B); omega) (fun r_9 b1 H locs hw G => ?_)
    refine zAn2 hw ?_
    intro hbs9 hc_8
    clear hw
    subst hbs9
    have G : zS T A s.heap s [[zO10 xo t im mk rd po co tr wa wb_ fi cd], z1_, wwA, wwB, wt, z0_] _ _ := G
    rcases hc_8 with ⟨rfl, h_10, h_11, h_12⟩ | ⟨rfl, h_13⟩
    · have h_10 : 0 ≤ a_.toInt := h_10
      have h_11 : a_.toInt < cr0_.toInt := h_11
      have h_12 : a_.toInt < 7 := h_12
      refine lv_if_eq (tgt := 33) hx hb dX11_lot_21 (by decide) (fun q => absurd q (by decide)) (fun _ => ?_)
      refine lv_aload hx hb dX11_lot_24 (lv_at hl 0 rfl) ?_
      refine lv_iload_n hx hb dX11_lot_26 rfl (lv_at hl 4 rfl) ?_
      refine z_Vi (bc := [z0_]) (br := [[zO10 xo t im mk rd po co tr wa wb_ fi cd], z1_, wwA, wwB, wt]) (As := [.int b_]) (rest := []) C G (c_isInn l T l0 cr0_ inn0_ k10_ k20_ k30_ k40_ z0_ b_ hz0_) (kV_RX11_174 C.2.2.2.2 (Nat.le_of_ble_eq_true rfl) (Nat.le_of_ble_eq_true rfl)) [5] [5] rfl rfl (ci := 4) (qc := (RX4, TX4, 6)) rfl rfl (List.mem_flatten.mpr ⟨_, List.mem_of_getElem? (i := 0) rfl, (bLand_mem hz0_).choose_spec⟩) rfl rfl hl.1 dX11_lot_27 (Nat.le_of_ble_eq_true rfl) (by show _ + 0 ≤ 6 * (zNA (i1.toInt = 0 ∧ 0 < (fk 0).toInt ∧ 0 ≤ a_.toInt ∧ a_.toInt < cr0_.toInt ∧ a_.toInt < 7 ∧ 0 ≤ b_.toInt ∧ b_.toInt < cr0_.toInt ∧ b_.toInt < 7 ∧ ¬ zBit inn0_ b_ = 0) mdA n4A (zPl cr0_ inn0_ k10_) - n4A) + 6 * (zNA (i1.toInt = 1 ∧ 1 < (fk 0).toInt ∧ 0 ≤ a_.toInt ∧ a_.toInt < cr1_.toInt ∧ a_.toInt < 7 ∧ 0 ≤ b_.toInt ∧ b_.toInt < cr1_.toInt ∧ b_.toInt < 7 ∧ ¬ zBit inn1_ b_ = 0) mdB n4B (zPl cr1_ inn1_ k11_) - n4B); omega) (fun r_15 b1 H locs hw G => ?_)
      refine zAn2 hw ?_
      intro hbs9 hc_14
      clear hw
      subst hbs9
      have G : zS T A s.heap s [[zO10 xo t im mk rd po co tr wa wb_ fi cd], z1_, wwA, wwB, wt, z0_] _ _ := G
      rcases hc_14 with ⟨rfl, h_16, h_17, h_18, h_19⟩ | ⟨rfl, h_20⟩
      · have h_16 : 0 ≤ b_.toInt := h_16
        have h_17 : b_.toInt < cr0_.toInt := h_17
        have h_18 : b_.toInt < 7 := h_18
        have h_19 : ¬ zBit inn0_ b_ = 0 := h_19
        have hyi := h_19
        refine lv_if_ne (tgt := 35) hx hb dX11_lot_30 (by decide) (fun _ => ?_) (fun q => absurd q (by decide))
        refine lv_aload_n hx hb dX11_lot_35 rfl (lv_at hl 1 rfl) ?_
        refine lv_iload_n hx hb dX11_lot_36 rfl (lv_at hl 2 rfl) ?_
        refine lv_aload hx hb dX11_lot_37 (lv_at hl 0 rfl) ?_
        have hNAm : zNA (i1.toInt = 0 ∧ 0 < (fk 0).toInt ∧ 0 ≤ a_.toInt ∧ a_.toInt < cr0_.toInt ∧ a_.toInt < 7 ∧ 0 ≤ b_.toInt ∧ b_.toInt < cr0_.toInt ∧ b_.toInt < 7 ∧ ¬ zBit inn0_ b_ = 0) mdA n4A (zPl cr0_ inn0_ k10_) = zMk mdA n4A (zPl cr0_ inn0_ k10_) := zNA_y (by first | omega | (repeat' (first | omega | assumption | constructor)))
        have hNAo : zNA (i1.toInt = 1 ∧ 1 < (fk 0).toInt ∧ 0 ≤ a_.toInt ∧ a_.toInt < cr1_.toInt ∧ a_.toInt < 7 ∧ 0 ≤ b_.toInt ∧ b_.toInt < cr1_.toInt ∧ b_.toInt < 7 ∧ ¬ zBit inn1_ b_ = 0) mdB n4B (zPl cr1_ inn1_ k11_) = n4B := zNA_n (by omega)
        have hn9 : zMk mdA n4A (zPl cr0_ inn0_ k10_) ≤ 131072 := zPw_le (zMk_pw hpwA)
        refine z_Vq (bc := [[zO10 xo t im mk rd po co tr wa wb_ fi cd], wwA, z0_]) (br := [z1_, wwB, wt]) (As := [.int i1, .ref l0]) (rest := []) C G (c_f_waysInA l T xo t im mk rd po co tr wa wb_ fi cd i1 laA mdA wyA pc_A f1A f2A f3A f4A f5A f6A n4A wwA l0 cr0_ inn0_ k10_ k20_ k30_ k40_ z0_ hwwA hz0_ hI0_ hpwA hmdA (kaOk hI0_ hLq0).1 hTbA (by omega)) (kV_RX11_235 C.2.2.2.2 (Nat.le_of_ble_eq_true rfl) (Nat.le_of_ble_eq_true rfl)) [0, 2, 5] [0, 1, 2] rfl rfl (ci := 10) (qc := (RX11, TX11, 11)) rfl rfl (List.mem_flatten.mpr ⟨_, List.mem_of_getElem? (i := 0) rfl, List.mem_cons_self⟩) rfl rfl hl.1 dX11_lot_39 (Nat.le_of_ble_eq_true rfl) (by show _ + (6 * (zMk mdA n4A (zPl cr0_ inn0_ k10_) - n4A)) ≤ 6 * (zNA (i1.toInt = 0 ∧ 0 < (fk 0).toInt ∧ 0 ≤ a_.toInt ∧ a_.toInt < cr0_.toInt ∧ a_.toInt < 7 ∧ 0 ≤ b_.toInt ∧ b_.toInt < cr0_.toInt ∧ b_.toInt < 7 ∧ ¬ zBit inn0_ b_ = 0) mdA n4A (zPl cr0_ inn0_ k10_) - n4A) + 6 * (zNA (i1.toInt = 1 ∧ 1 < (fk 0).toInt ∧ 0 ≤ a_.toInt ∧ a_.toInt < cr1_.toInt ∧ a_.toInt < 7 ∧ 0 ≤ b_.toInt ∧ b_.toInt < cr1_.toInt ∧ b_.toInt < 7 ∧ ¬ zBit inn1_ b_ = 0) mdB n4B (zPl cr1_ inn1_ k11_) - n4B); omega) (fun r_35 b1 H locs hw G => ?_)
        refine zEx9 hw ?_
        intro w2_21 m2_22 wy2_23 pc2_24 g1_25 g2_26 g4_27 g5_28 g6_29
        refine zCu6 ?_
        intro hbs9 h_30 h_31 h_32 h_33 h_34
        clear hw
        subst hbs9
        have G : zS T A s.heap s [z1_, wwB, wt, [zO10 xo t im mk rd po co tr wa wb_ fi cd], w2_21, z0_] _ _ := G
        subst h_30
        have hwy9 : 0 ≤ wy2_23.toInt ∧ wy2_23.toInt ≤ 16384 := by have q9 := zWy_in (inn := inn0_) hI0_; rw [h_32]; exact ⟨by omega, q9.2⟩
        have hp79 : aPr (aW cr0_ inn0_ k10_) 7 ≤ 16384 := aPr_7 hI0_
        have hwN9 : wy2_23 = nI (aPr (aW cr0_ inn0_ k10_) 7) := h_32.trans (zWy_z hI0_)
        have hwT9 : wy2_23.toInt = ((aPr (aW cr0_ inn0_ k10_) 7 : Nat) : Int) := by rw [hwN9, nI_toInt (by omega)]
        have hOk9 := (kaOk (inn := inn0_) hI0_ hLq0).1
        have hc79 := hI0_.1
        refine lv_astore (lv' := [(6, .ref wa), (5, .ref l0), (0, .ref xo), (1, .int i1), (2, .int a_), (3, .int b_), (4, .int w_)]) hx hb dX11_lot_42 hl (by decide) (zLvf_h rfl) (fun ls hl => ?_)
        refine lv_iconst (v := 0) hx hb dX11_lot_44 (by decide) ?_
        refine lv_istore (lv' := [(7, .int 0), (6, .ref wa), (5, .ref l0), (0, .ref xo), (1, .int i1), (2, .int a_), (3, .int b_), (4, .int w_)]) hx hb dX11_lot_45 hl (by decide) (zLvf_h rfl) (fun ls hl => ?_)
        refine lv_iconst (v := 0) hx hb dX11_lot_47 (by decide) ?_
        refine lv_istore (lv' := [(8, .int 0), (7, .int 0), (6, .ref wa), (5, .ref l0), (0, .ref xo), (1, .int i1), (2, .int a_), (3, .int b_), (4, .int w_)]) hx hb dX11_lot_48 hl (by decide) (zLvf_h rfl) (fun ls hl => ?_)
        refine zEx6 h_31 ?_
        intro a1_36 a2_37 a3_38 a4_39 a5_40 a6_41 hbs9
        clear h_31
        subst hbs9
        have G : zS T A s.heap s [z1_, wwB, wt, [zO10 xo t im mk rd po co tr wa wb_ fi cd], [zO0 wa m2_22 wy2_23 l0 pc2_24 a1_36 a2_37 a3_38 a4_39 a5_40 a6_41], [zAr T 0 a1_36 7 g1_25], [zAr T 0 a2_37 7 g2_26], [zAr T 0 a3_38 7 f3A], [zAr T 0 a4_39 (zMk mdA n4A (zPl cr0_ inn0_ k10_)) g4_27], [zAr T 0 a5_40 (zMk mdA n4A (zPl cr0_ inn0_ k10_)) g5_28], [zAr T 0 a6_41 (zMk mdA n4A (zPl cr0_ inn0_ k10_)) g6_29], z0_] _ _ := G.re rfl
        have hw_42 : bWays T wa l0 m2_22 wy2_23 pc2_24 g1_25 g2_26 f3A g4_27 g5_28 g6_29 (zMk mdA n4A (zPl cr0_ inn0_ k10_)) [zO0 wa m2_22 wy2_23 l0 pc2_24 a1_36 a2_37 a3_38 a4_39 a5_40 a6_41, zAr T 0 a1_36 7 g1_25, zAr T 0 a2_37 7 g2_26, zAr T 0 a3_38 7 f3A, zAr T 0 a4_39 (zMk mdA n4A (zPl cr0_ inn0_ k10_)) g4_27, zAr T 0 a5_40 (zMk mdA n4A (zPl cr0_ inn0_ k10_)) g5_28, zAr T 0 a6_41 (zMk mdA n4A (zPl cr0_ inn0_ k10_)) g6_29] := ⟨a1_36, a2_37, a3_38, a4_39, a5_40, a6_41, rfl⟩
        have G : zS T A s.heap s [z1_, wwB, wt, [zO10 xo t im mk rd po co tr wa wb_ fi cd], [zO0 wa m2_22 wy2_23 l0 pc2_24 a1_36 a2_37 a3_38 a4_39 a5_40 a6_41, zAr T 0 a1_36 7 g1_25, zAr T 0 a2_37 7 g2_26, zAr T 0 a3_38 7 f3A, zAr T 0 a4_39 (zMk mdA n4A (zPl cr0_ inn0_ k10_)) g4_27, zAr T 0 a5_40 (zMk mdA n4A (zPl cr0_ inn0_ k10_)) g5_28, zAr T 0 a6_41 (zMk mdA n4A (zPl cr0_ inn0_ k10_)) g6_29], z0_] _ _ := G.re rfl
        refine z_lp2 (T := T) 50 (fun (i : Nat) (cm : Nat) => [z1_, wwB, wt, [zO10 xo t im mk rd po co tr wa wb_ fi cd], [zO0 wa m2_22 wy2_23 l0 pc2_24 a1_36 a2_37 a3_38 a4_39 a5_40 a6_41, zAr T 0 a1_36 7 g1_25, zAr T 0 a2_37 7 g2_26, zAr T 0 a3_38 7 f3A, zAr T 0 a4_39 (zMk mdA n4A (zPl cr0_ inn0_ k10_)) g4_27, zAr T 0 a5_40 (zMk mdA n4A (zPl cr0_ inn0_ k10_)) g5_28, zAr T 0 a6_41 (zMk mdA n4A (zPl cr0_ inn0_ k10_)) g6_29], z0_]) (fun (i : Nat) (cm : Nat) => [(8, .int (nI i)), (7, .int (nI cm)), (6, .ref wa), (5, .ref l0), (0, .ref xo), (1, .int i1), (2, .int a_), (3, .int b_), (4, .int w_)]) (fun (i : Nat) (cm : Nat) => i ≤ aPr (aW cr0_ inn0_ k10_) 7 ∧ cm = rCn (fun w => decide (rWh (aW cr0_ inn0_ k10_) k20_ w a_ = b_)) i) (fun (i : Nat) (cm : Nat) => aPr (aW cr0_ inn0_ k10_) 7 - i) ?_ 0 0 (show 0 ≤ aPr (aW cr0_ inn0_ k10_) 7 ∧ 0 = rCn (fun w => decide (rWh (aW cr0_ inn0_ k10_) k20_ w a_ = b_)) 0 from ⟨(Nat.zero_le _), rfl⟩) G (lv_sub hl [0, 1, 2, 3, 4, 5, 6, 7, 8] rfl)
        intro i cm hI9 ih_50 H locs ls G hl
        replace hI9 : i ≤ aPr (aW cr0_ inn0_ k10_) 7 ∧ cm = rCn (fun w => decide (rWh (aW cr0_ inn0_ k10_) k20_ w a_ = b_)) i := hI9
        refine zAn2 hI9 ?_
        intro hi hcm
        clear hI9
        replace G : zS T A s.heap s [z1_, wwB, wt, [zO10 xo t im mk rd po co tr wa wb_ fi cd], [zO0 wa m2_22 wy2_23 l0 pc2_24 a1_36 a2_37 a3_38 a4_39 a5_40 a6_41, zAr T 0 a1_36 7 g1_25, zAr T 0 a2_37 7 g2_26, zAr T 0 a3_38 7 f3A, zAr T 0 a4_39 (zMk mdA n4A (zPl cr0_ inn0_ k10_)) g4_27, zAr T 0 a5_40 (zMk mdA n4A (zPl cr0_ inn0_ k10_)) g5_28, zAr T 0 a6_41 (zMk mdA n4A (zPl cr0_ inn0_ k10_)) g6_29], z0_] _ _ := G
        replace hl : lv_has ls 9 [(8, .int (nI i)), (7, .int (nI cm)), (6, .ref wa), (5, .ref l0), (0, .ref xo), (1, .int i1), (2, .int a_), (3, .int b_), (4, .int w_)] := hl
        refine lv_iload hx hb dX11_lot_50 (lv_at hl 0 rfl) ?_
        refine lv_aload hx hb dX11_lot_52 (lv_at hl 2 rfl) ?_
        have G : zS T A s.heap s [z1_, wwB, wt, [zO10 xo t im mk rd po co tr wa wb_ fi cd], [zO0 wa m2_22 wy2_23 l0 pc2_24 a1_36 a2_37 a3_38 a4_39 a5_40 a6_41], [zAr T 0 a1_36 7 g1_25], [zAr T 0 a2_37 7 g2_26], [zAr T 0 a3_38 7 f3A], [zAr T 0 a4_39 (zMk mdA n4A (zPl cr0_ inn0_ k10_)) g4_27], [zAr T 0 a5_40 (zMk mdA n4A (zPl cr0_ inn0_ k10_)) g5_28], [zAr T 0 a6_41 (zMk mdA n4A (zPl cr0_ inn0_ k10_)) g6_29], z0_] _ _ := G.re rfl
        refine z_get C G clX0 4 rfl 1 (by decide) m_fl_RX11_257 rfl dX11_lot_54 ?_
        refine lv_icmp_ge (tgt := 81) hx hb dX11_lot_57 (by decide) (fun c_43 => ?_) (fun c_43 => ?_)
        · have c_43n : wy2_23.toInt ≤ (i : Int) := by have q := (fa_le _ _).mp c_43; rw [nI_toInt (n := i) (by omega)] at q; exact q
          have hcl9 := rCn_le (p := (fun w => decide (rWh (aW cr0_ inn0_ k10_) k20_ w a_ = b_))) i
          refine lv_iload hx hb dX11_lot_81 (lv_at hl 1 rfl) ?_
          refine lv_aload hx hb dX11_lot_83 (lv_at hl 2 rfl) ?_
          refine z_get C G clX0 4 rfl 1 (by decide) m_fl_RX11_257 rfl dX11_lot_85 ?_
          refine lv_topi (fun y_44 ey_44 => ?_)
          obtain rfl : y_44 = nI (aPr (aW cr0_ inn0_ k10_) 7) := ey_44.trans (hwN9)
          refine lv_iload hx hb dX11_lot_88 (lv_at hl 8 rfl) ?_
          refine z_Si (bc := []) (br := [z1_, wwB, wt, [zO10 xo t im mk rd po co tr wa wb_ fi cd], [zO0 wa m2_22 wy2_23 l0 pc2_24 a1_36 a2_37 a3_38 a4_39 a5_40 a6_41], [zAr T 0 a1_36 7 g1_25], [zAr T 0 a2_37 7 g2_26], [zAr T 0 a3_38 7 f3A], [zAr T 0 a4_39 (zMk mdA n4A (zPl cr0_ inn0_ k10_)) g4_27], [zAr T 0 a5_40 (zMk mdA n4A (zPl cr0_ inn0_ k10_)) g5_28], [zAr T 0 a6_41 (zMk mdA n4A (zPl cr0_ inn0_ k10_)) g6_29], z0_]) (As := [.int (nI cm), .int (nI (aPr (aW cr0_ inn0_ k10_) 7)), .int w_]) (rest := []) C G (c_f_inLeastTerms l T cm (aPr (aW cr0_ inn0_ k10_) 7) w_ (by omega) (aPr_p _) hp79) (kS_RX11_262 C.2.2.2.2 (Nat.le_of_ble_eq_true rfl) (Nat.le_of_ble_eq_true rfl)) [] [] rfl rfl rfl rfl hl.1 dX11_lot_90 (Nat.le_of_ble_eq_true rfl) (by show _ + 0 ≤ 6 * (zNA (i1.toInt = 0 ∧ 0 < (fk 0).toInt ∧ 0 ≤ a_.toInt ∧ a_.toInt < cr0_.toInt ∧ a_.toInt < 7 ∧ 0 ≤ b_.toInt ∧ b_.toInt < cr0_.toInt ∧ b_.toInt < 7 ∧ ¬ zBit inn0_ b_ = 0) mdA n4A (zPl cr0_ inn0_ k10_) - n4A) + 6 * (zNA (i1.toInt = 1 ∧ 1 < (fk 0).toInt ∧ 0 ≤ a_.toInt ∧ a_.toInt < cr1_.toInt ∧ a_.toInt < 7 ∧ 0 ≤ b_.toInt ∧ b_.toInt < cr1_.toInt ∧ b_.toInt < 7 ∧ ¬ zBit inn1_ b_ = 0) mdB n4B (zPl cr1_ inn1_ k11_) - n4B); omega) (fun r_46 b1 H locs hw G => ?_)
          refine zAn2 hw ?_
          intro hbs9 h_45
          clear hw
          subst hbs9
          have G : zS T A s.heap s [z1_, wwB, wt, [zO10 xo t im mk rd po co tr wa wb_ fi cd], [zO0 wa m2_22 wy2_23 l0 pc2_24 a1_36 a2_37 a3_38 a4_39 a5_40 a6_41], [zAr T 0 a1_36 7 g1_25], [zAr T 0 a2_37 7 g2_26], [zAr T 0 a3_38 7 f3A], [zAr T 0 a4_39 (zMk mdA n4A (zPl cr0_ inn0_ k10_)) g4_27], [zAr T 0 a5_40 (zMk mdA n4A (zPl cr0_ inn0_ k10_)) g5_28], [zAr T 0 a6_41 (zMk mdA n4A (zPl cr0_ inn0_ k10_)) g6_29], z0_] _ _ := G
          have hw_47 : bWays T wa l0 m2_22 wy2_23 pc2_24 g1_25 g2_26 f3A g4_27 g5_28 g6_29 (zMk mdA n4A (zPl cr0_ inn0_ k10_)) [zO0 wa m2_22 wy2_23 l0 pc2_24 a1_36 a2_37 a3_38 a4_39 a5_40 a6_41, zAr T 0 a1_36 7 g1_25, zAr T 0 a2_37 7 g2_26, zAr T 0 a3_38 7 f3A, zAr T 0 a4_39 (zMk mdA n4A (zPl cr0_ inn0_ k10_)) g4_27, zAr T 0 a5_40 (zMk mdA n4A (zPl cr0_ inn0_ k10_)) g5_28, zAr T 0 a6_41 (zMk mdA n4A (zPl cr0_ inn0_ k10_)) g6_29] := ⟨a1_36, a2_37, a3_38, a4_39, a5_40, a6_41, rfl⟩
          have G : zS T A s.heap s [z1_, wwB, wt, [zO10 xo t im mk rd po co tr wa wb_ fi cd], [zO0 wa m2_22 wy2_23 l0 pc2_24 a1_36 a2_37 a3_38 a4_39 a5_40 a6_41, zAr T 0 a1_36 7 g1_25, zAr T 0 a2_37 7 g2_26, zAr T 0 a3_38 7 f3A, zAr T 0 a4_39 (zMk mdA n4A (zPl cr0_ inn0_ k10_)) g4_27, zAr T 0 a5_40 (zMk mdA n4A (zPl cr0_ inn0_ k10_)) g5_28, zAr T 0 a6_41 (zMk mdA n4A (zPl cr0_ inn0_ k10_)) g6_29], z0_] _ _ := G.re rfl
          have G := G.sub (bs' := [[zO10 xo t im mk rd po co tr wa wb_ fi cd], wt, z0_, z1_, [zO0 wa m2_22 wy2_23 l0 pc2_24 a1_36 a2_37 a3_38 a4_39 a5_40 a6_41, zAr T 0 a1_36 7 g1_25, zAr T 0 a2_37 7 g2_26, zAr T 0 a3_38 7 f3A, zAr T 0 a4_39 (zMk mdA n4A (zPl cr0_ inn0_ k10_)) g4_27, zAr T 0 a5_40 (zMk mdA n4A (zPl cr0_ inn0_ k10_)) g5_28, zAr T 0 a6_41 (zMk mdA n4A (zPl cr0_ inn0_ k10_)) g6_29], wwB]) [3, 2, 5, 0, 4, 1] rfl
          exact z_back hQz_ (z_iret C hr hlocks G (Nat.le_of_ble_eq_true rfl) (by omega) dX11_lot_93 ⟨l0, m2_22, wy2_23, pc2_24, g1_25, g2_26, f3A, g4_27, g5_28, g6_29, (zMk mdA n4A (zPl cr0_ inn0_ k10_)), ([zO0 wa m2_22 wy2_23 l0 pc2_24 a1_36 a2_37 a3_38 a4_39 a5_40 a6_41, zAr T 0 a1_36 7 g1_25, zAr T 0 a2_37 7 g2_26, zAr T 0 a3_38 7 f3A, zAr T 0 a4_39 (zMk mdA n4A (zPl cr0_ inn0_ k10_)) g4_27, zAr T 0 a5_40 (zMk mdA n4A (zPl cr0_ inn0_ k10_)) g5_28, zAr T 0 a6_41 (zMk mdA n4A (zPl cr0_ inn0_ k10_)) g6_29]), laB, mdB, wyB, pc_B, f1B, f2B, f3B, f4B, f5B, f6B, n4B, wwB, rfl, hw_47, (Or.inr rfl), hwy9, hNAm.symm, (zMk_pw hpwA), (fun _ => h_33), (Or.inr h_34), hwwB, hmdB, hwmB, (by first | exact hNAo.symm | exact (zNA_n (by first | omega | grind)).symm), hpwB, (fun q => q), hTbB, (Or.inr (Or.inl ⟨by first | with_reducible assumption | assumption, by first | with_reducible assumption | assumption, (by unfold kLot; rw [if_pos ⟨⟨by omega, by omega⟩, ⟨by omega, by omega⟩, zBit_p hyi⟩, h_45, hcm, show i = aPr (aW cr0_ inn0_ k10_) 7 by omega]; rfl)⟩))⟩)
        · have c_43n : ¬ wy2_23.toInt ≤ (i : Int) := fun q => c_43 ((fa_le _ _).mpr (by rw [nI_toInt (n := i) (by omega)]; exact q))
          have hE9 := zEnt_w (w := i) (x := a_) hI0_ hOk9 h_34 (by omega) ⟨by omega, by omega, by omega⟩
          have hB9 := zEnt_b (inn := inn0_) (w := i) (x := a_) hI0_ hLq0 (by omega) ⟨by omega, by omega, by omega⟩
          refine lv_aload hx hb dX11_lot_60 (lv_at hl 2 rfl) ?_
          refine lv_iload hx hb dX11_lot_62 (lv_at hl 0 rfl) ?_
          refine lv_iload_n hx hb dX11_lot_64 rfl (lv_at hl 6 rfl) ?_
          have hw_48 : bWays T wa l0 m2_22 wy2_23 pc2_24 g1_25 g2_26 f3A g4_27 g5_28 g6_29 (zMk mdA n4A (zPl cr0_ inn0_ k10_)) [zO0 wa m2_22 wy2_23 l0 pc2_24 a1_36 a2_37 a3_38 a4_39 a5_40 a6_41, zAr T 0 a1_36 7 g1_25, zAr T 0 a2_37 7 g2_26, zAr T 0 a3_38 7 f3A, zAr T 0 a4_39 (zMk mdA n4A (zPl cr0_ inn0_ k10_)) g4_27, zAr T 0 a5_40 (zMk mdA n4A (zPl cr0_ inn0_ k10_)) g5_28, zAr T 0 a6_41 (zMk mdA n4A (zPl cr0_ inn0_ k10_)) g6_29] := ⟨a1_36, a2_37, a3_38, a4_39, a5_40, a6_41, rfl⟩
          have G : zS T A s.heap s [z1_, wwB, wt, [zO10 xo t im mk rd po co tr wa wb_ fi cd], [zO0 wa m2_22 wy2_23 l0 pc2_24 a1_36 a2_37 a3_38 a4_39 a5_40 a6_41, zAr T 0 a1_36 7 g1_25, zAr T 0 a2_37 7 g2_26, zAr T 0 a3_38 7 f3A, zAr T 0 a4_39 (zMk mdA n4A (zPl cr0_ inn0_ k10_)) g4_27, zAr T 0 a5_40 (zMk mdA n4A (zPl cr0_ inn0_ k10_)) g5_28, zAr T 0 a6_41 (zMk mdA n4A (zPl cr0_ inn0_ k10_)) g6_29], z0_] _ _ := G.re rfl
          refine z_Vi (bc := [[zO0 wa m2_22 wy2_23 l0 pc2_24 a1_36 a2_37 a3_38 a4_39 a5_40 a6_41, zAr T 0 a1_36 7 g1_25, zAr T 0 a2_37 7 g2_26, zAr T 0 a3_38 7 f3A, zAr T 0 a4_39 (zMk mdA n4A (zPl cr0_ inn0_ k10_)) g4_27, zAr T 0 a5_40 (zMk mdA n4A (zPl cr0_ inn0_ k10_)) g5_28, zAr T 0 a6_41 (zMk mdA n4A (zPl cr0_ inn0_ k10_)) g6_29]]) (br := [z1_, wwB, wt, [zO10 xo t im mk rd po co tr wa wb_ fi cd], z0_]) (As := [.int (nI i), .int a_]) (rest := []) C G (c_where l T wa l0 m2_22 wy2_23 pc2_24 g1_25 g2_26 f3A g4_27 g5_28 g6_29 (zMk mdA n4A (zPl cr0_ inn0_ k10_)) ([zO0 wa m2_22 wy2_23 l0 pc2_24 a1_36 a2_37 a3_38 a4_39 a5_40 a6_41, zAr T 0 a1_36 7 g1_25, zAr T 0 a2_37 7 g2_26, zAr T 0 a3_38 7 f3A, zAr T 0 a4_39 (zMk mdA n4A (zPl cr0_ inn0_ k10_)) g4_27, zAr T 0 a5_40 (zMk mdA n4A (zPl cr0_ inn0_ k10_)) g5_28, zAr T 0 a6_41 (zMk mdA n4A (zPl cr0_ inn0_ k10_)) g6_29]) (nI i) a_ hw_48 (by first | with_reducible assumption | with_reducible rfl | omega | assumption | rfl)) (kV_RX11_260 C.2.2.2.2 (Nat.le_of_ble_eq_true rfl) (Nat.le_of_ble_eq_true rfl)) [4] [4] rfl rfl (ci := 0) (qc := (RX0, TX0, 10)) rfl rfl (List.mem_flatten.mpr ⟨_, List.mem_of_getElem? (i := 0) rfl, (bWays_mem hw_48).choose_spec⟩) rfl rfl hl.1 dX11_lot_65 (Nat.le_of_ble_eq_true rfl) (by show _ + 0 ≤ 6 * (zNA (i1.toInt = 0 ∧ 0 < (fk 0).toInt ∧ 0 ≤ a_.toInt ∧ a_.toInt < cr0_.toInt ∧ a_.toInt < 7 ∧ 0 ≤ b_.toInt ∧ b_.toInt < cr0_.toInt ∧ b_.toInt < 7 ∧ ¬ zBit inn0_ b_ = 0) mdA n4A (zPl cr0_ inn0_ k10_) - n4A) + 6 * (zNA (i1.toInt = 1 ∧ 1 < (fk 0).toInt ∧ 0 ≤ a_.toInt ∧ a_.toInt < cr1_.toInt ∧ a_.toInt < 7 ∧ 0 ≤ b_.toInt ∧ b_.toInt < cr1_.toInt ∧ b_.toInt < 7 ∧ ¬ zBit inn1_ b_ = 0) mdB n4B (zPl cr1_ inn1_ k11_) - n4B); omega) (fun r_50 b1 H locs hw G => ?_)
          refine zAn2 hw ?_
          intro hbs9 h_49
          clear hw
          subst hbs9
          have G : zS T A s.heap s [z1_, wwB, wt, [zO10 xo t im mk rd po co tr wa wb_ fi cd], z0_, [zO0 wa m2_22 wy2_23 l0 pc2_24 a1_36 a2_37 a3_38 a4_39 a5_40 a6_41, zAr T 0 a1_36 7 g1_25, zAr T 0 a2_37 7 g2_26, zAr T 0 a3_38 7 f3A, zAr T 0 a4_39 (zMk mdA n4A (zPl cr0_ inn0_ k10_)) g4_27, zAr T 0 a5_40 (zMk mdA n4A (zPl cr0_ inn0_ k10_)) g5_28, zAr T 0 a6_41 (zMk mdA n4A (zPl cr0_ inn0_ k10_)) g6_29]] _ _ := G
          subst h_49
          refine lv_topi (fun y_51 ey_51 => ?_)
          obtain rfl : y_51 = (rWh (aW cr0_ inn0_ k10_) k20_ i a_) := ey_51.trans (hE9.1)
          refine lv_iload_n hx hb dX11_lot_68 rfl (lv_at hl 7 rfl) ?_
          refine lv_icmp_ne (tgt := 75) hx hb dX11_lot_69 (by decide) (fun c_52 => ?_) (fun c_52 => ?_)
          · have c_52n : ¬ (rWh (aW cr0_ inn0_ k10_) k20_ i a_).toInt = b_.toInt := fun q => c_52 ((fa_eq _ _).mpr q)
            refine lv_iinc (v := nI (i + 1)) (lv' := [(8, .int (nI (i + 1))), (7, .int (nI cm)), (6, .ref wa), (5, .ref l0), (0, .ref xo), (1, .int i1), (2, .int a_), (3, .int b_), (4, .int w_)]) hx hb dX11_lot_75 hl (k := 0) rfl (z_inc i 1) (by decide) (zLvf_h rfl) (fun ls hl => ?_)
            refine lv_goto (tgt := 50) hx hb dX11_lot_78 (by decide) ?_
            have G := G.sub (bs' := [z1_, wwB, wt, [zO10 xo t im mk rd po co tr wa wb_ fi cd], [zO0 wa m2_22 wy2_23 l0 pc2_24 a1_36 a2_37 a3_38 a4_39 a5_40 a6_41, zAr T 0 a1_36 7 g1_25, zAr T 0 a2_37 7 g2_26, zAr T 0 a3_38 7 f3A, zAr T 0 a4_39 (zMk mdA n4A (zPl cr0_ inn0_ k10_)) g4_27, zAr T 0 a5_40 (zMk mdA n4A (zPl cr0_ inn0_ k10_)) g5_28, zAr T 0 a6_41 (zMk mdA n4A (zPl cr0_ inn0_ k10_)) g6_29], z0_]) [0, 1, 2, 3, 5, 4] rfl
            exact ih_50 (i + 1) cm (show (i + 1) ≤ aPr (aW cr0_ inn0_ k10_) 7 ∧ cm = rCn (fun w => decide (rWh (aW cr0_ inn0_ k10_) k20_ w a_ = b_)) (i + 1) from ⟨(by omega), (by rw [hcm]; exact (rCn_f (p := (fun w => decide (rWh (aW cr0_ inn0_ k10_) k20_ w a_ = b_))) (fun q => absurd (of_decide_eq_true q) (by first | with_reducible assumption | assumption))).symm)⟩) (show aPr (aW cr0_ inn0_ k10_) 7 - (i + 1) < aPr (aW cr0_ inn0_ k10_) 7 - i from by omega) _ _ ls G (lv_sub hl [0, 1, 2, 3, 4, 5, 6, 7, 8] rfl)
          · have c_52n : (rWh (aW cr0_ inn0_ k10_) k20_ i a_).toInt = b_.toInt := (fa_eq _ _).mp c_52
            refine lv_iinc (v := nI (cm + 1)) (lv' := [(7, .int (nI (cm + 1))), (8, .int (nI i)), (6, .ref wa), (5, .ref l0), (0, .ref xo), (1, .int i1), (2, .int a_), (3, .int b_), (4, .int w_)]) hx hb dX11_lot_72 hl (k := 1) rfl (z_inc cm 1) (by decide) (zLvf_h rfl) (fun ls hl => ?_)
            refine lv_iinc (v := nI (i + 1)) (lv' := [(8, .int (nI (i + 1))), (7, .int (nI (cm + 1))), (6, .ref wa), (5, .ref l0), (0, .ref xo), (1, .int i1), (2, .int a_), (3, .int b_), (4, .int w_)]) hx hb dX11_lot_75 hl (k := 1) rfl (z_inc i 1) (by decide) (zLvf_h rfl) (fun ls hl => ?_)
            refine lv_goto (tgt := 50) hx hb dX11_lot_78 (by decide) ?_
            have G := G.sub (bs' := [z1_, wwB, wt, [zO10 xo t im mk rd po co tr wa wb_ fi cd], [zO0 wa m2_22 wy2_23 l0 pc2_24 a1_36 a2_37 a3_38 a4_39 a5_40 a6_41, zAr T 0 a1_36 7 g1_25, zAr T 0 a2_37 7 g2_26, zAr T 0 a3_38 7 f3A, zAr T 0 a4_39 (zMk mdA n4A (zPl cr0_ inn0_ k10_)) g4_27, zAr T 0 a5_40 (zMk mdA n4A (zPl cr0_ inn0_ k10_)) g5_28, zAr T 0 a6_41 (zMk mdA n4A (zPl cr0_ inn0_ k10_)) g6_29], z0_]) [0, 1, 2, 3, 5, 4] rfl
            exact ih_50 (i + 1) (cm + 1) (show (i + 1) ≤ aPr (aW cr0_ inn0_ k10_) 7 ∧ (cm + 1) = rCn (fun w => decide (rWh (aW cr0_ inn0_ k10_) k20_ w a_ = b_)) (i + 1) from ⟨(by omega), (by rw [hcm]; exact (rCn_t (p := (fun w => decide (rWh (aW cr0_ inn0_ k10_) k20_ w a_ = b_))) (decide_eq_true (by first | with_reducible assumption | assumption))).symm)⟩) (show aPr (aW cr0_ inn0_ k10_) 7 - (i + 1) < aPr (aW cr0_ inn0_ k10_) 7 - i from by omega) _ _ ls G (lv_sub hl [0, 1, 2, 3, 4, 5, 6, 7, 8] rfl)
      · have h_20 : (b_.toInt < 0 ∨ cr0_.toInt ≤ b_.toInt ∨ 7 ≤ b_.toInt ∨ zBit inn0_ b_ = 0) := h_20
        have hni := h_20
        refine lv_if_ne (tgt := 35) hx hb dX11_lot_30 (by decide) (fun q => absurd (by decide) q) (fun _ => ?_)
        refine lv_iconst (v := (-1)) hx hb dX11_lot_33 (by decide) ?_
        have G := G.sub (bs' := [[zO10 xo t im mk rd po co tr wa wb_ fi cd], wt, z0_, z1_, wwA, wwB]) [0, 4, 5, 1, 2, 3] rfl
        exact z_back hQz_ (z_iret C hr hlocks G (Nat.le_of_ble_eq_true rfl) (by omega) dX11_lot_34 ⟨laA, mdA, wyA, pc_A, f1A, f2A, f3A, f4A, f5A, f6A, n4A, wwA, laB, mdB, wyB, pc_B, f1B, f2B, f3B, f4B, f5B, f6B, n4B, wwB, rfl, hwwA, hmdA, hwmA, (by first | exact hNAo.symm | exact (zNA_n (by first | omega | grind)).symm), hpwA, (fun q => q), hTbA, hwwB, hmdB, hwmB, (by first | exact hNAo.symm | exact (zNA_n (by first | omega | grind)).symm), hpwB, (fun q => q), hTbB, (Or.inr (Or.inl ⟨by first | with_reducible assumption | assumption, by first | with_reducible assumption | assumption, (by have q9 := hI0_.1; unfold kLot; rw [if_neg (fun q8 => by first | omega | (rcases hni with e9 | e9 | e9 | e9 <;> first | omega | exact zBit_o q8.2.2 e9))])⟩))⟩)
    · have h_13 : (a_.toInt < 0 ∨ cr0_.toInt ≤ a_.toInt ∨ 7 ≤ a_.toInt) := h_13
      refine lv_if_eq (tgt := 33) hx hb dX11_lot_21 (by decide) (fun _ => ?_) (fun q => absurd (by decide) q)
      refine lv_iconst (v := (-1)) hx hb dX11_lot_33 (by decide) ?_
      have G := G.sub (bs' := [[zO10 xo t im mk rd po co tr wa wb_ fi cd], wt, z0_, z1_, wwA, wwB]) [0, 4, 5, 1, 2, 3] rfl
      exact z_back hQz_ (z_iret C hr hlocks G (Nat.le_of_ble_eq_true rfl) (by omega) dX11_lot_34 ⟨laA, mdA, wyA, pc_A, f1A, f2A, f3A, f4A, f5A, f6A, n4A, wwA, laB, mdB, wyB, pc_B, f1B, f2B, f3B, f4B, f5B, f6B, n4B, wwB, rfl, hwwA, hmdA, hwmA, (by first | exact hNAo.symm | exact (zNA_n (by first | omega | grind)).symm), hpwA, (fun q => q), hTbA, hwwB, hmdB, hwmB, (by first | exact hNAo.symm | exact (zNA_n (by first | omega | grind)).symm), hpwB, (fun q => q), hTbB, (Or.inr (Or.inl ⟨by first | with_reducible assumption | assumption, by first | with_reducible assumption | assumption, (by have q9 := hI0_.1; unfold kLot; rw [if_neg (fun q8 => by first | omega | (rcases hni with e9 | e9 | e9 | e9 <;> first | omega | exact zBit_o q8.2.2 e9))])⟩))⟩)
  · have h_6 : i1.toInt = 1 := h_6
    have h_7 : 1 < (fk 0).toInt := h_7
    refine lv_astore (lv' := [(5, .ref l1), (0, .ref xo), (1, .int i1), (2, .int a_), (3, .int b_), (4, .int w_)]) hx hb dX11_lot_8 hl (by decide) (zLvf_h rfl) (fun ls hl => ?_)
    refine lv_aload hx hb dX11_lot_10 (lv_at hl 0 rfl) ?_
    refine lv_ifnull hx hb dX11_lot_12 ?_
    refine lv_aload hx hb dX11_lot_15 (lv_at hl 0 rfl) ?_
    refine lv_iload_n hx hb dX11_lot_17 rfl (lv_at hl 3 rfl) ?_
    refine z_Vi (bc := [z1_]) (br := [[zO10 xo t im mk rd po co tr wa wb_ fi cd], z0_, wwA, wwB, wt]) (As := [.int a_]) (rest := []) C G (c_has l T l1 cr1_ inn1_ k11_ k21_ k31_ k41_ z1_ a_ hz1_) (kV_RX11_160 C.2.2.2.2 (Nat.le_of_ble_eq_true rfl) (Nat.le_of_ble_eq_true rfl)) [2] [2] rfl rfl (ci := 4) (qc := (RX4, TX4, 6)) rfl rfl (List.mem_flatten.mpr ⟨_, List.mem_of_getElem? (i := 0) rfl, (bLand_mem hz1_).choose_spec⟩) rfl rfl hl.1 dX11_lot_18 (Nat.le_of_ble_eq_true rfl) (by show _ + 0 ≤ 6 * (zNA (i1.toInt = 0 ∧ 0 < (fk 0).toInt ∧ 0 ≤ a_.toInt ∧ a_.toInt < cr0_.toInt ∧ a_.toInt < 7 ∧ 0 ≤ b_.toInt ∧ b_.toInt < cr0_.toInt ∧ b_.toInt < 7 ∧ ¬ zBit inn0_ b_ = 0) mdA n4A (zPl cr0_ inn0_ k10_) - n4A) + 6 * (zNA (i1.toInt = 1 ∧ 1 < (fk 0).toInt ∧ 0 ≤ a_.toInt ∧ a_.toInt < cr1_.toInt ∧ a_.toInt < 7 ∧ 0 ≤ b_.toInt ∧ b_.toInt < cr1_.toInt ∧ b_.toInt < 7 ∧ ¬ zBit inn1_ b_ = 0) mdB n4B (zPl cr1_ inn1_ k11_) - n4B); omega) (fun r_54 b1 H locs hw G => ?_)
    refine zAn2 hw ?_
    intro hbs9 hc_53
    clear hw
    subst hbs9
    have G : zS T A s.heap s [[zO10 xo t im mk rd po co tr wa wb_ fi cd], z0_, wwA, wwB, wt, z1_] _ _ := G
    rcases hc_53 with ⟨rfl, h_55, h_56, h_57⟩ | ⟨rfl, h_58⟩
    · have h_55 : 0 ≤ a_.toInt := h_55
      have h_56 : a_.toInt < cr1_.toInt := h_56
      have h_57 : a_.toInt < 7 := h_57
      refine lv_if_eq (tgt := 33) hx hb dX11_lot_21 (by decide) (fun q => absurd q (by decide)) (fun _ => ?_)
      refine lv_aload hx hb dX11_lot_24 (lv_at hl 0 rfl) ?_
      refine lv_iload_n hx hb dX11_lot_26 rfl (lv_at hl 4 rfl) ?_
      refine z_Vi (bc := [z1_]) (br := [[zO10 xo t im mk rd po co tr wa wb_ fi cd], z0_, wwA, wwB, wt]) (As := [.int b_]) (rest := []) C G (c_isInn l T l1 cr1_ inn1_ k11_ k21_ k31_ k41_ z1_ b_ hz1_) (kV_RX11_174 C.2.2.2.2 (Nat.le_of_ble_eq_true rfl) (Nat.le_of_ble_eq_true rfl)) [5] [5] rfl rfl (ci := 4) (qc := (RX4, TX4, 6)) rfl rfl (List.mem_flatten.mpr ⟨_, List.mem_of_getElem? (i := 0) rfl, (bLand_mem hz1_).choose_spec⟩) rfl rfl hl.1 dX11_lot_27 (Nat.le_of_ble_eq_true rfl) (by show _ + 0 ≤ 6 * (zNA (i1.toInt = 0 ∧ 0 < (fk 0).toInt ∧ 0 ≤ a_.toInt ∧ a_.toInt < cr0_.toInt ∧ a_.toInt < 7 ∧ 0 ≤ b_.toInt ∧ b_.toInt < cr0_.toInt ∧ b_.toInt < 7 ∧ ¬ zBit inn0_ b_ = 0) mdA n4A (zPl cr0_ inn0_ k10_) - n4A) + 6 * (zNA (i1.toInt = 1 ∧ 1 < (fk 0).toInt ∧ 0 ≤ a_.toInt ∧ a_.toInt < cr1_.toInt ∧ a_.toInt < 7 ∧ 0 ≤ b_.toInt ∧ b_.toInt < cr1_.toInt ∧ b_.toInt < 7 ∧ ¬ zBit inn1_ b_ = 0) mdB n4B (zPl cr1_ inn1_ k11_) - n4B); omega) (fun r_60 b1 H locs hw G => ?_)
      refine zAn2 hw ?_
      intro hbs9 hc_59
      clear hw
      subst hbs9
      have G : zS T A s.heap s [[zO10 xo t im mk rd po co tr wa wb_ fi cd], z0_, wwA, wwB, wt, z1_] _ _ := G
      rcases hc_59 with ⟨rfl, h_61, h_62, h_63, h_64⟩ | ⟨rfl, h_65⟩
      · have h_61 : 0 ≤ b_.toInt := h_61
        have h_62 : b_.toInt < cr1_.toInt := h_62
        have h_63 : b_.toInt < 7 := h_63
        have h_64 : ¬ zBit inn1_ b_ = 0 := h_64
        have hyi := h_64
        refine lv_if_ne (tgt := 35) hx hb dX11_lot_30 (by decide) (fun _ => ?_) (fun q => absurd q (by decide))
        refine lv_aload_n hx hb dX11_lot_35 rfl (lv_at hl 1 rfl) ?_
        refine lv_iload_n hx hb dX11_lot_36 rfl (lv_at hl 2 rfl) ?_
        refine lv_aload hx hb dX11_lot_37 (lv_at hl 0 rfl) ?_
        have hNAm : zNA (i1.toInt = 1 ∧ 1 < (fk 0).toInt ∧ 0 ≤ a_.toInt ∧ a_.toInt < cr1_.toInt ∧ a_.toInt < 7 ∧ 0 ≤ b_.toInt ∧ b_.toInt < cr1_.toInt ∧ b_.toInt < 7 ∧ ¬ zBit inn1_ b_ = 0) mdB n4B (zPl cr1_ inn1_ k11_) = zMk mdB n4B (zPl cr1_ inn1_ k11_) := zNA_y (by first | omega | (repeat' (first | omega | assumption | constructor)))
        have hNAo : zNA (i1.toInt = 0 ∧ 0 < (fk 0).toInt ∧ 0 ≤ a_.toInt ∧ a_.toInt < cr0_.toInt ∧ a_.toInt < 7 ∧ 0 ≤ b_.toInt ∧ b_.toInt < cr0_.toInt ∧ b_.toInt < 7 ∧ ¬ zBit inn0_ b_ = 0) mdA n4A (zPl cr0_ inn0_ k10_) = n4A := zNA_n (by omega)
        have hn9 : zMk mdB n4B (zPl cr1_ inn1_ k11_) ≤ 131072 := zPw_le (zMk_pw hpwB)
        refine z_Vq (bc := [[zO10 xo t im mk rd po co tr wa wb_ fi cd], wwB, z1_]) (br := [z0_, wwA, wt]) (As := [.int i1, .ref l1]) (rest := []) C G (c_f_waysInB l T xo t im mk rd po co tr wa wb_ fi cd i1 laB mdB wyB pc_B f1B f2B f3B f4B f5B f6B n4B wwB l1 cr1_ inn1_ k11_ k21_ k31_ k41_ z1_ hwwB hz1_ hI1_ hpwB hmdB (kaOk hI1_ hLq1).1 hTbB (by omega)) (kV_RX11_235 C.2.2.2.2 (Nat.le_of_ble_eq_true rfl) (Nat.le_of_ble_eq_true rfl)) [0, 3, 5] [0, 2, 1] rfl rfl (ci := 10) (qc := (RX11, TX11, 11)) rfl rfl (List.mem_flatten.mpr ⟨_, List.mem_of_getElem? (i := 0) rfl, List.mem_cons_self⟩) rfl rfl hl.1 dX11_lot_39 (Nat.le_of_ble_eq_true rfl) (by show _ + (6 * (zMk mdB n4B (zPl cr1_ inn1_ k11_) - n4B)) ≤ 6 * (zNA (i1.toInt = 0 ∧ 0 < (fk 0).toInt ∧ 0 ≤ a_.toInt ∧ a_.toInt < cr0_.toInt ∧ a_.toInt < 7 ∧ 0 ≤ b_.toInt ∧ b_.toInt < cr0_.toInt ∧ b_.toInt < 7 ∧ ¬ zBit inn0_ b_ = 0) mdA n4A (zPl cr0_ inn0_ k10_) - n4A) + 6 * (zNA (i1.toInt = 1 ∧ 1 < (fk 0).toInt ∧ 0 ≤ a_.toInt ∧ a_.toInt < cr1_.toInt ∧ a_.toInt < 7 ∧ 0 ≤ b_.toInt ∧ b_.toInt < cr1_.toInt ∧ b_.toInt < 7 ∧ ¬ zBit inn1_ b_ = 0) mdB n4B (zPl cr1_ inn1_ k11_) - n4B); omega) (fun r_80 b1 H locs hw G => ?_)
        refine zEx9 hw ?_
        intro w2_66 m2_67 wy2_68 pc2_69 g1_70 g2_71 g4_72 g5_73 g6_74
        refine zCu6 ?_
        intro hbs9 h_75 h_76 h_77 h_78 h_79
        clear hw
        subst hbs9
        have G : zS T A s.heap s [z0_, wwA, wt, [zO10 xo t im mk rd po co tr wa wb_ fi cd], w2_66, z1_] _ _ := G
        subst h_75
        have hwy9 : 0 ≤ wy2_68.toInt ∧ wy2_68.toInt ≤ 16384 := by have q9 := zWy_in (inn := inn1_) hI1_; rw [h_77]; exact ⟨by omega, q9.2⟩
        have hp79 : aPr (aW cr1_ inn1_ k11_) 7 ≤ 16384 := aPr_7 hI1_
        have hwN9 : wy2_68 = nI (aPr (aW cr1_ inn1_ k11_) 7) := h_77.trans (zWy_z hI1_)
        have hwT9 : wy2_68.toInt = ((aPr (aW cr1_ inn1_ k11_) 7 : Nat) : Int) := by rw [hwN9, nI_toInt (by omega)]
        have hOk9 := (kaOk (inn := inn1_) hI1_ hLq1).1
        have hc79 := hI1_.1
        refine lv_astore (lv' := [(6, .ref wb_), (5, .ref l1), (0, .ref xo), (1, .int i1), (2, .int a_), (3, .int b_), (4, .int w_)]) hx hb dX11_lot_42 hl (by decide) (zLvf_h rfl) (fun ls hl => ?_)
        refine lv_iconst (v := 0) hx hb dX11_lot_44 (by decide) ?_
        refine lv_istore (lv' := [(7, .int 0), (6, .ref wb_), (5, .ref l1), (0, .ref xo), (1, .int i1), (2, .int a_), (3, .int b_), (4, .int w_)]) hx hb dX11_lot_45 hl (by decide) (zLvf_h rfl) (fun ls hl => ?_)
        refine lv_iconst (v := 0) hx hb dX11_lot_47 (by decide) ?_
        refine lv_istore (lv' := [(8, .int 0), (7, .int 0), (6, .ref wb_), (5, .ref l1), (0, .ref xo), (1, .int i1), (2, .int a_), (3, .int b_), (4, .int w_)]) hx hb dX11_lot_48 hl (by decide) (zLvf_h rfl) (fun ls hl => ?_)
        refine zEx6 h_76 ?_
        intro a1_81 a2_82 a3_83 a4_84 a5_85 a6_86 hbs9
        clear h_76
        subst hbs9
        have G : zS T A s.heap s [z0_, wwA, wt, [zO10 xo t im mk rd po co tr wa wb_ fi cd], [zO0 wb_ m2_67 wy2_68 l1 pc2_69 a1_81 a2_82 a3_83 a4_84 a5_85 a6_86], [zAr T 0 a1_81 7 g1_70], [zAr T 0 a2_82 7 g2_71], [zAr T 0 a3_83 7 f3B], [zAr T 0 a4_84 (zMk mdB n4B (zPl cr1_ inn1_ k11_)) g4_72], [zAr T 0 a5_85 (zMk mdB n4B (zPl cr1_ inn1_ k11_)) g5_73], [zAr T 0 a6_86 (zMk mdB n4B (zPl cr1_ inn1_ k11_)) g6_74], z1_] _ _ := G.re rfl
        have hw_87 : bWays T wb_ l1 m2_67 wy2_68 pc2_69 g1_70 g2_71 f3B g4_72 g5_73 g6_74 (zMk mdB n4B (zPl cr1_ inn1_ k11_)) [zO0 wb_ m2_67 wy2_68 l1 pc2_69 a1_81 a2_82 a3_83 a4_84 a5_85 a6_86, zAr T 0 a1_81 7 g1_70, zAr T 0 a2_82 7 g2_71, zAr T 0 a3_83 7 f3B, zAr T 0 a4_84 (zMk mdB n4B (zPl cr1_ inn1_ k11_)) g4_72, zAr T 0 a5_85 (zMk mdB n4B (zPl cr1_ inn1_ k11_)) g5_73, zAr T 0 a6_86 (zMk mdB n4B (zPl cr1_ inn1_ k11_)) g6_74] := ⟨a1_81, a2_82, a3_83, a4_84, a5_85, a6_86, rfl⟩
        have G : zS T A s.heap s [z0_, wwA, wt, [zO10 xo t im mk rd po co tr wa wb_ fi cd], [zO0 wb_ m2_67 wy2_68 l1 pc2_69 a1_81 a2_82 a3_83 a4_84 a5_85 a6_86, zAr T 0 a1_81 7 g1_70, zAr T 0 a2_82 7 g2_71, zAr T 0 a3_83 7 f3B, zAr T 0 a4_84 (zMk mdB n4B (zPl cr1_ inn1_ k11_)) g4_72, zAr T 0 a5_85 (zMk mdB n4B (zPl cr1_ inn1_ k11_)) g5_73, zAr T 0 a6_86 (zMk mdB n4B (zPl cr1_ inn1_ k11_)) g6_74], z1_] _ _ := G.re rfl
        refine z_lp2 (T := T) 50 (fun (i : Nat) (cm : Nat) => [z0_, wwA, wt, [zO10 xo t im mk rd po co tr wa wb_ fi cd], [zO0 wb_ m2_67 wy2_68 l1 pc2_69 a1_81 a2_82 a3_83 a4_84 a5_85 a6_86, zAr T 0 a1_81 7 g1_70, zAr T 0 a2_82 7 g2_71, zAr T 0 a3_83 7 f3B, zAr T 0 a4_84 (zMk mdB n4B (zPl cr1_ inn1_ k11_)) g4_72, zAr T 0 a5_85 (zMk mdB n4B (zPl cr1_ inn1_ k11_)) g5_73, zAr T 0 a6_86 (zMk mdB n4B (zPl cr1_ inn1_ k11_)) g6_74], z1_]) (fun (i : Nat) (cm : Nat) => [(8, .int (nI i)), (7, .int (nI cm)), (6, .ref wb_), (5, .ref l1), (0, .ref xo), (1, .int i1), (2, .int a_), (3, .int b_), (4, .int w_)]) (fun (i : Nat) (cm : Nat) => i ≤ aPr (aW cr1_ inn1_ k11_) 7 ∧ cm = rCn (fun w => decide (rWh (aW cr1_ inn1_ k11_) k21_ w a_ = b_)) i) (fun (i : Nat) (cm : Nat) => aPr (aW cr1_ inn1_ k11_) 7 - i) ?_ 0 0 (show 0 ≤ aPr (aW cr1_ inn1_ k11_) 7 ∧ 0 = rCn (fun w => decide (rWh (aW cr1_ inn1_ k11_) k21_ w a_ = b_)) 0 from ⟨(Nat.zero_le _), rfl⟩) G (lv_sub hl [0, 1, 2, 3, 4, 5, 6, 7, 8] rfl)
        intro i cm hI9 ih_50 H locs ls G hl
        replace hI9 : i ≤ aPr (aW cr1_ inn1_ k11_) 7 ∧ cm = rCn (fun w => decide (rWh (aW cr1_ inn1_ k11_) k21_ w a_ = b_)) i := hI9
        refine zAn2 hI9 ?_
        intro hi hcm
        clear hI9
        replace G : zS T A s.heap s [z0_, wwA, wt, [zO10 xo t im mk rd po co tr wa wb_ fi cd], [zO0 wb_ m2_67 wy2_68 l1 pc2_69 a1_81 a2_82 a3_83 a4_84 a5_85 a6_86, zAr T 0 a1_81 7 g1_70, zAr T 0 a2_82 7 g2_71, zAr T 0 a3_83 7 f3B, zAr T 0 a4_84 (zMk mdB n4B (zPl cr1_ inn1_ k11_)) g4_72, zAr T 0 a5_85 (zMk mdB n4B (zPl cr1_ inn1_ k11_)) g5_73, zAr T 0 a6_86 (zMk mdB n4B (zPl cr1_ inn1_ k11_)) g6_74], z1_] _ _ := G
        replace hl : lv_has ls 9 [(8, .int (nI i)), (7, .int (nI cm)), (6, .ref wb_), (5, .ref l1), (0, .ref xo), (1, .int i1), (2, .int a_), (3, .int b_), (4, .int w_)] := hl
        refine lv_iload hx hb dX11_lot_50 (lv_at hl 0 rfl) ?_
        refine lv_aload hx hb dX11_lot_52 (lv_at hl 2 rfl) ?_
        have G : zS T A s.heap s [z0_, wwA, wt, [zO10 xo t im mk rd po co tr wa wb_ fi cd], [zO0 wb_ m2_67 wy2_68 l1 pc2_69 a1_81 a2_82 a3_83 a4_84 a5_85 a6_86], [zAr T 0 a1_81 7 g1_70], [zAr T 0 a2_82 7 g2_71], [zAr T 0 a3_83 7 f3B], [zAr T 0 a4_84 (zMk mdB n4B (zPl cr1_ inn1_ k11_)) g4_72], [zAr T 0 a5_85 (zMk mdB n4B (zPl cr1_ inn1_ k11_)) g5_73], [zAr T 0 a6_86 (zMk mdB n4B (zPl cr1_ inn1_ k11_)) g6_74], z1_] _ _ := G.re rfl
        refine z_get C G clX0 4 rfl 1 (by decide) m_fl_RX11_257 rfl dX11_lot_54 ?_
        refine lv_icmp_ge (tgt := 81) hx hb dX11_lot_57 (by decide) (fun c_88 => ?_) (fun c_88 => ?_)
        · have c_88n : wy2_68.toInt ≤ (i : Int) := by have q := (fa_le _ _).mp c_88; rw [nI_toInt (n := i) (by omega)] at q; exact q
          have hcl9 := rCn_le (p := (fun w => decide (rWh (aW cr1_ inn1_ k11_) k21_ w a_ = b_))) i
          refine lv_iload hx hb dX11_lot_81 (lv_at hl 1 rfl) ?_
          refine lv_aload hx hb dX11_lot_83 (lv_at hl 2 rfl) ?_
          refine z_get C G clX0 4 rfl 1 (by decide) m_fl_RX11_257 rfl dX11_lot_85 ?_
          refine lv_topi (fun y_89 ey_89 => ?_)
          obtain rfl : y_89 = nI (aPr (aW cr1_ inn1_ k11_) 7) := ey_89.trans (hwN9)
          refine lv_iload hx hb dX11_lot_88 (lv_at hl 8 rfl) ?_
          refine z_Si (bc := []) (br := [z0_, wwA, wt, [zO10 xo t im mk rd po co tr wa wb_ fi cd], [zO0 wb_ m2_67 wy2_68 l1 pc2_69 a1_81 a2_82 a3_83 a4_84 a5_85 a6_86], [zAr T 0 a1_81 7 g1_70], [zAr T 0 a2_82 7 g2_71], [zAr T 0 a3_83 7 f3B], [zAr T 0 a4_84 (zMk mdB n4B (zPl cr1_ inn1_ k11_)) g4_72], [zAr T 0 a5_85 (zMk mdB n4B (zPl cr1_ inn1_ k11_)) g5_73], [zAr T 0 a6_86 (zMk mdB n4B (zPl cr1_ inn1_ k11_)) g6_74], z1_]) (As := [.int (nI cm), .int (nI (aPr (aW cr1_ inn1_ k11_) 7)), .int w_]) (rest := []) C G (c_f_inLeastTerms l T cm (aPr (aW cr1_ inn1_ k11_) 7) w_ (by omega) (aPr_p _) hp79) (kS_RX11_262 C.2.2.2.2 (Nat.le_of_ble_eq_true rfl) (Nat.le_of_ble_eq_true rfl)) [] [] rfl rfl rfl rfl hl.1 dX11_lot_90 (Nat.le_of_ble_eq_true rfl) (by show _ + 0 ≤ 6 * (zNA (i1.toInt = 0 ∧ 0 < (fk 0).toInt ∧ 0 ≤ a_.toInt ∧ a_.toInt < cr0_.toInt ∧ a_.toInt < 7 ∧ 0 ≤ b_.toInt ∧ b_.toInt < cr0_.toInt ∧ b_.toInt < 7 ∧ ¬ zBit inn0_ b_ = 0) mdA n4A (zPl cr0_ inn0_ k10_) - n4A) + 6 * (zNA (i1.toInt = 1 ∧ 1 < (fk 0).toInt ∧ 0 ≤ a_.toInt ∧ a_.toInt < cr1_.toInt ∧ a_.toInt < 7 ∧ 0 ≤ b_.toInt ∧ b_.toInt < cr1_.toInt ∧ b_.toInt < 7 ∧ ¬ zBit inn1_ b_ = 0) mdB n4B (zPl cr1_ inn1_ k11_) - n4B); omega) (fun r_91 b1 H locs hw G => ?_)
          refine zAn2 hw ?_
          intro hbs9 h_90
          clear hw
          subst hbs9
          have G : zS T A s.heap s [z0_, wwA, wt, [zO10 xo t im mk rd po co tr wa wb_ fi cd], [zO0 wb_ m2_67 wy2_68 l1 pc2_69 a1_81 a2_82 a3_83 a4_84 a5_85 a6_86], [zAr T 0 a1_81 7 g1_70], [zAr T 0 a2_82 7 g2_71], [zAr T 0 a3_83 7 f3B], [zAr T 0 a4_84 (zMk mdB n4B (zPl cr1_ inn1_ k11_)) g4_72], [zAr T 0 a5_85 (zMk mdB n4B (zPl cr1_ inn1_ k11_)) g5_73], [zAr T 0 a6_86 (zMk mdB n4B (zPl cr1_ inn1_ k11_)) g6_74], z1_] _ _ := G
          have hw_92 : bWays T wb_ l1 m2_67 wy2_68 pc2_69 g1_70 g2_71 f3B g4_72 g5_73 g6_74 (zMk mdB n4B (zPl cr1_ inn1_ k11_)) [zO0 wb_ m2_67 wy2_68 l1 pc2_69 a1_81 a2_82 a3_83 a4_84 a5_85 a6_86, zAr T 0 a1_81 7 g1_70, zAr T 0 a2_82 7 g2_71, zAr T 0 a3_83 7 f3B, zAr T 0 a4_84 (zMk mdB n4B (zPl cr1_ inn1_ k11_)) g4_72, zAr T 0 a5_85 (zMk mdB n4B (zPl cr1_ inn1_ k11_)) g5_73, zAr T 0 a6_86 (zMk mdB n4B (zPl cr1_ inn1_ k11_)) g6_74] := ⟨a1_81, a2_82, a3_83, a4_84, a5_85, a6_86, rfl⟩
          have G : zS T A s.heap s [z0_, wwA, wt, [zO10 xo t im mk rd po co tr wa wb_ fi cd], [zO0 wb_ m2_67 wy2_68 l1 pc2_69 a1_81 a2_82 a3_83 a4_84 a5_85 a6_86, zAr T 0 a1_81 7 g1_70, zAr T 0 a2_82 7 g2_71, zAr T 0 a3_83 7 f3B, zAr T 0 a4_84 (zMk mdB n4B (zPl cr1_ inn1_ k11_)) g4_72, zAr T 0 a5_85 (zMk mdB n4B (zPl cr1_ inn1_ k11_)) g5_73, zAr T 0 a6_86 (zMk mdB n4B (zPl cr1_ inn1_ k11_)) g6_74], z1_] _ _ := G.re rfl
          have G := G.sub (bs' := [[zO10 xo t im mk rd po co tr wa wb_ fi cd], wt, z0_, z1_, wwA, [zO0 wb_ m2_67 wy2_68 l1 pc2_69 a1_81 a2_82 a3_83 a4_84 a5_85 a6_86, zAr T 0 a1_81 7 g1_70, zAr T 0 a2_82 7 g2_71, zAr T 0 a3_83 7 f3B, zAr T 0 a4_84 (zMk mdB n4B (zPl cr1_ inn1_ k11_)) g4_72, zAr T 0 a5_85 (zMk mdB n4B (zPl cr1_ inn1_ k11_)) g5_73, zAr T 0 a6_86 (zMk mdB n4B (zPl cr1_ inn1_ k11_)) g6_74]]) [3, 2, 0, 5, 1, 4] rfl
          exact z_back hQz_ (z_iret C hr hlocks G (Nat.le_of_ble_eq_true rfl) (by omega) dX11_lot_93 ⟨laA, mdA, wyA, pc_A, f1A, f2A, f3A, f4A, f5A, f6A, n4A, wwA, l1, m2_67, wy2_68, pc2_69, g1_70, g2_71, f3B, g4_72, g5_73, g6_74, (zMk mdB n4B (zPl cr1_ inn1_ k11_)), ([zO0 wb_ m2_67 wy2_68 l1 pc2_69 a1_81 a2_82 a3_83 a4_84 a5_85 a6_86, zAr T 0 a1_81 7 g1_70, zAr T 0 a2_82 7 g2_71, zAr T 0 a3_83 7 f3B, zAr T 0 a4_84 (zMk mdB n4B (zPl cr1_ inn1_ k11_)) g4_72, zAr T 0 a5_85 (zMk mdB n4B (zPl cr1_ inn1_ k11_)) g5_73, zAr T 0 a6_86 (zMk mdB n4B (zPl cr1_ inn1_ k11_)) g6_74]), rfl, hwwA, hmdA, hwmA, (by first | exact hNAo.symm | exact (zNA_n (by first | omega | grind)).symm), hpwA, (fun q => q), hTbA, hw_92, (Or.inr rfl), hwy9, hNAm.symm, (zMk_pw hpwB), (fun _ => h_78), (Or.inr h_79), (Or.inr (Or.inr ⟨by first | with_reducible assumption | assumption, by first | with_reducible assumption | assumption, (by unfold kLot; rw [if_pos ⟨⟨by omega, by omega⟩, ⟨by omega, by omega⟩, zBit_p hyi⟩, h_90, hcm, show i = aPr (aW cr1_ inn1_ k11_) 7 by omega]; rfl)⟩))⟩)
        · have c_88n : ¬ wy2_68.toInt ≤ (i : Int) := fun q => c_88 ((fa_le _ _).mpr (by rw [nI_toInt (n := i) (by omega)]; exact q))
          have hE9 := zEnt_w (w := i) (x := a_) hI1_ hOk9 h_79 (by omega) ⟨by omega, by omega, by omega⟩
          have hB9 := zEnt_b (inn := inn1_) (w := i) (x := a_) hI1_ hLq1 (by omega) ⟨by omega, by omega, by omega⟩
          refine lv_aload hx hb dX11_lot_60 (lv_at hl 2 rfl) ?_
          refine lv_iload hx hb dX11_lot_62 (lv_at hl 0 rfl) ?_
          refine lv_iload_n hx hb dX11_lot_64 rfl (lv_at hl 6 rfl) ?_
          have hw_93 : bWays T wb_ l1 m2_67 wy2_68 pc2_69 g1_70 g2_71 f3B g4_72 g5_73 g6_74 (zMk mdB n4B (zPl cr1_ inn1_ k11_)) [zO0 wb_ m2_67 wy2_68 l1 pc2_69 a1_81 a2_82 a3_83 a4_84 a5_85 a6_86, zAr T 0 a1_81 7 g1_70, zAr T 0 a2_82 7 g2_71, zAr T 0 a3_83 7 f3B, zAr T 0 a4_84 (zMk mdB n4B (zPl cr1_ inn1_ k11_)) g4_72, zAr T 0 a5_85 (zMk mdB n4B (zPl cr1_ inn1_ k11_)) g5_73, zAr T 0 a6_86 (zMk mdB n4B (zPl cr1_ inn1_ k11_)) g6_74] := ⟨a1_81, a2_82, a3_83, a4_84, a5_85, a6_86, rfl⟩
          have G : zS T A s.heap s [z0_, wwA, wt, [zO10 xo t im mk rd po co tr wa wb_ fi cd], [zO0 wb_ m2_67 wy2_68 l1 pc2_69 a1_81 a2_82 a3_83 a4_84 a5_85 a6_86, zAr T 0 a1_81 7 g1_70, zAr T 0 a2_82 7 g2_71, zAr T 0 a3_83 7 f3B, zAr T 0 a4_84 (zMk mdB n4B (zPl cr1_ inn1_ k11_)) g4_72, zAr T 0 a5_85 (zMk mdB n4B (zPl cr1_ inn1_ k11_)) g5_73, zAr T 0 a6_86 (zMk mdB n4B (zPl cr1_ inn1_ k11_)) g6_74], z1_] _ _ := G.re rfl
          refine z_Vi (bc := [[zO0 wb_ m2_67 wy2_68 l1 pc2_69 a1_81 a2_82 a3_83 a4_84 a5_85 a6_86, zAr T 0 a1_81 7 g1_70, zAr T 0 a2_82 7 g2_71, zAr T 0 a3_83 7 f3B, zAr T 0 a4_84 (zMk mdB n4B (zPl cr1_ inn1_ k11_)) g4_72, zAr T 0 a5_85 (zMk mdB n4B (zPl cr1_ inn1_ k11_)) g5_73, zAr T 0 a6_86 (zMk mdB n4B (zPl cr1_ inn1_ k11_)) g6_74]]) (br := [z0_, wwA, wt, [zO10 xo t im mk rd po co tr wa wb_ fi cd], z1_]) (As := [.int (nI i), .int a_]) (rest := []) C G (c_where l T wb_ l1 m2_67 wy2_68 pc2_69 g1_70 g2_71 f3B g4_72 g5_73 g6_74 (zMk mdB n4B (zPl cr1_ inn1_ k11_)) ([zO0 wb_ m2_67 wy2_68 l1 pc2_69 a1_81 a2_82 a3_83 a4_84 a5_85 a6_86, zAr T 0 a1_81 7 g1_70, zAr T 0 a2_82 7 g2_71, zAr T 0 a3_83 7 f3B, zAr T 0 a4_84 (zMk mdB n4B (zPl cr1_ inn1_ k11_)) g4_72, zAr T 0 a5_85 (zMk mdB n4B (zPl cr1_ inn1_ k11_)) g5_73, zAr T 0 a6_86 (zMk mdB n4B (zPl cr1_ inn1_ k11_)) g6_74]) (nI i) a_ hw_93 (by first | with_reducible assumption | with_reducible rfl | omega | assumption | rfl)) (kV_RX11_260 C.2.2.2.2 (Nat.le_of_ble_eq_true rfl) (Nat.le_of_ble_eq_true rfl)) [4] [4] rfl rfl (ci := 0) (qc := (RX0, TX0, 10)) rfl rfl (List.mem_flatten.mpr ⟨_, List.mem_of_getElem? (i := 0) rfl, (bWays_mem hw_93).choose_spec⟩) rfl rfl hl.1 dX11_lot_65 (Nat.le_of_ble_eq_true rfl) (by show _ + 0 ≤ 6 * (zNA (i1.toInt = 0 ∧ 0 < (fk 0).toInt ∧ 0 ≤ a_.toInt ∧ a_.toInt < cr0_.toInt ∧ a_.toInt < 7 ∧ 0 ≤ b_.toInt ∧ b_.toInt < cr0_.toInt ∧ b_.toInt < 7 ∧ ¬ zBit inn0_ b_ = 0) mdA n4A (zPl cr0_ inn0_ k10_) - n4A) + 6 * (zNA (i1.toInt = 1 ∧ 1 < (fk 0).toInt ∧ 0 ≤ a_.toInt ∧ a_.toInt < cr1_.toInt ∧ a_.toInt < 7 ∧ 0 ≤ b_.toInt ∧ b_.toInt < cr1_.toInt ∧ b_.toInt < 7 ∧ ¬ zBit inn1_ b_ = 0) mdB n4B (zPl cr1_ inn1_ k11_) - n4B); omega) (fun r_95 b1 H locs hw G => ?_)
          refine zAn2 hw ?_
          intro hbs9 h_94
          clear hw
          subst hbs9
          have G : zS T A s.heap s [z0_, wwA, wt, [zO10 xo t im mk rd po co tr wa wb_ fi cd], z1_, [zO0 wb_ m2_67 wy2_68 l1 pc2_69 a1_81 a2_82 a3_83 a4_84 a5_85 a6_86, zAr T 0 a1_81 7 g1_70, zAr T 0 a2_82 7 g2_71, zAr T 0 a3_83 7 f3B, zAr T 0 a4_84 (zMk mdB n4B (zPl cr1_ inn1_ k11_)) g4_72, zAr T 0 a5_85 (zMk mdB n4B (zPl cr1_ inn1_ k11_)) g5_73, zAr T 0 a6_86 (zMk mdB n4B (zPl cr1_ inn1_ k11_)) g6_74]] _ _ := G
          subst h_94
          refine lv_topi (fun y_96 ey_96 => ?_)
          obtain rfl : y_96 = (rWh (aW cr1_ inn1_ k11_) k21_ i a_) := ey_96.trans (hE9.1)
          refine lv_iload_n hx hb dX11_lot_68 rfl (lv_at hl 7 rfl) ?_
          refine lv_icmp_ne (tgt := 75) hx hb dX11_lot_69 (by decide) (fun c_97 => ?_) (fun c_97 => ?_)
          · have c_97n : ¬ (rWh (aW cr1_ inn1_ k11_) k21_ i a_).toInt = b_.toInt := fun q => c_97 ((fa_eq _ _).mpr q)
            refine lv_iinc (v := nI (i + 1)) (lv' := [(8, .int (nI (i + 1))), (7, .int (nI cm)), (6, .ref wb_), (5, .ref l1), (0, .ref xo), (1, .int i1), (2, .int a_), (3, .int b_), (4, .int w_)]) hx hb dX11_lot_75 hl (k := 0) rfl (z_inc i 1) (by decide) (zLvf_h rfl) (fun ls hl => ?_)
            refine lv_goto (tgt := 50) hx hb dX11_lot_78 (by decide) ?_
            have G := G.sub (bs' := [z0_, wwA, wt, [zO10 xo t im mk rd po co tr wa wb_ fi cd], [zO0 wb_ m2_67 wy2_68 l1 pc2_69 a1_81 a2_82 a3_83 a4_84 a5_85 a6_86, zAr T 0 a1_81 7 g1_70, zAr T 0 a2_82 7 g2_71, zAr T 0 a3_83 7 f3B, zAr T 0 a4_84 (zMk mdB n4B (zPl cr1_ inn1_ k11_)) g4_72, zAr T 0 a5_85 (zMk mdB n4B (zPl cr1_ inn1_ k11_)) g5_73, zAr T 0 a6_86 (zMk mdB n4B (zPl cr1_ inn1_ k11_)) g6_74], z1_]) [0, 1, 2, 3, 5, 4] rfl
            exact ih_50 (i + 1) cm (show (i + 1) ≤ aPr (aW cr1_ inn1_ k11_) 7 ∧ cm = rCn (fun w => decide (rWh (aW cr1_ inn1_ k11_) k21_ w a_ = b_)) (i + 1) from ⟨(by omega), (by rw [hcm]; exact (rCn_f (p := (fun w => decide (rWh (aW cr1_ inn1_ k11_) k21_ w a_ = b_))) (fun q => absurd (of_decide_eq_true q) (by first | with_reducible assumption | assumption))).symm)⟩) (show aPr (aW cr1_ inn1_ k11_) 7 - (i + 1) < aPr (aW cr1_ inn1_ k11_) 7 - i from by omega) _ _ ls G (lv_sub hl [0, 1, 2, 3, 4, 5, 6, 7, 8] rfl)
          · have c_97n : (rWh (aW cr1_ inn1_ k11_) k21_ i a_).toInt = b_.toInt := (fa_eq _ _).mp c_97
            refine lv_iinc (v := nI (cm + 1)) (lv' := [(7, .int (nI (cm + 1))), (8, .int (nI i)), (6, .ref wb_), (5, .ref l1), (0, .ref xo), (1, .int i1), (2, .int a_), (3, .int b_), (4, .int w_)]) hx hb dX11_lot_72 hl (k := 1) rfl (z_inc cm 1) (by decide) (zLvf_h rfl) (fun ls hl => ?_)
            refine lv_iinc (v := nI (i + 1)) (lv' := [(8, .int (nI (i + 1))), (7, .int (nI (cm + 1))), (6, .ref wb_), (5, .ref l1), (0, .ref xo), (1, .int i1), (2, .int a_), (3, .int b_), (4, .int w_)]) hx hb dX11_lot_75 hl (k := 1) rfl (z_inc i 1) (by decide) (zLvf_h rfl) (fun ls hl => ?_)
            refine lv_goto (tgt := 50) hx hb dX11_lot_78 (by decide) ?_
            have G := G.sub (bs' := [z0_, wwA, wt, [zO10 xo t im mk rd po co tr wa wb_ fi cd], [zO0 wb_ m2_67 wy2_68 l1 pc2_69 a1_81 a2_82 a3_83 a4_84 a5_85 a6_86, zAr T 0 a1_81 7 g1_70, zAr T 0 a2_82 7 g2_71, zAr T 0 a3_83 7 f3B, zAr T 0 a4_84 (zMk mdB n4B (zPl cr1_ inn1_ k11_)) g4_72, zAr T 0 a5_85 (zMk mdB n4B (zPl cr1_ inn1_ k11_)) g5_73, zAr T 0 a6_86 (zMk mdB n4B (zPl cr1_ inn1_ k11_)) g6_74], z1_]) [0, 1, 2, 3, 5, 4] rfl
            exact ih_50 (i + 1) (cm + 1) (show (i + 1) ≤ aPr (aW cr1_ inn1_ k11_) 7 ∧ (cm + 1) = rCn (fun w => decide (rWh (aW cr1_ inn1_ k11_) k21_ w a_ = b_)) (i + 1) from ⟨(by omega), (by rw [hcm]; exact (rCn_t (p := (fun w => decide (rWh (aW cr1_ inn1_ k11_) k21_ w a_ = b_))) (decide_eq_true (by first | with_reducible assumption | assumption))).symm)⟩) (show aPr (aW cr1_ inn1_ k11_) 7 - (i + 1) < aPr (aW cr1_ inn1_ k11_) 7 - i from by omega) _ _ ls G (lv_sub hl [0, 1, 2, 3, 4, 5, 6, 7, 8] rfl)
      · have h_65 : (b_.toInt < 0 ∨ cr1_.toInt ≤ b_.toInt ∨ 7 ≤ b_.toInt ∨ zBit inn1_ b_ = 0) := h_65
        have hni := h_65
        refine lv_if_ne (tgt := 35) hx hb dX11_lot_30 (by decide) (fun q => absurd (by decide) q) (fun _ => ?_)
        refine lv_iconst (v := (-1)) hx hb dX11_lot_33 (by decide) ?_
        have G := G.sub (bs' := [[zO10 xo t im mk rd po co tr wa wb_ fi cd], wt, z0_, z1_, wwA, wwB]) [0, 4, 1, 5, 2, 3] rfl
        exact z_back hQz_ (z_iret C hr hlocks G (Nat.le_of_ble_eq_true rfl) (by omega) dX11_lot_34 ⟨laA, mdA, wyA, pc_A, f1A, f2A, f3A, f4A, f5A, f6A, n4A, wwA, laB, mdB, wyB, pc_B, f1B, f2B, f3B, f4B, f5B, f6B, n4B, wwB, rfl, hwwA, hmdA, hwmA, (by first | exact hNAo.symm | exact (zNA_n (by first | omega | grind)).symm), hpwA, (fun q => q), hTbA, hwwB, hmdB, hwmB, (by first | exact hNAo.symm | exact (zNA_n (by first | omega | grind)).symm), hpwB, (fun q => q), hTbB, (Or.inr (Or.inr ⟨by first | with_reducible assumption | assumption, by first | with_reducible assumption | assumption, (by have q9 := hI1_.1; unfold kLot; rw [if_neg (fun q8 => by first | omega | (rcases hni with e9 | e9 | e9 | e9 <;> first | omega | exact zBit_o q8.2.2 e9))])⟩))⟩)
    · have h_58 : (a_.toInt < 0 ∨ cr1_.toInt ≤ a_.toInt ∨ 7 ≤ a_.toInt) := h_58
      refine lv_if_eq (tgt := 33) hx hb dX11_lot_21 (by decide) (fun _ => ?_) (fun q => absurd (by decide) q)
      refine lv_iconst (v := (-1)) hx hb dX11_lot_33 (by decide) ?_
      have G := G.sub (bs' := [[zO10 xo t im mk rd po co tr wa wb_ fi cd], wt, z0_, z1_, wwA, wwB]) [0, 4, 1, 5, 2, 3] rfl
      exact z_back hQz_ (z_iret C hr hlocks G (Nat.le_of_ble_eq_true rfl) (by omega) dX11_lot_34 ⟨laA, mdA, wyA, pc_A, f1A, f2A, f3A, f4A, f5A, f6A, n4A, wwA, laB, mdB, wyB, pc_B, f1B, f2B, f3B, f4B, f5B, f6B, n4B, wwB, rfl, hwwA, hmdA, hwmA, (by first | exact hNAo.symm | exact (zNA_n (by first | omega | grind)).symm), hpwA, (fun q => q), hTbA, hwwB, hmdB, hwmB, (by first | exact hNAo.symm | exact (zNA_n (by first | omega | grind)).symm), hpwB, (fun q => q), hTbB, (Or.inr (Or.inr ⟨by first | with_reducible assumption | assumption, by first | with_reducible assumption | assumption, (by have q9 := hI1_.1; unfold kLot; rw [if_neg (fun q8 => by first | omega | (rcases hni with e9 | e9 | e9 | e9 <;> first | omega | exact zBit_o q8.2.2 e9))])⟩))⟩)
set_option maxHeartbeats 4000000 in
set_option maxRecDepth 100000 in
/-- c_f_mean -/
theorem c_f_mean (l : Launch) (T : zTy) (xo : Nat) (t : Nat) (im : Nat) (mk : Nat) (rd : Nat) (po : Nat) (co : Nat) (tr : Nat) (wa : Nat) (wb_ : Nat) (fi : Nat) (cd : Nat) (l0 : Nat) (l1 : Nat) (d0 : Nat) (d1 : Nat) (g0 : Nat) (g1 : Nat) (ln : Int32) (fl : Int32) (pl : Int32) (ft : Nat → Int32) (fk : Nat → Int32) (wt : va_W) (cr0_ : Int32) (inn0_ : Int32) (k10_ : Nat → Int32) (k20_ : Nat → Int32) (k30_ : Nat → Int32) (k40_ : Nat → Int32) (z0_ : va_W) (cr1_ : Int32) (inn1_ : Int32) (k11_ : Nat → Int32) (k21_ : Nat → Int32) (k31_ : Nat → Int32) (k41_ : Nat → Int32) (z1_ : va_W) (laA : Nat) (mdA : Int32) (wyA : Int32) (pc_A : Int32) (f1A : Nat → Int32) (f2A : Nat → Int32) (f3A : Nat → Int32) (f4A : Nat → Int32) (f5A : Nat → Int32) (f6A : Nat → Int32) (n4A : Nat) (wwA : va_W) (laB : Nat) (mdB : Int32) (wyB : Int32) (pc_B : Int32) (f1B : Nat → Int32) (f2B : Nat → Int32) (f3B : Nat → Int32) (f4B : Nat → Int32) (f5B : Nat → Int32) (f6B : Nat → Int32) (n4B : Nat) (wwB : va_W) (i1 : Int32) (a_ : Int32) (w_ : Int32) (ht : bTold T t l0 l1 d0 d1 g0 g1 ln fl pl ft fk wt) (hK : zKT fk) (hz0_ : bLand T l0 cr0_ inn0_ k10_ k20_ k30_ k40_ z0_) (hI0_ : zLI cr0_ k10_ k30_) (hz1_ : bLand T l1 cr1_ inn1_ k11_ k21_ k31_ k41_ z1_) (hI1_ : zLI cr1_ k11_ k31_) (hwwA : bWays T wa laA mdA wyA pc_A f1A f2A f3A f4A f5A f6A n4A wwA) (hpwA : zPw n4A) (hmdA : mdA = 0 ∨ laA = l0) (hwmA : 0 ≤ wyA.toInt ∧ wyA.toInt ≤ 16384) (hTbA : mdA = 0 ∨ zTab cr0_ inn0_ k10_ k20_ wyA pc_A f1A f2A f5A n4A) (hLq0 : zLq cr0_ k10_ k20_) (hwwB : bWays T wb_ laB mdB wyB pc_B f1B f2B f3B f4B f5B f6B n4B wwB) (hpwB : zPw n4B) (hmdB : mdB = 0 ∨ laB = l1) (hwmB : 0 ≤ wyB.toInt ∧ wyB.toInt ≤ 16384) (hTbB : mdB = 0 ∨ zTab cr1_ inn1_ k11_ k21_ wyB pc_B f1B f2B f5B n4B) (hLq1 : zLq cr1_ k11_ k21_) : zMi l T yX11_mean cX11_mean 8 (some .int) 7 3 (6 * (zNA (i1.toInt = 0 ∧ 0 < (fk 0).toInt ∧ 0 ≤ a_.toInt ∧ a_.toInt < cr0_.toInt ∧ a_.toInt < 7) mdA n4A (zPl cr0_ inn0_ k10_) - n4A) + 6 * (zNA (i1.toInt = 1 ∧ 1 < (fk 0).toInt ∧ 0 ≤ a_.toInt ∧ a_.toInt < cr1_.toInt ∧ a_.toInt < 7) mdB n4B (zPl cr1_ inn1_ k11_) - n4B)) [.ref xo, .int i1, .int a_, .int w_] [[zO10 xo t im mk rd po co tr wa wb_ fi cd], wt, z0_, z1_, wwA, wwB] (fun (r : Int32) bs => ∃ (laA_2 : Nat) (mdA_2 : Int32) (wyA_2 : Int32) (pc_A_2 : Int32) (f1A_2 : Nat → Int32) (f2A_2 : Nat → Int32) (f3A_2 : Nat → Int32) (f4A_2 : Nat → Int32) (f5A_2 : Nat → Int32) (f6A_2 : Nat → Int32) (n4A_2 : Nat) (wwA_2 : va_W) (laB_2 : Nat) (mdB_2 : Int32) (wyB_2 : Int32) (pc_B_2 : Int32) (f1B_2 : Nat → Int32) (f2B_2 : Nat → Int32) (f3B_2 : Nat → Int32) (f4B_2 : Nat → Int32) (f5B_2 : Nat → Int32) (f6B_2 : Nat → Int32) (n4B_2 : Nat) (wwB_2 : va_W), bs = [[zO10 xo t im mk rd po co tr wa wb_ fi cd], wt, z0_, z1_, wwA_2, wwB_2] ∧ bWays T wa laA_2 mdA_2 wyA_2 pc_A_2 f1A_2 f2A_2 f3A_2 f4A_2 f5A_2 f6A_2 n4A_2 wwA_2 ∧ (mdA_2 = 0 ∨ laA_2 = l0) ∧ (0 ≤ wyA_2.toInt ∧ wyA_2.toInt ≤ 16384) ∧ n4A_2 = zNA (i1.toInt = 0 ∧ 0 < (fk 0).toInt ∧ 0 ≤ a_.toInt ∧ a_.toInt < cr0_.toInt ∧ a_.toInt < 7) mdA n4A (zPl cr0_ inn0_ k10_) ∧ zPw n4A_2 ∧ (¬ mdA = 0 → ¬ mdA_2 = 0) ∧ (mdA_2 = 0 ∨ zTab cr0_ inn0_ k10_ k20_ wyA_2 pc_A_2 f1A_2 f2A_2 f5A_2 n4A_2) ∧ bWays T wb_ laB_2 mdB_2 wyB_2 pc_B_2 f1B_2 f2B_2 f3B_2 f4B_2 f5B_2 f6B_2 n4B_2 wwB_2 ∧ (mdB_2 = 0 ∨ laB_2 = l1) ∧ (0 ≤ wyB_2.toInt ∧ wyB_2.toInt ≤ 16384) ∧ n4B_2 = zNA (i1.toInt = 1 ∧ 1 < (fk 0).toInt ∧ 0 ≤ a_.toInt ∧ a_.toInt < cr1_.toInt ∧ a_.toInt < 7) mdB n4B (zPl cr1_ inn1_ k11_) ∧ zPw n4B_2 ∧ (¬ mdB = 0 → ¬ mdB_2 = 0) ∧ (mdB_2 = 0 ∨ zTab cr1_ inn1_ k11_ k21_ wyB_2 pc_B_2 f1B_2 f2B_2 f5B_2 n4B_2) ∧ ((i1.toInt < 0 ∨ (fk 0).toInt ≤ i1.toInt ∨ 2 ≤ i1.toInt) ∧ r = -1 ∨ i1.toInt = 0 ∧ 0 < (fk 0).toInt ∧ r = kMean cr0_ inn0_ k10_ k20_ k30_ a_ w_ ∨ i1.toInt = 1 ∧ 1 < (fk 0).toInt ∧ r = kMean cr1_ inn1_ k11_ k21_ k31_ a_ w_)) := by
  refine zMi_of (own := RX11) (by decide) rfl (Nat.le_of_ble_eq_true rfl) ?_
  intro p e s m args below meth c A ls C hr hlocks hnm hAe G hl
  refine zHide (fun Qz_ hQz_ => ?_)
  have hx := C.1
  have hb := C.2.1
  replace hmdA : zHd (mdA = 0 ∨ laA = l0) := hmdA
  replace hTbA : zHd (mdA = 0 ∨ zTab cr0_ inn0_ k10_ k20_ wyA pc_A f1A f2A f5A n4A) := hTbA
  replace hmdB : zHd (mdB = 0 ∨ laB = l1) := hmdB
  replace hTbB : zHd (mdB = 0 ∨ zTab cr1_ inn1_ k11_ k21_ wyB pc_B f1B f2B f5B n4B) := hTbB
  have hl : lv_has ls 8 [(0, .ref xo), (1, .int i1), (2, .int a_), (3, .int w_)] := hl
  refine lv_aload_n hx hb dX11_mean_0 rfl (lv_at hl 0 rfl) ?_
  refine z_get C G clX11 0 rfl 0 (by decide) m_fl_RX11_10 rfl dX11_mean_1 ?_
  refine lv_iload_n hx hb dX11_mean_4 rfl (lv_at hl 1 rfl) ?_
  refine z_Vq (bc := [wt]) (br := [[zO10 xo t im mk rd po co tr wa wb_ fi cd], z0_, z1_, wwA, wwB]) (As := [.int i1]) (rest := []) C G (c_landAt l T t l0 l1 d0 d1 g0 g1 ln fl pl ft fk wt i1 ht) (kV_RX11_121 C.2.2.2.2 (Nat.le_of_ble_eq_true rfl) (Nat.le_of_ble_eq_true rfl)) [1] [1] rfl rfl (ci := 8) (qc := (RX9, TX9, 8)) rfl rfl (List.mem_flatten.mpr ⟨_, List.mem_of_getElem? (i := 0) rfl, (bTold_mem ht).choose_spec⟩) rfl rfl hl.1 dX11_mean_5 (Nat.le_of_ble_eq_true rfl) (by show _ + 0 ≤ 6 * (zNA (i1.toInt = 0 ∧ 0 < (fk 0).toInt ∧ 0 ≤ a_.toInt ∧ a_.toInt < cr0_.toInt ∧ a_.toInt < 7) mdA n4A (zPl cr0_ inn0_ k10_) - n4A) + 6 * (zNA (i1.toInt = 1 ∧ 1 < (fk 0).toInt ∧ 0 ≤ a_.toInt ∧ a_.toInt < cr1_.toInt ∧ a_.toInt < 7) mdB n4B (zPl cr1_ inn1_ k11_) - n4B); omega) (fun r_2 b1 H locs hw G => ?_)
  refine zAn2 hw ?_
  intro hbs9 hc_1
  clear hw
  subst hbs9
  have G : zS T A s.heap s [[zO10 xo t im mk rd po co tr wa wb_ fi cd], z0_, z1_, wwA, wwB, wt] _ _ := G
  rcases hc_1 with ⟨rfl, h_3⟩ | ⟨rfl, h_4, h_5⟩ | ⟨rfl, h_6, h_7⟩
  · have h_3 : (i1.toInt < 0 ∨ (fk 0).toInt ≤ i1.toInt ∨ 2 ≤ i1.toInt) := h_3
    refine lv_astoreN (lv' := [(4, .null), (0, .ref xo), (1, .int i1), (2, .int a_), (3, .int w_)]) hx hb dX11_mean_8 hl (by decide) (zLvf_h rfl) (fun ls hl => ?_)
    refine lv_aloadN hx hb dX11_mean_10 (lv_at hl 0 rfl) ?_
    refine lv_ifnullN (tgt := 24) hx hb dX11_mean_12 (by decide) ?_
    refine lv_iconst (v := (-1)) hx hb dX11_mean_24 (by decide) ?_
    have G := G.sub (bs' := [[zO10 xo t im mk rd po co tr wa wb_ fi cd], wt, z0_, z1_, wwA, wwB]) [0, 5, 1, 2, 3, 4] rfl
    exact z_back hQz_ (z_iret C hr hlocks G (Nat.le_of_ble_eq_true rfl) (by omega) dX11_mean_25 ⟨laA, mdA, wyA, pc_A, f1A, f2A, f3A, f4A, f5A, f6A, n4A, wwA, laB, mdB, wyB, pc_B, f1B, f2B, f3B, f4B, f5B, f6B, n4B, wwB, rfl, hwwA, hmdA, hwmA, (by first | exact hNAo.symm | exact (zNA_n (by first | omega | grind)).symm), hpwA, (fun q => q), hTbA, hwwB, hmdB, hwmB, (by first | exact hNAo.symm | exact (zNA_n (by first | omega | grind)).symm), hpwB, (fun q => q), hTbB, (Or.inl ⟨by first | with_reducible assumption | assumption, rfl⟩)⟩)
  · have h_4 : i1.toInt = 0 := h_4
    have h_5 : 0 < (fk 0).toInt := h_5
    refine lv_astore (lv' := [(4, .ref l0), (0, .ref xo), (1, .int i1), (2, .int a_), (3, .int w_)]) hx hb dX11_mean_8 hl (by decide) (zLvf_h rfl) (fun ls hl => ?_)
    refine lv_aload hx hb dX11_mean_10 (lv_at hl 0 rfl) ?_
    refine lv_ifnull hx hb dX11_mean_12 ?_
    refine lv_aload hx hb dX11_mean_15 (lv_at hl 0 rfl) ?_
    refine lv_iload_n hx hb dX11_mean_17 rfl (lv_at hl 3 rfl) ?_
    refine z_Vi (bc := [z0_]) (br := [[zO10 xo t im mk rd po co tr wa wb_ fi cd], z1_, wwA, wwB, wt]) (As := [.int a_]) (rest := []) C G (c_has l T l0 cr0_ inn0_ k10_ k20_ k30_ k40_ z0_ a_ hz0_) (kV_RX11_160 C.2.2.2.2 (Nat.le_of_ble_eq_true rfl) (Nat.le_of_ble_eq_true rfl)) [1] [1] rfl rfl (ci := 4) (qc := (RX4, TX4, 6)) rfl rfl (List.mem_flatten.mpr ⟨_, List.mem_of_getElem? (i := 0) rfl, (bLand_mem hz0_).choose_spec⟩) rfl rfl hl.1 dX11_mean_18 (Nat.le_of_ble_eq_true rfl) (by show _ + 0 ≤ 6 * (zNA (i1.toInt = 0 ∧ 0 < (fk 0).toInt ∧ 0 ≤ a_.toInt ∧ a_.toInt < cr0_.toInt ∧ a_.toInt < 7) mdA n4A (zPl cr0_ inn0_ k10_) - n4A) + 6 * (zNA (i1.toInt = 1 ∧ 1 < (fk 0).toInt ∧ 0 ≤ a_.toInt ∧ a_.toInt < cr1_.toInt ∧ a_.toInt < 7) mdB n4B (zPl cr1_ inn1_ k11_) - n4B); omega) (fun r_9 b1 H locs hw G => ?_)
    refine zAn2 hw ?_
    intro hbs9 hc_8
    clear hw
    subst hbs9
    have G : zS T A s.heap s [[zO10 xo t im mk rd po co tr wa wb_ fi cd], z1_, wwA, wwB, wt, z0_] _ _ := G
    rcases hc_8 with ⟨rfl, h_10, h_11, h_12⟩ | ⟨rfl, h_13⟩
    · have h_10 : 0 ≤ a_.toInt := h_10
      have h_11 : a_.toInt < cr0_.toInt := h_11
      have h_12 : a_.toInt < 7 := h_12
      refine lv_if_ne (tgt := 26) hx hb dX11_mean_21 (by decide) (fun _ => ?_) (fun q => absurd q (by decide))
      refine lv_aload_n hx hb dX11_mean_26 rfl (lv_at hl 1 rfl) ?_
      refine lv_iload_n hx hb dX11_mean_27 rfl (lv_at hl 2 rfl) ?_
      refine lv_aload hx hb dX11_mean_28 (lv_at hl 0 rfl) ?_
      have hNAm : zNA (i1.toInt = 0 ∧ 0 < (fk 0).toInt ∧ 0 ≤ a_.toInt ∧ a_.toInt < cr0_.toInt ∧ a_.toInt < 7) mdA n4A (zPl cr0_ inn0_ k10_) = zMk mdA n4A (zPl cr0_ inn0_ k10_) := zNA_y (by first | omega | (repeat' (first | omega | assumption | constructor)))
      have hNAo : zNA (i1.toInt = 1 ∧ 1 < (fk 0).toInt ∧ 0 ≤ a_.toInt ∧ a_.toInt < cr1_.toInt ∧ a_.toInt < 7) mdB n4B (zPl cr1_ inn1_ k11_) = n4B := zNA_n (by omega)
      have hn9 : zMk mdA n4A (zPl cr0_ inn0_ k10_) ≤ 131072 := zPw_le (zMk_pw hpwA)
      refine z_Vq (bc := [[zO10 xo t im mk rd po co tr wa wb_ fi cd], wwA, z0_]) (br := [z1_, wwB, wt]) (As := [.int i1, .ref l0]) (rest := []) C G (c_f_waysInA l T xo t im mk rd po co tr wa wb_ fi cd i1 laA mdA wyA pc_A f1A f2A f3A f4A f5A f6A n4A wwA l0 cr0_ inn0_ k10_ k20_ k30_ k40_ z0_ hwwA hz0_ hI0_ hpwA hmdA (kaOk hI0_ hLq0).1 hTbA (by omega)) (kV_RX11_235 C.2.2.2.2 (Nat.le_of_ble_eq_true rfl) (Nat.le_of_ble_eq_true rfl)) [0, 2, 5] [0, 1, 2] rfl rfl (ci := 10) (qc := (RX11, TX11, 11)) rfl rfl (List.mem_flatten.mpr ⟨_, List.mem_of_getElem? (i := 0) rfl, List.mem_cons_self⟩) rfl rfl hl.1 dX11_mean_30 (Nat.le_of_ble_eq_true rfl) (by show _ + (6 * (zMk mdA n4A (zPl cr0_ inn0_ k10_) - n4A)) ≤ 6 * (zNA (i1.toInt = 0 ∧ 0 < (fk 0).toInt ∧ 0 ≤ a_.toInt ∧ a_.toInt < cr0_.toInt ∧ a_.toInt < 7) mdA n4A (zPl cr0_ inn0_ k10_) - n4A) + 6 * (zNA (i1.toInt = 1 ∧ 1 < (fk 0).toInt ∧ 0 ≤ a_.toInt ∧ a_.toInt < cr1_.toInt ∧ a_.toInt < 7) mdB n4B (zPl cr1_ inn1_ k11_) - n4B); omega) (fun r_28 b1 H locs hw G => ?_)
      refine zEx9 hw ?_
      intro w2_14 m2_15 wy2_16 pc2_17 g1_18 g2_19 g4_20 g5_21 g6_22
      refine zCu6 ?_
      intro hbs9 h_23 h_24 h_25 h_26 h_27
      clear hw
      subst hbs9
      have G : zS T A s.heap s [z1_, wwB, wt, [zO10 xo t im mk rd po co tr wa wb_ fi cd], w2_14, z0_] _ _ := G
      subst h_23
      have hwy9 : 0 ≤ wy2_16.toInt ∧ wy2_16.toInt ≤ 16384 := by have q9 := zWy_in (inn := inn0_) hI0_; rw [h_25]; exact ⟨by omega, q9.2⟩
      have hp79 : aPr (aW cr0_ inn0_ k10_) 7 ≤ 16384 := aPr_7 hI0_
      have hwN9 : wy2_16 = nI (aPr (aW cr0_ inn0_ k10_) 7) := h_25.trans (zWy_z hI0_)
      have hwT9 : wy2_16.toInt = ((aPr (aW cr0_ inn0_ k10_) 7 : Nat) : Int) := by rw [hwN9, nI_toInt (by omega)]
      have hOk9 := (kaOk (inn := inn0_) hI0_ hLq0).1
      have hc79 := hI0_.1
      refine lv_astore (lv' := [(5, .ref wa), (4, .ref l0), (0, .ref xo), (1, .int i1), (2, .int a_), (3, .int w_)]) hx hb dX11_mean_33 hl (by decide) (zLvf_h rfl) (fun ls hl => ?_)
      refine lv_iconst (v := 0) hx hb dX11_mean_35 (by decide) ?_
      refine lv_istore (lv' := [(6, .int 0), (5, .ref wa), (4, .ref l0), (0, .ref xo), (1, .int i1), (2, .int a_), (3, .int w_)]) hx hb dX11_mean_36 hl (by decide) (zLvf_h rfl) (fun ls hl => ?_)
      refine lv_iconst (v := 0) hx hb dX11_mean_38 (by decide) ?_
      refine lv_istore (lv' := [(7, .int 0), (6, .int 0), (5, .ref wa), (4, .ref l0), (0, .ref xo), (1, .int i1), (2, .int a_), (3, .int w_)]) hx hb dX11_mean_39 hl (by decide) (zLvf_h rfl) (fun ls hl => ?_)
      refine zEx6 h_24 ?_
      intro a1_29 a2_30 a3_31 a4_32 a5_33 a6_34 hbs9
      clear h_24
      subst hbs9
      have G : zS T A s.heap s [z1_, wwB, wt, [zO10 xo t im mk rd po co tr wa wb_ fi cd], [zO0 wa m2_15 wy2_16 l0 pc2_17 a1_29 a2_30 a3_31 a4_32 a5_33 a6_34], [zAr T 0 a1_29 7 g1_18], [zAr T 0 a2_30 7 g2_19], [zAr T 0 a3_31 7 f3A], [zAr T 0 a4_32 (zMk mdA n4A (zPl cr0_ inn0_ k10_)) g4_20], [zAr T 0 a5_33 (zMk mdA n4A (zPl cr0_ inn0_ k10_)) g5_21], [zAr T 0 a6_34 (zMk mdA n4A (zPl cr0_ inn0_ k10_)) g6_22], z0_] _ _ := G.re rfl
      have hw_35 : bWays T wa l0 m2_15 wy2_16 pc2_17 g1_18 g2_19 f3A g4_20 g5_21 g6_22 (zMk mdA n4A (zPl cr0_ inn0_ k10_)) [zO0 wa m2_15 wy2_16 l0 pc2_17 a1_29 a2_30 a3_31 a4_32 a5_33 a6_34, zAr T 0 a1_29 7 g1_18, zAr T 0 a2_30 7 g2_19, zAr T 0 a3_31 7 f3A, zAr T 0 a4_32 (zMk mdA n4A (zPl cr0_ inn0_ k10_)) g4_20, zAr T 0 a5_33 (zMk mdA n4A (zPl cr0_ inn0_ k10_)) g5_21, zAr T 0 a6_34 (zMk mdA n4A (zPl cr0_ inn0_ k10_)) g6_22] := ⟨a1_29, a2_30, a3_31, a4_32, a5_33, a6_34, rfl⟩
      have G : zS T A s.heap s [z1_, wwB, wt, [zO10 xo t im mk rd po co tr wa wb_ fi cd], [zO0 wa m2_15 wy2_16 l0 pc2_17 a1_29 a2_30 a3_31 a4_32 a5_33 a6_34, zAr T 0 a1_29 7 g1_18, zAr T 0 a2_30 7 g2_19, zAr T 0 a3_31 7 f3A, zAr T 0 a4_32 (zMk mdA n4A (zPl cr0_ inn0_ k10_)) g4_20, zAr T 0 a5_33 (zMk mdA n4A (zPl cr0_ inn0_ k10_)) g5_21, zAr T 0 a6_34 (zMk mdA n4A (zPl cr0_ inn0_ k10_)) g6_22], z0_] _ _ := G.re rfl
      refine z_lp2 (T := T) 41 (fun (i : Nat) (sm : Nat) => [z1_, wwB, wt, [zO10 xo t im mk rd po co tr wa wb_ fi cd], [zO0 wa m2_15 wy2_16 l0 pc2_17 a1_29 a2_30 a3_31 a4_32 a5_33 a6_34, zAr T 0 a1_29 7 g1_18, zAr T 0 a2_30 7 g2_19, zAr T 0 a3_31 7 f3A, zAr T 0 a4_32 (zMk mdA n4A (zPl cr0_ inn0_ k10_)) g4_20, zAr T 0 a5_33 (zMk mdA n4A (zPl cr0_ inn0_ k10_)) g5_21, zAr T 0 a6_34 (zMk mdA n4A (zPl cr0_ inn0_ k10_)) g6_22], z0_]) (fun (i : Nat) (sm : Nat) => [(7, .int (nI i)), (6, .int (nI sm)), (5, .ref wa), (4, .ref l0), (0, .ref xo), (1, .int i1), (2, .int a_), (3, .int w_)]) (fun (i : Nat) (sm : Nat) => i ≤ aPr (aW cr0_ inn0_ k10_) 7 ∧ rAll (fun w => decide (zBit inn0_ (rWh (aW cr0_ inn0_ k10_) k20_ w a_) = 1)) i = true ∧ sm = rSu (fun w => rStp (aW cr0_ inn0_ k10_) k20_ w a_) i) (fun (i : Nat) (sm : Nat) => aPr (aW cr0_ inn0_ k10_) 7 - i) ?_ 0 0 (show 0 ≤ aPr (aW cr0_ inn0_ k10_) 7 ∧ rAll (fun w => decide (zBit inn0_ (rWh (aW cr0_ inn0_ k10_) k20_ w a_) = 1)) 0 = true ∧ 0 = rSu (fun w => rStp (aW cr0_ inn0_ k10_) k20_ w a_) 0 from ⟨(Nat.zero_le _), rfl, rfl⟩) G (lv_sub hl [0, 1, 2, 3, 4, 5, 6, 7] rfl)
      intro i sm hI9 ih_41 H locs ls G hl
      replace hI9 : i ≤ aPr (aW cr0_ inn0_ k10_) 7 ∧ rAll (fun w => decide (zBit inn0_ (rWh (aW cr0_ inn0_ k10_) k20_ w a_) = 1)) i = true ∧ sm = rSu (fun w => rStp (aW cr0_ inn0_ k10_) k20_ w a_) i := hI9
      refine zAn3 hI9 ?_
      intro hi hal hsm
      clear hI9
      replace G : zS T A s.heap s [z1_, wwB, wt, [zO10 xo t im mk rd po co tr wa wb_ fi cd], [zO0 wa m2_15 wy2_16 l0 pc2_17 a1_29 a2_30 a3_31 a4_32 a5_33 a6_34, zAr T 0 a1_29 7 g1_18, zAr T 0 a2_30 7 g2_19, zAr T 0 a3_31 7 f3A, zAr T 0 a4_32 (zMk mdA n4A (zPl cr0_ inn0_ k10_)) g4_20, zAr T 0 a5_33 (zMk mdA n4A (zPl cr0_ inn0_ k10_)) g5_21, zAr T 0 a6_34 (zMk mdA n4A (zPl cr0_ inn0_ k10_)) g6_22], z0_] _ _ := G
      replace hl : lv_has ls 8 [(7, .int (nI i)), (6, .int (nI sm)), (5, .ref wa), (4, .ref l0), (0, .ref xo), (1, .int i1), (2, .int a_), (3, .int w_)] := hl
      refine lv_iload hx hb dX11_mean_41 (lv_at hl 0 rfl) ?_
      refine lv_aload hx hb dX11_mean_43 (lv_at hl 2 rfl) ?_
      have G : zS T A s.heap s [z1_, wwB, wt, [zO10 xo t im mk rd po co tr wa wb_ fi cd], [zO0 wa m2_15 wy2_16 l0 pc2_17 a1_29 a2_30 a3_31 a4_32 a5_33 a6_34], [zAr T 0 a1_29 7 g1_18], [zAr T 0 a2_30 7 g2_19], [zAr T 0 a3_31 7 f3A], [zAr T 0 a4_32 (zMk mdA n4A (zPl cr0_ inn0_ k10_)) g4_20], [zAr T 0 a5_33 (zMk mdA n4A (zPl cr0_ inn0_ k10_)) g5_21], [zAr T 0 a6_34 (zMk mdA n4A (zPl cr0_ inn0_ k10_)) g6_22], z0_] _ _ := G.re rfl
      refine z_get C G clX0 4 rfl 1 (by decide) m_fl_RX11_257 rfl dX11_mean_45 ?_
      refine lv_icmp_ge (tgt := 88) hx hb dX11_mean_48 (by decide) (fun c_36 => ?_) (fun c_36 => ?_)
      · have c_36n : wy2_16.toInt ≤ (i : Int) := by have q := (fa_le _ _).mp c_36; rw [nI_toInt (n := i) (by omega)] at q; exact q
        have hsl9 := rSu_le (g := (fun w => rStp (aW cr0_ inn0_ k10_) k20_ w a_)) (m := 499) i (fun w _ => rStp_le)
        refine lv_iload hx hb dX11_mean_88 (lv_at hl 1 rfl) ?_
        refine lv_aload hx hb dX11_mean_90 (lv_at hl 2 rfl) ?_
        refine z_get C G clX0 4 rfl 1 (by decide) m_fl_RX11_257 rfl dX11_mean_92 ?_
        refine lv_topi (fun y_37 ey_37 => ?_)
        obtain rfl : y_37 = nI (aPr (aW cr0_ inn0_ k10_) 7) := ey_37.trans (hwN9)
        refine lv_iload_n hx hb dX11_mean_95 rfl (lv_at hl 7 rfl) ?_
        refine z_Si (bc := []) (br := [z1_, wwB, wt, [zO10 xo t im mk rd po co tr wa wb_ fi cd], [zO0 wa m2_15 wy2_16 l0 pc2_17 a1_29 a2_30 a3_31 a4_32 a5_33 a6_34], [zAr T 0 a1_29 7 g1_18], [zAr T 0 a2_30 7 g2_19], [zAr T 0 a3_31 7 f3A], [zAr T 0 a4_32 (zMk mdA n4A (zPl cr0_ inn0_ k10_)) g4_20], [zAr T 0 a5_33 (zMk mdA n4A (zPl cr0_ inn0_ k10_)) g5_21], [zAr T 0 a6_34 (zMk mdA n4A (zPl cr0_ inn0_ k10_)) g6_22], z0_]) (As := [.int (nI sm), .int (nI (aPr (aW cr0_ inn0_ k10_) 7)), .int w_]) (rest := []) C G (c_f_inLeastTerms l T sm (aPr (aW cr0_ inn0_ k10_) 7) w_ (by omega) (aPr_p _) hp79) (kS_RX11_262 C.2.2.2.2 (Nat.le_of_ble_eq_true rfl) (Nat.le_of_ble_eq_true rfl)) [] [] rfl rfl rfl rfl hl.1 dX11_mean_96 (Nat.le_of_ble_eq_true rfl) (by show _ + 0 ≤ 6 * (zNA (i1.toInt = 0 ∧ 0 < (fk 0).toInt ∧ 0 ≤ a_.toInt ∧ a_.toInt < cr0_.toInt ∧ a_.toInt < 7) mdA n4A (zPl cr0_ inn0_ k10_) - n4A) + 6 * (zNA (i1.toInt = 1 ∧ 1 < (fk 0).toInt ∧ 0 ≤ a_.toInt ∧ a_.toInt < cr1_.toInt ∧ a_.toInt < 7) mdB n4B (zPl cr1_ inn1_ k11_) - n4B); omega) (fun r_39 b1 H locs hw G => ?_)
        refine zAn2 hw ?_
        intro hbs9 h_38
        clear hw
        subst hbs9
        have G : zS T A s.heap s [z1_, wwB, wt, [zO10 xo t im mk rd po co tr wa wb_ fi cd], [zO0 wa m2_15 wy2_16 l0 pc2_17 a1_29 a2_30 a3_31 a4_32 a5_33 a6_34], [zAr T 0 a1_29 7 g1_18], [zAr T 0 a2_30 7 g2_19], [zAr T 0 a3_31 7 f3A], [zAr T 0 a4_32 (zMk mdA n4A (zPl cr0_ inn0_ k10_)) g4_20], [zAr T 0 a5_33 (zMk mdA n4A (zPl cr0_ inn0_ k10_)) g5_21], [zAr T 0 a6_34 (zMk mdA n4A (zPl cr0_ inn0_ k10_)) g6_22], z0_] _ _ := G
        have hw_40 : bWays T wa l0 m2_15 wy2_16 pc2_17 g1_18 g2_19 f3A g4_20 g5_21 g6_22 (zMk mdA n4A (zPl cr0_ inn0_ k10_)) [zO0 wa m2_15 wy2_16 l0 pc2_17 a1_29 a2_30 a3_31 a4_32 a5_33 a6_34, zAr T 0 a1_29 7 g1_18, zAr T 0 a2_30 7 g2_19, zAr T 0 a3_31 7 f3A, zAr T 0 a4_32 (zMk mdA n4A (zPl cr0_ inn0_ k10_)) g4_20, zAr T 0 a5_33 (zMk mdA n4A (zPl cr0_ inn0_ k10_)) g5_21, zAr T 0 a6_34 (zMk mdA n4A (zPl cr0_ inn0_ k10_)) g6_22] := ⟨a1_29, a2_30, a3_31, a4_32, a5_33, a6_34, rfl⟩
        have G : zS T A s.heap s [z1_, wwB, wt, [zO10 xo t im mk rd po co tr wa wb_ fi cd], [zO0 wa m2_15 wy2_16 l0 pc2_17 a1_29 a2_30 a3_31 a4_32 a5_33 a6_34, zAr T 0 a1_29 7 g1_18, zAr T 0 a2_30 7 g2_19, zAr T 0 a3_31 7 f3A, zAr T 0 a4_32 (zMk mdA n4A (zPl cr0_ inn0_ k10_)) g4_20, zAr T 0 a5_33 (zMk mdA n4A (zPl cr0_ inn0_ k10_)) g5_21, zAr T 0 a6_34 (zMk mdA n4A (zPl cr0_ inn0_ k10_)) g6_22], z0_] _ _ := G.re rfl
        have G := G.sub (bs' := [[zO10 xo t im mk rd po co tr wa wb_ fi cd], wt, z0_, z1_, [zO0 wa m2_15 wy2_16 l0 pc2_17 a1_29 a2_30 a3_31 a4_32 a5_33 a6_34, zAr T 0 a1_29 7 g1_18, zAr T 0 a2_30 7 g2_19, zAr T 0 a3_31 7 f3A, zAr T 0 a4_32 (zMk mdA n4A (zPl cr0_ inn0_ k10_)) g4_20, zAr T 0 a5_33 (zMk mdA n4A (zPl cr0_ inn0_ k10_)) g5_21, zAr T 0 a6_34 (zMk mdA n4A (zPl cr0_ inn0_ k10_)) g6_22], wwB]) [3, 2, 5, 0, 4, 1] rfl
        exact z_back hQz_ (z_iret C hr hlocks G (Nat.le_of_ble_eq_true rfl) (by omega) dX11_mean_99 ⟨l0, m2_15, wy2_16, pc2_17, g1_18, g2_19, f3A, g4_20, g5_21, g6_22, (zMk mdA n4A (zPl cr0_ inn0_ k10_)), ([zO0 wa m2_15 wy2_16 l0 pc2_17 a1_29 a2_30 a3_31 a4_32 a5_33 a6_34, zAr T 0 a1_29 7 g1_18, zAr T 0 a2_30 7 g2_19, zAr T 0 a3_31 7 f3A, zAr T 0 a4_32 (zMk mdA n4A (zPl cr0_ inn0_ k10_)) g4_20, zAr T 0 a5_33 (zMk mdA n4A (zPl cr0_ inn0_ k10_)) g5_21, zAr T 0 a6_34 (zMk mdA n4A (zPl cr0_ inn0_ k10_)) g6_22]), laB, mdB, wyB, pc_B, f1B, f2B, f3B, f4B, f5B, f6B, n4B, wwB, rfl, hw_40, (Or.inr rfl), hwy9, hNAm.symm, (zMk_pw hpwA), (fun _ => h_26), (Or.inr h_27), hwwB, hmdB, hwmB, (by first | exact hNAo.symm | exact (zNA_n (by first | omega | grind)).symm), hpwB, (fun q => q), hTbB, (Or.inr (Or.inl ⟨by first | with_reducible assumption | assumption, by first | with_reducible assumption | assumption, (by unfold kMean; rw [if_pos ⟨by omega, by omega⟩]; unfold rMean; rw [show i = aPr (aW cr0_ inn0_ k10_) 7 by omega] at hal hsm; rw [h_38, hsm]; exact (if_pos hal).symm)⟩))⟩)
      · have c_36n : ¬ wy2_16.toInt ≤ (i : Int) := fun q => c_36 ((fa_le _ _).mpr (by rw [nI_toInt (n := i) (by omega)]; exact q))
        have hE9 := zEnt_w (w := i) (x := a_) hI0_ hOk9 h_27 (by omega) ⟨by omega, by omega, by omega⟩
        have hB9 := zEnt_b (inn := inn0_) (w := i) (x := a_) hI0_ hLq0 (by omega) ⟨by omega, by omega, by omega⟩
        refine lv_aload hx hb dX11_mean_51 (lv_at hl 3 rfl) ?_
        refine lv_aload hx hb dX11_mean_53 (lv_at hl 2 rfl) ?_
        refine lv_iload hx hb dX11_mean_55 (lv_at hl 0 rfl) ?_
        refine lv_iload_n hx hb dX11_mean_57 rfl (lv_at hl 6 rfl) ?_
        have hw_41 : bWays T wa l0 m2_15 wy2_16 pc2_17 g1_18 g2_19 f3A g4_20 g5_21 g6_22 (zMk mdA n4A (zPl cr0_ inn0_ k10_)) [zO0 wa m2_15 wy2_16 l0 pc2_17 a1_29 a2_30 a3_31 a4_32 a5_33 a6_34, zAr T 0 a1_29 7 g1_18, zAr T 0 a2_30 7 g2_19, zAr T 0 a3_31 7 f3A, zAr T 0 a4_32 (zMk mdA n4A (zPl cr0_ inn0_ k10_)) g4_20, zAr T 0 a5_33 (zMk mdA n4A (zPl cr0_ inn0_ k10_)) g5_21, zAr T 0 a6_34 (zMk mdA n4A (zPl cr0_ inn0_ k10_)) g6_22] := ⟨a1_29, a2_30, a3_31, a4_32, a5_33, a6_34, rfl⟩
        have G : zS T A s.heap s [z1_, wwB, wt, [zO10 xo t im mk rd po co tr wa wb_ fi cd], [zO0 wa m2_15 wy2_16 l0 pc2_17 a1_29 a2_30 a3_31 a4_32 a5_33 a6_34, zAr T 0 a1_29 7 g1_18, zAr T 0 a2_30 7 g2_19, zAr T 0 a3_31 7 f3A, zAr T 0 a4_32 (zMk mdA n4A (zPl cr0_ inn0_ k10_)) g4_20, zAr T 0 a5_33 (zMk mdA n4A (zPl cr0_ inn0_ k10_)) g5_21, zAr T 0 a6_34 (zMk mdA n4A (zPl cr0_ inn0_ k10_)) g6_22], z0_] _ _ := G.re rfl
        refine z_Vi (bc := [[zO0 wa m2_15 wy2_16 l0 pc2_17 a1_29 a2_30 a3_31 a4_32 a5_33 a6_34, zAr T 0 a1_29 7 g1_18, zAr T 0 a2_30 7 g2_19, zAr T 0 a3_31 7 f3A, zAr T 0 a4_32 (zMk mdA n4A (zPl cr0_ inn0_ k10_)) g4_20, zAr T 0 a5_33 (zMk mdA n4A (zPl cr0_ inn0_ k10_)) g5_21, zAr T 0 a6_34 (zMk mdA n4A (zPl cr0_ inn0_ k10_)) g6_22]]) (br := [z1_, wwB, wt, [zO10 xo t im mk rd po co tr wa wb_ fi cd], z0_]) (As := [.int (nI i), .int a_]) (rest := [.ref l0]) C G (c_where l T wa l0 m2_15 wy2_16 pc2_17 g1_18 g2_19 f3A g4_20 g5_21 g6_22 (zMk mdA n4A (zPl cr0_ inn0_ k10_)) ([zO0 wa m2_15 wy2_16 l0 pc2_17 a1_29 a2_30 a3_31 a4_32 a5_33 a6_34, zAr T 0 a1_29 7 g1_18, zAr T 0 a2_30 7 g2_19, zAr T 0 a3_31 7 f3A, zAr T 0 a4_32 (zMk mdA n4A (zPl cr0_ inn0_ k10_)) g4_20, zAr T 0 a5_33 (zMk mdA n4A (zPl cr0_ inn0_ k10_)) g5_21, zAr T 0 a6_34 (zMk mdA n4A (zPl cr0_ inn0_ k10_)) g6_22]) (nI i) a_ hw_41 (by first | with_reducible assumption | with_reducible rfl | omega | assumption | rfl)) (kV_RX11_260 C.2.2.2.2 (Nat.le_of_ble_eq_true rfl) (Nat.le_of_ble_eq_true rfl)) [4] [4] rfl rfl (ci := 0) (qc := (RX0, TX0, 10)) rfl rfl (List.mem_flatten.mpr ⟨_, List.mem_of_getElem? (i := 0) rfl, (bWays_mem hw_41).choose_spec⟩) rfl rfl hl.1 dX11_mean_58 (Nat.le_of_ble_eq_true rfl) (by show _ + 0 ≤ 6 * (zNA (i1.toInt = 0 ∧ 0 < (fk 0).toInt ∧ 0 ≤ a_.toInt ∧ a_.toInt < cr0_.toInt ∧ a_.toInt < 7) mdA n4A (zPl cr0_ inn0_ k10_) - n4A) + 6 * (zNA (i1.toInt = 1 ∧ 1 < (fk 0).toInt ∧ 0 ≤ a_.toInt ∧ a_.toInt < cr1_.toInt ∧ a_.toInt < 7) mdB n4B (zPl cr1_ inn1_ k11_) - n4B); omega) (fun r_43 b1 H locs hw G => ?_)
        refine zAn2 hw ?_
        intro hbs9 h_42
        clear hw
        subst hbs9
        have G : zS T A s.heap s [z1_, wwB, wt, [zO10 xo t im mk rd po co tr wa wb_ fi cd], z0_, [zO0 wa m2_15 wy2_16 l0 pc2_17 a1_29 a2_30 a3_31 a4_32 a5_33 a6_34, zAr T 0 a1_29 7 g1_18, zAr T 0 a2_30 7 g2_19, zAr T 0 a3_31 7 f3A, zAr T 0 a4_32 (zMk mdA n4A (zPl cr0_ inn0_ k10_)) g4_20, zAr T 0 a5_33 (zMk mdA n4A (zPl cr0_ inn0_ k10_)) g5_21, zAr T 0 a6_34 (zMk mdA n4A (zPl cr0_ inn0_ k10_)) g6_22]] _ _ := G
        subst h_42
        refine lv_topi (fun y_44 ey_44 => ?_)
        obtain rfl : y_44 = (rWh (aW cr0_ inn0_ k10_) k20_ i a_) := ey_44.trans (hE9.1)
        refine z_Vi (bc := [z0_]) (br := [z1_, wwB, wt, [zO10 xo t im mk rd po co tr wa wb_ fi cd], [zO0 wa m2_15 wy2_16 l0 pc2_17 a1_29 a2_30 a3_31 a4_32 a5_33 a6_34, zAr T 0 a1_29 7 g1_18, zAr T 0 a2_30 7 g2_19, zAr T 0 a3_31 7 f3A, zAr T 0 a4_32 (zMk mdA n4A (zPl cr0_ inn0_ k10_)) g4_20, zAr T 0 a5_33 (zMk mdA n4A (zPl cr0_ inn0_ k10_)) g5_21, zAr T 0 a6_34 (zMk mdA n4A (zPl cr0_ inn0_ k10_)) g6_22]]) (As := [.int (rWh (aW cr0_ inn0_ k10_) k20_ i a_)]) (rest := []) C G (c_isInn l T l0 cr0_ inn0_ k10_ k20_ k30_ k40_ z0_ (rWh (aW cr0_ inn0_ k10_) k20_ i a_) hz0_) (kV_RX11_174 C.2.2.2.2 (Nat.le_of_ble_eq_true rfl) (Nat.le_of_ble_eq_true rfl)) [4] [4] rfl rfl (ci := 4) (qc := (RX4, TX4, 6)) rfl rfl (List.mem_flatten.mpr ⟨_, List.mem_of_getElem? (i := 0) rfl, (bLand_mem hz0_).choose_spec⟩) rfl rfl hl.1 dX11_mean_61 (Nat.le_of_ble_eq_true rfl) (by show _ + 0 ≤ 6 * (zNA (i1.toInt = 0 ∧ 0 < (fk 0).toInt ∧ 0 ≤ a_.toInt ∧ a_.toInt < cr0_.toInt ∧ a_.toInt < 7) mdA n4A (zPl cr0_ inn0_ k10_) - n4A) + 6 * (zNA (i1.toInt = 1 ∧ 1 < (fk 0).toInt ∧ 0 ≤ a_.toInt ∧ a_.toInt < cr1_.toInt ∧ a_.toInt < 7) mdB n4B (zPl cr1_ inn1_ k11_) - n4B); omega) (fun r_46 b1 H locs hw G => ?_)
        refine zAn2 hw ?_
        intro hbs9 hc_45
        clear hw
        subst hbs9
        have G : zS T A s.heap s [z1_, wwB, wt, [zO10 xo t im mk rd po co tr wa wb_ fi cd], [zO0 wa m2_15 wy2_16 l0 pc2_17 a1_29 a2_30 a3_31 a4_32 a5_33 a6_34, zAr T 0 a1_29 7 g1_18, zAr T 0 a2_30 7 g2_19, zAr T 0 a3_31 7 f3A, zAr T 0 a4_32 (zMk mdA n4A (zPl cr0_ inn0_ k10_)) g4_20, zAr T 0 a5_33 (zMk mdA n4A (zPl cr0_ inn0_ k10_)) g5_21, zAr T 0 a6_34 (zMk mdA n4A (zPl cr0_ inn0_ k10_)) g6_22], z0_] _ _ := G
        rcases hc_45 with ⟨rfl, h_47, h_48, h_49, h_50⟩ | ⟨rfl, h_51⟩
        · have h_47 : 0 ≤ (rWh (aW cr0_ inn0_ k10_) k20_ i a_).toInt := h_47
          have h_48 : (rWh (aW cr0_ inn0_ k10_) k20_ i a_).toInt < cr0_.toInt := h_48
          have h_49 : (rWh (aW cr0_ inn0_ k10_) k20_ i a_).toInt < 7 := h_49
          have h_50 : ¬ zBit inn0_ (rWh (aW cr0_ inn0_ k10_) k20_ i a_) = 0 := h_50
          have hyi := zBit_p h_50
          refine lv_if_ne (tgt := 69) hx hb dX11_mean_64 (by decide) (fun _ => ?_) (fun q => absurd q (by decide))
          refine lv_iload hx hb dX11_mean_69 (lv_at hl 1 rfl) ?_
          refine lv_aload hx hb dX11_mean_71 (lv_at hl 2 rfl) ?_
          refine lv_iload hx hb dX11_mean_73 (lv_at hl 0 rfl) ?_
          refine lv_iload_n hx hb dX11_mean_75 rfl (lv_at hl 6 rfl) ?_
          refine z_Vi (bc := [[zO0 wa m2_15 wy2_16 l0 pc2_17 a1_29 a2_30 a3_31 a4_32 a5_33 a6_34, zAr T 0 a1_29 7 g1_18, zAr T 0 a2_30 7 g2_19, zAr T 0 a3_31 7 f3A, zAr T 0 a4_32 (zMk mdA n4A (zPl cr0_ inn0_ k10_)) g4_20, zAr T 0 a5_33 (zMk mdA n4A (zPl cr0_ inn0_ k10_)) g5_21, zAr T 0 a6_34 (zMk mdA n4A (zPl cr0_ inn0_ k10_)) g6_22]]) (br := [z1_, wwB, wt, [zO10 xo t im mk rd po co tr wa wb_ fi cd], z0_]) (As := [.int (nI i), .int a_]) (rest := [.int (nI sm)]) C G (c_steps l T wa l0 m2_15 wy2_16 pc2_17 g1_18 g2_19 f3A g4_20 g5_21 g6_22 (zMk mdA n4A (zPl cr0_ inn0_ k10_)) ([zO0 wa m2_15 wy2_16 l0 pc2_17 a1_29 a2_30 a3_31 a4_32 a5_33 a6_34, zAr T 0 a1_29 7 g1_18, zAr T 0 a2_30 7 g2_19, zAr T 0 a3_31 7 f3A, zAr T 0 a4_32 (zMk mdA n4A (zPl cr0_ inn0_ k10_)) g4_20, zAr T 0 a5_33 (zMk mdA n4A (zPl cr0_ inn0_ k10_)) g5_21, zAr T 0 a6_34 (zMk mdA n4A (zPl cr0_ inn0_ k10_)) g6_22]) (nI i) a_ hw_41 (by first | with_reducible assumption | with_reducible rfl | omega | assumption | rfl)) (kV_RX11_266 C.2.2.2.2 (Nat.le_of_ble_eq_true rfl) (Nat.le_of_ble_eq_true rfl)) [4] [4] rfl rfl (ci := 0) (qc := (RX0, TX0, 10)) rfl rfl (List.mem_flatten.mpr ⟨_, List.mem_of_getElem? (i := 0) rfl, (bWays_mem hw_41).choose_spec⟩) rfl rfl hl.1 dX11_mean_76 (Nat.le_of_ble_eq_true rfl) (by show _ + 0 ≤ 6 * (zNA (i1.toInt = 0 ∧ 0 < (fk 0).toInt ∧ 0 ≤ a_.toInt ∧ a_.toInt < cr0_.toInt ∧ a_.toInt < 7) mdA n4A (zPl cr0_ inn0_ k10_) - n4A) + 6 * (zNA (i1.toInt = 1 ∧ 1 < (fk 0).toInt ∧ 0 ≤ a_.toInt ∧ a_.toInt < cr1_.toInt ∧ a_.toInt < 7) mdB n4B (zPl cr1_ inn1_ k11_) - n4B); omega) (fun r_53 b1 H locs hw G => ?_)
          refine zAn2 hw ?_
          intro hbs9 h_52
          clear hw
          subst hbs9
          have G : zS T A s.heap s [z1_, wwB, wt, [zO10 xo t im mk rd po co tr wa wb_ fi cd], z0_, [zO0 wa m2_15 wy2_16 l0 pc2_17 a1_29 a2_30 a3_31 a4_32 a5_33 a6_34, zAr T 0 a1_29 7 g1_18, zAr T 0 a2_30 7 g2_19, zAr T 0 a3_31 7 f3A, zAr T 0 a4_32 (zMk mdA n4A (zPl cr0_ inn0_ k10_)) g4_20, zAr T 0 a5_33 (zMk mdA n4A (zPl cr0_ inn0_ k10_)) g5_21, zAr T 0 a6_34 (zMk mdA n4A (zPl cr0_ inn0_ k10_)) g6_22]] _ _ := G
          subst h_52
          refine lv_topi (fun y_54 ey_54 => ?_)
          obtain rfl : y_54 = nI (rStp (aW cr0_ inn0_ k10_) k20_ i a_) := ey_54.trans (hE9.2.1)
          refine lv_iadd hx hb dX11_mean_79 ?_
          refine lv_topi (fun y_55 ey_55 => ?_)
          obtain rfl : y_55 = nI (sm + (rStp (aW cr0_ inn0_ k10_) k20_ i a_)) := ey_55.trans (z_iaddn sm (rStp (aW cr0_ inn0_ k10_) k20_ i a_) rfl rfl)
          refine lv_istore (lv' := [(6, .int (nI (sm + (rStp (aW cr0_ inn0_ k10_) k20_ i a_)))), (7, .int (nI i)), (5, .ref wa), (4, .ref l0), (0, .ref xo), (1, .int i1), (2, .int a_), (3, .int w_)]) hx hb dX11_mean_80 hl (by decide) (zLvf_h rfl) (fun ls hl => ?_)
          refine lv_iinc (v := nI (i + 1)) (lv' := [(7, .int (nI (i + 1))), (6, .int (nI (sm + (rStp (aW cr0_ inn0_ k10_) k20_ i a_)))), (5, .ref wa), (4, .ref l0), (0, .ref xo), (1, .int i1), (2, .int a_), (3, .int w_)]) hx hb dX11_mean_82 hl (k := 1) rfl (z_inc i 1) (by decide) (zLvf_h rfl) (fun ls hl => ?_)
          refine lv_goto (tgt := 41) hx hb dX11_mean_85 (by decide) ?_
          have G := G.sub (bs' := [z1_, wwB, wt, [zO10 xo t im mk rd po co tr wa wb_ fi cd], [zO0 wa m2_15 wy2_16 l0 pc2_17 a1_29 a2_30 a3_31 a4_32 a5_33 a6_34, zAr T 0 a1_29 7 g1_18, zAr T 0 a2_30 7 g2_19, zAr T 0 a3_31 7 f3A, zAr T 0 a4_32 (zMk mdA n4A (zPl cr0_ inn0_ k10_)) g4_20, zAr T 0 a5_33 (zMk mdA n4A (zPl cr0_ inn0_ k10_)) g5_21, zAr T 0 a6_34 (zMk mdA n4A (zPl cr0_ inn0_ k10_)) g6_22], z0_]) [0, 1, 2, 3, 5, 4] rfl
          exact ih_41 (i + 1) (sm + (rStp (aW cr0_ inn0_ k10_) k20_ i a_)) (show (i + 1) ≤ aPr (aW cr0_ inn0_ k10_) 7 ∧ rAll (fun w => decide (zBit inn0_ (rWh (aW cr0_ inn0_ k10_) k20_ w a_) = 1)) (i + 1) = true ∧ (sm + (rStp (aW cr0_ inn0_ k10_) k20_ i a_)) = rSu (fun w => rStp (aW cr0_ inn0_ k10_) k20_ w a_) (i + 1) from ⟨(by omega), (rAll_s (p := (fun w => decide (zBit inn0_ (rWh (aW cr0_ inn0_ k10_) k20_ w a_) = 1))) hal (decide_eq_true hyi)), (by rw [hsm]; rfl)⟩) (show aPr (aW cr0_ inn0_ k10_) 7 - (i + 1) < aPr (aW cr0_ inn0_ k10_) 7 - i from by omega) _ _ ls G (lv_sub hl [0, 1, 2, 3, 4, 5, 6, 7] rfl)
        · have h_51 : ((rWh (aW cr0_ inn0_ k10_) k20_ i a_).toInt < 0 ∨ cr0_.toInt ≤ (rWh (aW cr0_ inn0_ k10_) k20_ i a_).toInt ∨ 7 ≤ (rWh (aW cr0_ inn0_ k10_) k20_ i a_).toInt ∨ zBit inn0_ (rWh (aW cr0_ inn0_ k10_) k20_ i a_) = 0) := h_51
          have hni : ¬ zBit inn0_ (rWh (aW cr0_ inn0_ k10_) k20_ i a_) = 1 := by rcases h_51 with e9 | e9 | e9 | e9 <;> first | (exfalso; omega) | exact fun q9 => zBit_o q9 e9
          refine lv_if_ne (tgt := 69) hx hb dX11_mean_64 (by decide) (fun q => absurd (by decide) q) (fun _ => ?_)
          refine lv_iconst (v := (-1)) hx hb dX11_mean_67 (by decide) ?_
          have G := G.sub (bs' := [[zO10 xo t im mk rd po co tr wa wb_ fi cd], wt, z0_, z1_, [zO0 wa m2_15 wy2_16 l0 pc2_17 a1_29 a2_30 a3_31 a4_32 a5_33 a6_34, zAr T 0 a1_29 7 g1_18, zAr T 0 a2_30 7 g2_19, zAr T 0 a3_31 7 f3A, zAr T 0 a4_32 (zMk mdA n4A (zPl cr0_ inn0_ k10_)) g4_20, zAr T 0 a5_33 (zMk mdA n4A (zPl cr0_ inn0_ k10_)) g5_21, zAr T 0 a6_34 (zMk mdA n4A (zPl cr0_ inn0_ k10_)) g6_22], wwB]) [3, 2, 5, 0, 4, 1] rfl
          exact z_back hQz_ (z_iret C hr hlocks G (Nat.le_of_ble_eq_true rfl) (by omega) dX11_mean_68 ⟨l0, m2_15, wy2_16, pc2_17, g1_18, g2_19, f3A, g4_20, g5_21, g6_22, (zMk mdA n4A (zPl cr0_ inn0_ k10_)), ([zO0 wa m2_15 wy2_16 l0 pc2_17 a1_29 a2_30 a3_31 a4_32 a5_33 a6_34, zAr T 0 a1_29 7 g1_18, zAr T 0 a2_30 7 g2_19, zAr T 0 a3_31 7 f3A, zAr T 0 a4_32 (zMk mdA n4A (zPl cr0_ inn0_ k10_)) g4_20, zAr T 0 a5_33 (zMk mdA n4A (zPl cr0_ inn0_ k10_)) g5_21, zAr T 0 a6_34 (zMk mdA n4A (zPl cr0_ inn0_ k10_)) g6_22]), laB, mdB, wyB, pc_B, f1B, f2B, f3B, f4B, f5B, f6B, n4B, wwB, rfl, hw_41, (Or.inr rfl), hwy9, hNAm.symm, (zMk_pw hpwA), (fun _ => h_26), (Or.inr h_27), hwwB, hmdB, hwmB, (by first | exact hNAo.symm | exact (zNA_n (by first | omega | grind)).symm), hpwB, (fun q => q), hTbB, (Or.inr (Or.inl ⟨by first | with_reducible assumption | assumption, by first | with_reducible assumption | assumption, (by unfold kMean; rw [if_pos ⟨by omega, by omega⟩]; unfold rMean; exact Eq.symm (if_neg (fun q8 => hni (of_decide_eq_true ((rAll_y (p := (fun w => decide (zBit inn0_ (rWh (aW cr0_ inn0_ k10_) k20_ w a_) = 1))) (aPr (aW cr0_ inn0_ k10_) 7)).mp q8 i (by omega))))))⟩))⟩)
    · have h_13 : (a_.toInt < 0 ∨ cr0_.toInt ≤ a_.toInt ∨ 7 ≤ a_.toInt) := h_13
      refine lv_if_ne (tgt := 26) hx hb dX11_mean_21 (by decide) (fun q => absurd (by decide) q) (fun _ => ?_)
      refine lv_iconst (v := (-1)) hx hb dX11_mean_24 (by decide) ?_
      have G := G.sub (bs' := [[zO10 xo t im mk rd po co tr wa wb_ fi cd], wt, z0_, z1_, wwA, wwB]) [0, 4, 5, 1, 2, 3] rfl
      exact z_back hQz_ (z_iret C hr hlocks G (Nat.le_of_ble_eq_true rfl) (by omega) dX11_mean_25 ⟨laA, mdA, wyA, pc_A, f1A, f2A, f3A, f4A, f5A, f6A, n4A, wwA, laB, mdB, wyB, pc_B, f1B, f2B, f3B, f4B, f5B, f6B, n4B, wwB, rfl, hwwA, hmdA, hwmA, (by first | exact hNAo.symm | exact (zNA_n (by first | omega | grind)).symm), hpwA, (fun q => q), hTbA, hwwB, hmdB, hwmB, (by first | exact hNAo.symm | exact (zNA_n (by first | omega | grind)).symm), hpwB, (fun q => q), hTbB, (Or.inr (Or.inl ⟨by first | with_reducible assumption | assumption, by first | with_reducible assumption | assumption, (by have q9 := hI0_.1; unfold kMean; rw [if_neg (by omega)])⟩))⟩)
  · have h_6 : i1.toInt = 1 := h_6
    have h_7 : 1 < (fk 0).toInt := h_7
    refine lv_astore (lv' := [(4, .ref l1), (0, .ref xo), (1, .int i1), (2, .int a_), (3, .int w_)]) hx hb dX11_mean_8 hl (by decide) (zLvf_h rfl) (fun ls hl => ?_)
    refine lv_aload hx hb dX11_mean_10 (lv_at hl 0 rfl) ?_
    refine lv_ifnull hx hb dX11_mean_12 ?_
    refine lv_aload hx hb dX11_mean_15 (lv_at hl 0 rfl) ?_
    refine lv_iload_n hx hb dX11_mean_17 rfl (lv_at hl 3 rfl) ?_
    refine z_Vi (bc := [z1_]) (br := [[zO10 xo t im mk rd po co tr wa wb_ fi cd], z0_, wwA, wwB, wt]) (As := [.int a_]) (rest := []) C G (c_has l T l1 cr1_ inn1_ k11_ k21_ k31_ k41_ z1_ a_ hz1_) (kV_RX11_160 C.2.2.2.2 (Nat.le_of_ble_eq_true rfl) (Nat.le_of_ble_eq_true rfl)) [2] [2] rfl rfl (ci := 4) (qc := (RX4, TX4, 6)) rfl rfl (List.mem_flatten.mpr ⟨_, List.mem_of_getElem? (i := 0) rfl, (bLand_mem hz1_).choose_spec⟩) rfl rfl hl.1 dX11_mean_18 (Nat.le_of_ble_eq_true rfl) (by show _ + 0 ≤ 6 * (zNA (i1.toInt = 0 ∧ 0 < (fk 0).toInt ∧ 0 ≤ a_.toInt ∧ a_.toInt < cr0_.toInt ∧ a_.toInt < 7) mdA n4A (zPl cr0_ inn0_ k10_) - n4A) + 6 * (zNA (i1.toInt = 1 ∧ 1 < (fk 0).toInt ∧ 0 ≤ a_.toInt ∧ a_.toInt < cr1_.toInt ∧ a_.toInt < 7) mdB n4B (zPl cr1_ inn1_ k11_) - n4B); omega) (fun r_57 b1 H locs hw G => ?_)
    refine zAn2 hw ?_
    intro hbs9 hc_56
    clear hw
    subst hbs9
    have G : zS T A s.heap s [[zO10 xo t im mk rd po co tr wa wb_ fi cd], z0_, wwA, wwB, wt, z1_] _ _ := G
    rcases hc_56 with ⟨rfl, h_58, h_59, h_60⟩ | ⟨rfl, h_61⟩
    · have h_58 : 0 ≤ a_.toInt := h_58
      have h_59 : a_.toInt < cr1_.toInt := h_59
      have h_60 : a_.toInt < 7 := h_60
      refine lv_if_ne (tgt := 26) hx hb dX11_mean_21 (by decide) (fun _ => ?_) (fun q => absurd q (by decide))
      refine lv_aload_n hx hb dX11_mean_26 rfl (lv_at hl 1 rfl) ?_
      refine lv_iload_n hx hb dX11_mean_27 rfl (lv_at hl 2 rfl) ?_
      refine lv_aload hx hb dX11_mean_28 (lv_at hl 0 rfl) ?_
      have hNAm : zNA (i1.toInt = 1 ∧ 1 < (fk 0).toInt ∧ 0 ≤ a_.toInt ∧ a_.toInt < cr1_.toInt ∧ a_.toInt < 7) mdB n4B (zPl cr1_ inn1_ k11_) = zMk mdB n4B (zPl cr1_ inn1_ k11_) := zNA_y (by first | omega | (repeat' (first | omega | assumption | constructor)))
      have hNAo : zNA (i1.toInt = 0 ∧ 0 < (fk 0).toInt ∧ 0 ≤ a_.toInt ∧ a_.toInt < cr0_.toInt ∧ a_.toInt < 7) mdA n4A (zPl cr0_ inn0_ k10_) = n4A := zNA_n (by omega)
      have hn9 : zMk mdB n4B (zPl cr1_ inn1_ k11_) ≤ 131072 := zPw_le (zMk_pw hpwB)
      refine z_Vq (bc := [[zO10 xo t im mk rd po co tr wa wb_ fi cd], wwB, z1_]) (br := [z0_, wwA, wt]) (As := [.int i1, .ref l1]) (rest := []) C G (c_f_waysInB l T xo t im mk rd po co tr wa wb_ fi cd i1 laB mdB wyB pc_B f1B f2B f3B f4B f5B f6B n4B wwB l1 cr1_ inn1_ k11_ k21_ k31_ k41_ z1_ hwwB hz1_ hI1_ hpwB hmdB (kaOk hI1_ hLq1).1 hTbB (by omega)) (kV_RX11_235 C.2.2.2.2 (Nat.le_of_ble_eq_true rfl) (Nat.le_of_ble_eq_true rfl)) [0, 3, 5] [0, 2, 1] rfl rfl (ci := 10) (qc := (RX11, TX11, 11)) rfl rfl (List.mem_flatten.mpr ⟨_, List.mem_of_getElem? (i := 0) rfl, List.mem_cons_self⟩) rfl rfl hl.1 dX11_mean_30 (Nat.le_of_ble_eq_true rfl) (by show _ + (6 * (zMk mdB n4B (zPl cr1_ inn1_ k11_) - n4B)) ≤ 6 * (zNA (i1.toInt = 0 ∧ 0 < (fk 0).toInt ∧ 0 ≤ a_.toInt ∧ a_.toInt < cr0_.toInt ∧ a_.toInt < 7) mdA n4A (zPl cr0_ inn0_ k10_) - n4A) + 6 * (zNA (i1.toInt = 1 ∧ 1 < (fk 0).toInt ∧ 0 ≤ a_.toInt ∧ a_.toInt < cr1_.toInt ∧ a_.toInt < 7) mdB n4B (zPl cr1_ inn1_ k11_) - n4B); omega) (fun r_76 b1 H locs hw G => ?_)
      refine zEx9 hw ?_
      intro w2_62 m2_63 wy2_64 pc2_65 g1_66 g2_67 g4_68 g5_69 g6_70
      refine zCu6 ?_
      intro hbs9 h_71 h_72 h_73 h_74 h_75
      clear hw
      subst hbs9
      have G : zS T A s.heap s [z0_, wwA, wt, [zO10 xo t im mk rd po co tr wa wb_ fi cd], w2_62, z1_] _ _ := G
      subst h_71
      have hwy9 : 0 ≤ wy2_64.toInt ∧ wy2_64.toInt ≤ 16384 := by have q9 := zWy_in (inn := inn1_) hI1_; rw [h_73]; exact ⟨by omega, q9.2⟩
      have hp79 : aPr (aW cr1_ inn1_ k11_) 7 ≤ 16384 := aPr_7 hI1_
      have hwN9 : wy2_64 = nI (aPr (aW cr1_ inn1_ k11_) 7) := h_73.trans (zWy_z hI1_)
      have hwT9 : wy2_64.toInt = ((aPr (aW cr1_ inn1_ k11_) 7 : Nat) : Int) := by rw [hwN9, nI_toInt (by omega)]
      have hOk9 := (kaOk (inn := inn1_) hI1_ hLq1).1
      have hc79 := hI1_.1
      refine lv_astore (lv' := [(5, .ref wb_), (4, .ref l1), (0, .ref xo), (1, .int i1), (2, .int a_), (3, .int w_)]) hx hb dX11_mean_33 hl (by decide) (zLvf_h rfl) (fun ls hl => ?_)
      refine lv_iconst (v := 0) hx hb dX11_mean_35 (by decide) ?_
      refine lv_istore (lv' := [(6, .int 0), (5, .ref wb_), (4, .ref l1), (0, .ref xo), (1, .int i1), (2, .int a_), (3, .int w_)]) hx hb dX11_mean_36 hl (by decide) (zLvf_h rfl) (fun ls hl => ?_)
      refine lv_iconst (v := 0) hx hb dX11_mean_38 (by decide) ?_
      refine lv_istore (lv' := [(7, .int 0), (6, .int 0), (5, .ref wb_), (4, .ref l1), (0, .ref xo), (1, .int i1), (2, .int a_), (3, .int w_)]) hx hb dX11_mean_39 hl (by decide) (zLvf_h rfl) (fun ls hl => ?_)
      refine zEx6 h_72 ?_
      intro a1_77 a2_78 a3_79 a4_80 a5_81 a6_82 hbs9
      clear h_72
      subst hbs9
      have G : zS T A s.heap s [z0_, wwA, wt, [zO10 xo t im mk rd po co tr wa wb_ fi cd], [zO0 wb_ m2_63 wy2_64 l1 pc2_65 a1_77 a2_78 a3_79 a4_80 a5_81 a6_82], [zAr T 0 a1_77 7 g1_66], [zAr T 0 a2_78 7 g2_67], [zAr T 0 a3_79 7 f3B], [zAr T 0 a4_80 (zMk mdB n4B (zPl cr1_ inn1_ k11_)) g4_68], [zAr T 0 a5_81 (zMk mdB n4B (zPl cr1_ inn1_ k11_)) g5_69], [zAr T 0 a6_82 (zMk mdB n4B (zPl cr1_ inn1_ k11_)) g6_70], z1_] _ _ := G.re rfl
      have hw_83 : bWays T wb_ l1 m2_63 wy2_64 pc2_65 g1_66 g2_67 f3B g4_68 g5_69 g6_70 (zMk mdB n4B (zPl cr1_ inn1_ k11_)) [zO0 wb_ m2_63 wy2_64 l1 pc2_65 a1_77 a2_78 a3_79 a4_80 a5_81 a6_82, zAr T 0 a1_77 7 g1_66, zAr T 0 a2_78 7 g2_67, zAr T 0 a3_79 7 f3B, zAr T 0 a4_80 (zMk mdB n4B (zPl cr1_ inn1_ k11_)) g4_68, zAr T 0 a5_81 (zMk mdB n4B (zPl cr1_ inn1_ k11_)) g5_69, zAr T 0 a6_82 (zMk mdB n4B (zPl cr1_ inn1_ k11_)) g6_70] := ⟨a1_77, a2_78, a3_79, a4_80, a5_81, a6_82, rfl⟩
      have G : zS T A s.heap s [z0_, wwA, wt, [zO10 xo t im mk rd po co tr wa wb_ fi cd], [zO0 wb_ m2_63 wy2_64 l1 pc2_65 a1_77 a2_78 a3_79 a4_80 a5_81 a6_82, zAr T 0 a1_77 7 g1_66, zAr T 0 a2_78 7 g2_67, zAr T 0 a3_79 7 f3B, zAr T 0 a4_80 (zMk mdB n4B (zPl cr1_ inn1_ k11_)) g4_68, zAr T 0 a5_81 (zMk mdB n4B (zPl cr1_ inn1_ k11_)) g5_69, zAr T 0 a6_82 (zMk mdB n4B (zPl cr1_ inn1_ k11_)) g6_70], z1_] _ _ := G.re rfl
      refine z_lp2 (T := T) 41 (fun (i : Nat) (sm : Nat) => [z0_, wwA, wt, [zO10 xo t im mk rd po co tr wa wb_ fi cd], [zO0 wb_ m2_63 wy2_64 l1 pc2_65 a1_77 a2_78 a3_79 a4_80 a5_81 a6_82, zAr T 0 a1_77 7 g1_66, zAr T 0 a2_78 7 g2_67, zAr T 0 a3_79 7 f3B, zAr T 0 a4_80 (zMk mdB n4B (zPl cr1_ inn1_ k11_)) g4_68, zAr T 0 a5_81 (zMk mdB n4B (zPl cr1_ inn1_ k11_)) g5_69, zAr T 0 a6_82 (zMk mdB n4B (zPl cr1_ inn1_ k11_)) g6_70], z1_]) (fun (i : Nat) (sm : Nat) => [(7, .int (nI i)), (6, .int (nI sm)), (5, .ref wb_), (4, .ref l1), (0, .ref xo), (1, .int i1), (2, .int a_), (3, .int w_)]) (fun (i : Nat) (sm : Nat) => i ≤ aPr (aW cr1_ inn1_ k11_) 7 ∧ rAll (fun w => decide (zBit inn1_ (rWh (aW cr1_ inn1_ k11_) k21_ w a_) = 1)) i = true ∧ sm = rSu (fun w => rStp (aW cr1_ inn1_ k11_) k21_ w a_) i) (fun (i : Nat) (sm : Nat) => aPr (aW cr1_ inn1_ k11_) 7 - i) ?_ 0 0 (show 0 ≤ aPr (aW cr1_ inn1_ k11_) 7 ∧ rAll (fun w => decide (zBit inn1_ (rWh (aW cr1_ inn1_ k11_) k21_ w a_) = 1)) 0 = true ∧ 0 = rSu (fun w => rStp (aW cr1_ inn1_ k11_) k21_ w a_) 0 from ⟨(Nat.zero_le _), rfl, rfl⟩) G (lv_sub hl [0, 1, 2, 3, 4, 5, 6, 7] rfl)
      intro i sm hI9 ih_41 H locs ls G hl
      replace hI9 : i ≤ aPr (aW cr1_ inn1_ k11_) 7 ∧ rAll (fun w => decide (zBit inn1_ (rWh (aW cr1_ inn1_ k11_) k21_ w a_) = 1)) i = true ∧ sm = rSu (fun w => rStp (aW cr1_ inn1_ k11_) k21_ w a_) i := hI9
      refine zAn3 hI9 ?_
      intro hi hal hsm
      clear hI9
      replace G : zS T A s.heap s [z0_, wwA, wt, [zO10 xo t im mk rd po co tr wa wb_ fi cd], [zO0 wb_ m2_63 wy2_64 l1 pc2_65 a1_77 a2_78 a3_79 a4_80 a5_81 a6_82, zAr T 0 a1_77 7 g1_66, zAr T 0 a2_78 7 g2_67, zAr T 0 a3_79 7 f3B, zAr T 0 a4_80 (zMk mdB n4B (zPl cr1_ inn1_ k11_)) g4_68, zAr T 0 a5_81 (zMk mdB n4B (zPl cr1_ inn1_ k11_)) g5_69, zAr T 0 a6_82 (zMk mdB n4B (zPl cr1_ inn1_ k11_)) g6_70], z1_] _ _ := G
      replace hl : lv_has ls 8 [(7, .int (nI i)), (6, .int (nI sm)), (5, .ref wb_), (4, .ref l1), (0, .ref xo), (1, .int i1), (2, .int a_), (3, .int w_)] := hl
      refine lv_iload hx hb dX11_mean_41 (lv_at hl 0 rfl) ?_
      refine lv_aload hx hb dX11_mean_43 (lv_at hl 2 rfl) ?_
      have G : zS T A s.heap s [z0_, wwA, wt, [zO10 xo t im mk rd po co tr wa wb_ fi cd], [zO0 wb_ m2_63 wy2_64 l1 pc2_65 a1_77 a2_78 a3_79 a4_80 a5_81 a6_82], [zAr T 0 a1_77 7 g1_66], [zAr T 0 a2_78 7 g2_67], [zAr T 0 a3_79 7 f3B], [zAr T 0 a4_80 (zMk mdB n4B (zPl cr1_ inn1_ k11_)) g4_68], [zAr T 0 a5_81 (zMk mdB n4B (zPl cr1_ inn1_ k11_)) g5_69], [zAr T 0 a6_82 (zMk mdB n4B (zPl cr1_ inn1_ k11_)) g6_70], z1_] _ _ := G.re rfl
      refine z_get C G clX0 4 rfl 1 (by decide) m_fl_RX11_257 rfl dX11_mean_45 ?_
      refine lv_icmp_ge (tgt := 88) hx hb dX11_mean_48 (by decide) (fun c_84 => ?_) (fun c_84 => ?_)
      · have c_84n : wy2_64.toInt ≤ (i : Int) := by have q := (fa_le _ _).mp c_84; rw [nI_toInt (n := i) (by omega)] at q; exact q
        have hsl9 := rSu_le (g := (fun w => rStp (aW cr1_ inn1_ k11_) k21_ w a_)) (m := 499) i (fun w _ => rStp_le)
        refine lv_iload hx hb dX11_mean_88 (lv_at hl 1 rfl) ?_
        refine lv_aload hx hb dX11_mean_90 (lv_at hl 2 rfl) ?_
        refine z_get C G clX0 4 rfl 1 (by decide) m_fl_RX11_257 rfl dX11_mean_92 ?_
        refine lv_topi (fun y_85 ey_85 => ?_)
        obtain rfl : y_85 = nI (aPr (aW cr1_ inn1_ k11_) 7) := ey_85.trans (hwN9)
        refine lv_iload_n hx hb dX11_mean_95 rfl (lv_at hl 7 rfl) ?_
        refine z_Si (bc := []) (br := [z0_, wwA, wt, [zO10 xo t im mk rd po co tr wa wb_ fi cd], [zO0 wb_ m2_63 wy2_64 l1 pc2_65 a1_77 a2_78 a3_79 a4_80 a5_81 a6_82], [zAr T 0 a1_77 7 g1_66], [zAr T 0 a2_78 7 g2_67], [zAr T 0 a3_79 7 f3B], [zAr T 0 a4_80 (zMk mdB n4B (zPl cr1_ inn1_ k11_)) g4_68], [zAr T 0 a5_81 (zMk mdB n4B (zPl cr1_ inn1_ k11_)) g5_69], [zAr T 0 a6_82 (zMk mdB n4B (zPl cr1_ inn1_ k11_)) g6_70], z1_]) (As := [.int (nI sm), .int (nI (aPr (aW cr1_ inn1_ k11_) 7)), .int w_]) (rest := []) C G (c_f_inLeastTerms l T sm (aPr (aW cr1_ inn1_ k11_) 7) w_ (by omega) (aPr_p _) hp79) (kS_RX11_262 C.2.2.2.2 (Nat.le_of_ble_eq_true rfl) (Nat.le_of_ble_eq_true rfl)) [] [] rfl rfl rfl rfl hl.1 dX11_mean_96 (Nat.le_of_ble_eq_true rfl) (by show _ + 0 ≤ 6 * (zNA (i1.toInt = 0 ∧ 0 < (fk 0).toInt ∧ 0 ≤ a_.toInt ∧ a_.toInt < cr0_.toInt ∧ a_.toInt < 7) mdA n4A (zPl cr0_ inn0_ k10_) - n4A) + 6 * (zNA (i1.toInt = 1 ∧ 1 < (fk 0).toInt ∧ 0 ≤ a_.toInt ∧ a_.toInt < cr1_.toInt ∧ a_.toInt < 7) mdB n4B (zPl cr1_ inn1_ k11_) - n4B); omega) (fun r_87 b1 H locs hw G => ?_)
        refine zAn2 hw ?_
        intro hbs9 h_86
        clear hw
        subst hbs9
        have G : zS T A s.heap s [z0_, wwA, wt, [zO10 xo t im mk rd po co tr wa wb_ fi cd], [zO0 wb_ m2_63 wy2_64 l1 pc2_65 a1_77 a2_78 a3_79 a4_80 a5_81 a6_82], [zAr T 0 a1_77 7 g1_66], [zAr T 0 a2_78 7 g2_67], [zAr T 0 a3_79 7 f3B], [zAr T 0 a4_80 (zMk mdB n4B (zPl cr1_ inn1_ k11_)) g4_68], [zAr T 0 a5_81 (zMk mdB n4B (zPl cr1_ inn1_ k11_)) g5_69], [zAr T 0 a6_82 (zMk mdB n4B (zPl cr1_ inn1_ k11_)) g6_70], z1_] _ _ := G
        have hw_88 : bWays T wb_ l1 m2_63 wy2_64 pc2_65 g1_66 g2_67 f3B g4_68 g5_69 g6_70 (zMk mdB n4B (zPl cr1_ inn1_ k11_)) [zO0 wb_ m2_63 wy2_64 l1 pc2_65 a1_77 a2_78 a3_79 a4_80 a5_81 a6_82, zAr T 0 a1_77 7 g1_66, zAr T 0 a2_78 7 g2_67, zAr T 0 a3_79 7 f3B, zAr T 0 a4_80 (zMk mdB n4B (zPl cr1_ inn1_ k11_)) g4_68, zAr T 0 a5_81 (zMk mdB n4B (zPl cr1_ inn1_ k11_)) g5_69, zAr T 0 a6_82 (zMk mdB n4B (zPl cr1_ inn1_ k11_)) g6_70] := ⟨a1_77, a2_78, a3_79, a4_80, a5_81, a6_82, rfl⟩
        have G : zS T A s.heap s [z0_, wwA, wt, [zO10 xo t im mk rd po co tr wa wb_ fi cd], [zO0 wb_ m2_63 wy2_64 l1 pc2_65 a1_77 a2_78 a3_79 a4_80 a5_81 a6_82, zAr T 0 a1_77 7 g1_66, zAr T 0 a2_78 7 g2_67, zAr T 0 a3_79 7 f3B, zAr T 0 a4_80 (zMk mdB n4B (zPl cr1_ inn1_ k11_)) g4_68, zAr T 0 a5_81 (zMk mdB n4B (zPl cr1_ inn1_ k11_)) g5_69, zAr T 0 a6_82 (zMk mdB n4B (zPl cr1_ inn1_ k11_)) g6_70], z1_] _ _ := G.re rfl
        have G := G.sub (bs' := [[zO10 xo t im mk rd po co tr wa wb_ fi cd], wt, z0_, z1_, wwA, [zO0 wb_ m2_63 wy2_64 l1 pc2_65 a1_77 a2_78 a3_79 a4_80 a5_81 a6_82, zAr T 0 a1_77 7 g1_66, zAr T 0 a2_78 7 g2_67, zAr T 0 a3_79 7 f3B, zAr T 0 a4_80 (zMk mdB n4B (zPl cr1_ inn1_ k11_)) g4_68, zAr T 0 a5_81 (zMk mdB n4B (zPl cr1_ inn1_ k11_)) g5_69, zAr T 0 a6_82 (zMk mdB n4B (zPl cr1_ inn1_ k11_)) g6_70]]) [3, 2, 0, 5, 1, 4] rfl
        exact z_back hQz_ (z_iret C hr hlocks G (Nat.le_of_ble_eq_true rfl) (by omega) dX11_mean_99 ⟨laA, mdA, wyA, pc_A, f1A, f2A, f3A, f4A, f5A, f6A, n4A, wwA, l1, m2_63, wy2_64, pc2_65, g1_66, g2_67, f3B, g4_68, g5_69, g6_70, (zMk mdB n4B (zPl cr1_ inn1_ k11_)), ([zO0 wb_ m2_63 wy2_64 l1 pc2_65 a1_77 a2_78 a3_79 a4_80 a5_81 a6_82, zAr T 0 a1_77 7 g1_66, zAr T 0 a2_78 7 g2_67, zAr T 0 a3_79 7 f3B, zAr T 0 a4_80 (zMk mdB n4B (zPl cr1_ inn1_ k11_)) g4_68, zAr T 0 a5_81 (zMk mdB n4B (zPl cr1_ inn1_ k11_)) g5_69, zAr T 0 a6_82 (zMk mdB n4B (zPl cr1_ inn1_ k11_)) g6_70]), rfl, hwwA, hmdA, hwmA, (by first | exact hNAo.symm | exact (zNA_n (by first | omega | grind)).symm), hpwA, (fun q => q), hTbA, hw_88, (Or.inr rfl), hwy9, hNAm.symm, (zMk_pw hpwB), (fun _ => h_74), (Or.inr h_75), (Or.inr (Or.inr ⟨by first | with_reducible assumption | assumption, by first | with_reducible assumption | assumption, (by unfold kMean; rw [if_pos ⟨by omega, by omega⟩]; unfold rMean; rw [show i = aPr (aW cr1_ inn1_ k11_) 7 by omega] at hal hsm; rw [h_86, hsm]; exact (if_pos hal).symm)⟩))⟩)
      · have c_84n : ¬ wy2_64.toInt ≤ (i : Int) := fun q => c_84 ((fa_le _ _).mpr (by rw [nI_toInt (n := i) (by omega)]; exact q))
        have hE9 := zEnt_w (w := i) (x := a_) hI1_ hOk9 h_75 (by omega) ⟨by omega, by omega, by omega⟩
        have hB9 := zEnt_b (inn := inn1_) (w := i) (x := a_) hI1_ hLq1 (by omega) ⟨by omega, by omega, by omega⟩
        refine lv_aload hx hb dX11_mean_51 (lv_at hl 3 rfl) ?_
        refine lv_aload hx hb dX11_mean_53 (lv_at hl 2 rfl) ?_
        refine lv_iload hx hb dX11_mean_55 (lv_at hl 0 rfl) ?_
        refine lv_iload_n hx hb dX11_mean_57 rfl (lv_at hl 6 rfl) ?_
        have hw_89 : bWays T wb_ l1 m2_63 wy2_64 pc2_65 g1_66 g2_67 f3B g4_68 g5_69 g6_70 (zMk mdB n4B (zPl cr1_ inn1_ k11_)) [zO0 wb_ m2_63 wy2_64 l1 pc2_65 a1_77 a2_78 a3_79 a4_80 a5_81 a6_82, zAr T 0 a1_77 7 g1_66, zAr T 0 a2_78 7 g2_67, zAr T 0 a3_79 7 f3B, zAr T 0 a4_80 (zMk mdB n4B (zPl cr1_ inn1_ k11_)) g4_68, zAr T 0 a5_81 (zMk mdB n4B (zPl cr1_ inn1_ k11_)) g5_69, zAr T 0 a6_82 (zMk mdB n4B (zPl cr1_ inn1_ k11_)) g6_70] := ⟨a1_77, a2_78, a3_79, a4_80, a5_81, a6_82, rfl⟩
        have G : zS T A s.heap s [z0_, wwA, wt, [zO10 xo t im mk rd po co tr wa wb_ fi cd], [zO0 wb_ m2_63 wy2_64 l1 pc2_65 a1_77 a2_78 a3_79 a4_80 a5_81 a6_82, zAr T 0 a1_77 7 g1_66, zAr T 0 a2_78 7 g2_67, zAr T 0 a3_79 7 f3B, zAr T 0 a4_80 (zMk mdB n4B (zPl cr1_ inn1_ k11_)) g4_68, zAr T 0 a5_81 (zMk mdB n4B (zPl cr1_ inn1_ k11_)) g5_69, zAr T 0 a6_82 (zMk mdB n4B (zPl cr1_ inn1_ k11_)) g6_70], z1_] _ _ := G.re rfl
        refine z_Vi (bc := [[zO0 wb_ m2_63 wy2_64 l1 pc2_65 a1_77 a2_78 a3_79 a4_80 a5_81 a6_82, zAr T 0 a1_77 7 g1_66, zAr T 0 a2_78 7 g2_67, zAr T 0 a3_79 7 f3B, zAr T 0 a4_80 (zMk mdB n4B (zPl cr1_ inn1_ k11_)) g4_68, zAr T 0 a5_81 (zMk mdB n4B (zPl cr1_ inn1_ k11_)) g5_69, zAr T 0 a6_82 (zMk mdB n4B (zPl cr1_ inn1_ k11_)) g6_70]]) (br := [z0_, wwA, wt, [zO10 xo t im mk rd po co tr wa wb_ fi cd], z1_]) (As := [.int (nI i), .int a_]) (rest := [.ref l1]) C G (c_where l T wb_ l1 m2_63 wy2_64 pc2_65 g1_66 g2_67 f3B g4_68 g5_69 g6_70 (zMk mdB n4B (zPl cr1_ inn1_ k11_)) ([zO0 wb_ m2_63 wy2_64 l1 pc2_65 a1_77 a2_78 a3_79 a4_80 a5_81 a6_82, zAr T 0 a1_77 7 g1_66, zAr T 0 a2_78 7 g2_67, zAr T 0 a3_79 7 f3B, zAr T 0 a4_80 (zMk mdB n4B (zPl cr1_ inn1_ k11_)) g4_68, zAr T 0 a5_81 (zMk mdB n4B (zPl cr1_ inn1_ k11_)) g5_69, zAr T 0 a6_82 (zMk mdB n4B (zPl cr1_ inn1_ k11_)) g6_70]) (nI i) a_ hw_89 (by first | with_reducible assumption | with_reducible rfl | omega | assumption | rfl)) (kV_RX11_260 C.2.2.2.2 (Nat.le_of_ble_eq_true rfl) (Nat.le_of_ble_eq_true rfl)) [4] [4] rfl rfl (ci := 0) (qc := (RX0, TX0, 10)) rfl rfl (List.mem_flatten.mpr ⟨_, List.mem_of_getElem? (i := 0) rfl, (bWays_mem hw_89).choose_spec⟩) rfl rfl hl.1 dX11_mean_58 (Nat.le_of_ble_eq_true rfl) (by show _ + 0 ≤ 6 * (zNA (i1.toInt = 0 ∧ 0 < (fk 0).toInt ∧ 0 ≤ a_.toInt ∧ a_.toInt < cr0_.toInt ∧ a_.toInt < 7) mdA n4A (zPl cr0_ inn0_ k10_) - n4A) + 6 * (zNA (i1.toInt = 1 ∧ 1 < (fk 0).toInt ∧ 0 ≤ a_.toInt ∧ a_.toInt < cr1_.toInt ∧ a_.toInt < 7) mdB n4B (zPl cr1_ inn1_ k11_) - n4B); omega) (fun r_91 b1 H locs hw G => ?_)
        refine zAn2 hw ?_
        intro hbs9 h_90
        clear hw
        subst hbs9
        have G : zS T A s.heap s [z0_, wwA, wt, [zO10 xo t im mk rd po co tr wa wb_ fi cd], z1_, [zO0 wb_ m2_63 wy2_64 l1 pc2_65 a1_77 a2_78 a3_79 a4_80 a5_81 a6_82, zAr T 0 a1_77 7 g1_66, zAr T 0 a2_78 7 g2_67, zAr T 0 a3_79 7 f3B, zAr T 0 a4_80 (zMk mdB n4B (zPl cr1_ inn1_ k11_)) g4_68, zAr T 0 a5_81 (zMk mdB n4B (zPl cr1_ inn1_ k11_)) g5_69, zAr T 0 a6_82 (zMk mdB n4B (zPl cr1_ inn1_ k11_)) g6_70]] _ _ := G
        subst h_90
        refine lv_topi (fun y_92 ey_92 => ?_)
        obtain rfl : y_92 = (rWh (aW cr1_ inn1_ k11_) k21_ i a_) := ey_92.trans (hE9.1)
        refine z_Vi (bc := [z1_]) (br := [z0_, wwA, wt, [zO10 xo t im mk rd po co tr wa wb_ fi cd], [zO0 wb_ m2_63 wy2_64 l1 pc2_65 a1_77 a2_78 a3_79 a4_80 a5_81 a6_82, zAr T 0 a1_77 7 g1_66, zAr T 0 a2_78 7 g2_67, zAr T 0 a3_79 7 f3B, zAr T 0 a4_80 (zMk mdB n4B (zPl cr1_ inn1_ k11_)) g4_68, zAr T 0 a5_81 (zMk mdB n4B (zPl cr1_ inn1_ k11_)) g5_69, zAr T 0 a6_82 (zMk mdB n4B (zPl cr1_ inn1_ k11_)) g6_70]]) (As := [.int (rWh (aW cr1_ inn1_ k11_) k21_ i a_)]) (rest := []) C G (c_isInn l T l1 cr1_ inn1_ k11_ k21_ k31_ k41_ z1_ (rWh (aW cr1_ inn1_ k11_) k21_ i a_) hz1_) (kV_RX11_174 C.2.2.2.2 (Nat.le_of_ble_eq_true rfl) (Nat.le_of_ble_eq_true rfl)) [4] [4] rfl rfl (ci := 4) (qc := (RX4, TX4, 6)) rfl rfl (List.mem_flatten.mpr ⟨_, List.mem_of_getElem? (i := 0) rfl, (bLand_mem hz1_).choose_spec⟩) rfl rfl hl.1 dX11_mean_61 (Nat.le_of_ble_eq_true rfl) (by show _ + 0 ≤ 6 * (zNA (i1.toInt = 0 ∧ 0 < (fk 0).toInt ∧ 0 ≤ a_.toInt ∧ a_.toInt < cr0_.toInt ∧ a_.toInt < 7) mdA n4A (zPl cr0_ inn0_ k10_) - n4A) + 6 * (zNA (i1.toInt = 1 ∧ 1 < (fk 0).toInt ∧ 0 ≤ a_.toInt ∧ a_.toInt < cr1_.toInt ∧ a_.toInt < 7) mdB n4B (zPl cr1_ inn1_ k11_) - n4B); omega) (fun r_94 b1 H locs hw G => ?_)
        refine zAn2 hw ?_
        intro hbs9 hc_93
        clear hw
        subst hbs9
        have G : zS T A s.heap s [z0_, wwA, wt, [zO10 xo t im mk rd po co tr wa wb_ fi cd], [zO0 wb_ m2_63 wy2_64 l1 pc2_65 a1_77 a2_78 a3_79 a4_80 a5_81 a6_82, zAr T 0 a1_77 7 g1_66, zAr T 0 a2_78 7 g2_67, zAr T 0 a3_79 7 f3B, zAr T 0 a4_80 (zMk mdB n4B (zPl cr1_ inn1_ k11_)) g4_68, zAr T 0 a5_81 (zMk mdB n4B (zPl cr1_ inn1_ k11_)) g5_69, zAr T 0 a6_82 (zMk mdB n4B (zPl cr1_ inn1_ k11_)) g6_70], z1_] _ _ := G
        rcases hc_93 with ⟨rfl, h_95, h_96, h_97, h_98⟩ | ⟨rfl, h_99⟩
        · have h_95 : 0 ≤ (rWh (aW cr1_ inn1_ k11_) k21_ i a_).toInt := h_95
          have h_96 : (rWh (aW cr1_ inn1_ k11_) k21_ i a_).toInt < cr1_.toInt := h_96
          have h_97 : (rWh (aW cr1_ inn1_ k11_) k21_ i a_).toInt < 7 := h_97
          have h_98 : ¬ zBit inn1_ (rWh (aW cr1_ inn1_ k11_) k21_ i a_) = 0 := h_98
          have hyi := zBit_p h_98
          refine lv_if_ne (tgt := 69) hx hb dX11_mean_64 (by decide) (fun _ => ?_) (fun q => absurd q (by decide))
          refine lv_iload hx hb dX11_mean_69 (lv_at hl 1 rfl) ?_
          refine lv_aload hx hb dX11_mean_71 (lv_at hl 2 rfl) ?_
          refine lv_iload hx hb dX11_mean_73 (lv_at hl 0 rfl) ?_
          refine lv_iload_n hx hb dX11_mean_75 rfl (lv_at hl 6 rfl) ?_
          refine z_Vi (bc := [[zO0 wb_ m2_63 wy2_64 l1 pc2_65 a1_77 a2_78 a3_79 a4_80 a5_81 a6_82, zAr T 0 a1_77 7 g1_66, zAr T 0 a2_78 7 g2_67, zAr T 0 a3_79 7 f3B, zAr T 0 a4_80 (zMk mdB n4B (zPl cr1_ inn1_ k11_)) g4_68, zAr T 0 a5_81 (zMk mdB n4B (zPl cr1_ inn1_ k11_)) g5_69, zAr T 0 a6_82 (zMk mdB n4B (zPl cr1_ inn1_ k11_)) g6_70]]) (br := [z0_, wwA, wt, [zO10 xo t im mk rd po co tr wa wb_ fi cd], z1_]) (As := [.int (nI i), .int a_]) (rest := [.int (nI sm)]) C G (c_steps l T wb_ l1 m2_63 wy2_64 pc2_65 g1_66 g2_67 f3B g4_68 g5_69 g6_70 (zMk mdB n4B (zPl cr1_ inn1_ k11_)) ([zO0 wb_ m2_63 wy2_64 l1 pc2_65 a1_77 a2_78 a3_79 a4_80 a5_81 a6_82, zAr T 0 a1_77 7 g1_66, zAr T 0 a2_78 7 g2_67, zAr T 0 a3_79 7 f3B, zAr T 0 a4_80 (zMk mdB n4B (zPl cr1_ inn1_ k11_)) g4_68, zAr T 0 a5_81 (zMk mdB n4B (zPl cr1_ inn1_ k11_)) g5_69, zAr T 0 a6_82 (zMk mdB n4B (zPl cr1_ inn1_ k11_)) g6_70]) (nI i) a_ hw_89 (by first | with_reducible assumption | with_reducible rfl | omega | assumption | rfl)) (kV_RX11_266 C.2.2.2.2 (Nat.le_of_ble_eq_true rfl) (Nat.le_of_ble_eq_true rfl)) [4] [4] rfl rfl (ci := 0) (qc := (RX0, TX0, 10)) rfl rfl (List.mem_flatten.mpr ⟨_, List.mem_of_getElem? (i := 0) rfl, (bWays_mem hw_89).choose_spec⟩) rfl rfl hl.1 dX11_mean_76 (Nat.le_of_ble_eq_true rfl) (by show _ + 0 ≤ 6 * (zNA (i1.toInt = 0 ∧ 0 < (fk 0).toInt ∧ 0 ≤ a_.toInt ∧ a_.toInt < cr0_.toInt ∧ a_.toInt < 7) mdA n4A (zPl cr0_ inn0_ k10_) - n4A) + 6 * (zNA (i1.toInt = 1 ∧ 1 < (fk 0).toInt ∧ 0 ≤ a_.toInt ∧ a_.toInt < cr1_.toInt ∧ a_.toInt < 7) mdB n4B (zPl cr1_ inn1_ k11_) - n4B); omega) (fun r_101 b1 H locs hw G => ?_)
          refine zAn2 hw ?_
          intro hbs9 h_100
          clear hw
          subst hbs9
          have G : zS T A s.heap s [z0_, wwA, wt, [zO10 xo t im mk rd po co tr wa wb_ fi cd], z1_, [zO0 wb_ m2_63 wy2_64 l1 pc2_65 a1_77 a2_78 a3_79 a4_80 a5_81 a6_82, zAr T 0 a1_77 7 g1_66, zAr T 0 a2_78 7 g2_67, zAr T 0 a3_79 7 f3B, zAr T 0 a4_80 (zMk mdB n4B (zPl cr1_ inn1_ k11_)) g4_68, zAr T 0 a5_81 (zMk mdB n4B (zPl cr1_ inn1_ k11_)) g5_69, zAr T 0 a6_82 (zMk mdB n4B (zPl cr1_ inn1_ k11_)) g6_70]] _ _ := G
          subst h_100
          refine lv_topi (fun y_102 ey_102 => ?_)
          obtain rfl : y_102 = nI (rStp (aW cr1_ inn1_ k11_) k21_ i a_) := ey_102.trans (hE9.2.1)
          refine lv_iadd hx hb dX11_mean_79 ?_
          refine lv_topi (fun y_103 ey_103 => ?_)
          obtain rfl : y_103 = nI (sm + (rStp (aW cr1_ inn1_ k11_) k21_ i a_)) := ey_103.trans (z_iaddn sm (rStp (aW cr1_ inn1_ k11_) k21_ i a_) rfl rfl)
          refine lv_istore (lv' := [(6, .int (nI (sm + (rStp (aW cr1_ inn1_ k11_) k21_ i a_)))), (7, .int (nI i)), (5, .ref wb_), (4, .ref l1), (0, .ref xo), (1, .int i1), (2, .int a_), (3, .int w_)]) hx hb dX11_mean_80 hl (by decide) (zLvf_h rfl) (fun ls hl => ?_)
          refine lv_iinc (v := nI (i + 1)) (lv' := [(7, .int (nI (i + 1))), (6, .int (nI (sm + (rStp (aW cr1_ inn1_ k11_) k21_ i a_)))), (5, .ref wb_), (4, .ref l1), (0, .ref xo), (1, .int i1), (2, .int a_), (3, .int w_)]) hx hb dX11_mean_82 hl (k := 1) rfl (z_inc i 1) (by decide) (zLvf_h rfl) (fun ls hl => ?_)
          refine lv_goto (tgt := 41) hx hb dX11_mean_85 (by decide) ?_
          have G := G.sub (bs' := [z0_, wwA, wt, [zO10 xo t im mk rd po co tr wa wb_ fi cd], [zO0 wb_ m2_63 wy2_64 l1 pc2_65 a1_77 a2_78 a3_79 a4_80 a5_81 a6_82, zAr T 0 a1_77 7 g1_66, zAr T 0 a2_78 7 g2_67, zAr T 0 a3_79 7 f3B, zAr T 0 a4_80 (zMk mdB n4B (zPl cr1_ inn1_ k11_)) g4_68, zAr T 0 a5_81 (zMk mdB n4B (zPl cr1_ inn1_ k11_)) g5_69, zAr T 0 a6_82 (zMk mdB n4B (zPl cr1_ inn1_ k11_)) g6_70], z1_]) [0, 1, 2, 3, 5, 4] rfl
          exact ih_41 (i + 1) (sm + (rStp (aW cr1_ inn1_ k11_) k21_ i a_)) (show (i + 1) ≤ aPr (aW cr1_ inn1_ k11_) 7 ∧ rAll (fun w => decide (zBit inn1_ (rWh (aW cr1_ inn1_ k11_) k21_ w a_) = 1)) (i + 1) = true ∧ (sm + (rStp (aW cr1_ inn1_ k11_) k21_ i a_)) = rSu (fun w => rStp (aW cr1_ inn1_ k11_) k21_ w a_) (i + 1) from ⟨(by omega), (rAll_s (p := (fun w => decide (zBit inn1_ (rWh (aW cr1_ inn1_ k11_) k21_ w a_) = 1))) hal (decide_eq_true hyi)), (by rw [hsm]; rfl)⟩) (show aPr (aW cr1_ inn1_ k11_) 7 - (i + 1) < aPr (aW cr1_ inn1_ k11_) 7 - i from by omega) _ _ ls G (lv_sub hl [0, 1, 2, 3, 4, 5, 6, 7] rfl)
        · have h_99 : ((rWh (aW cr1_ inn1_ k11_) k21_ i a_).toInt < 0 ∨ cr1_.toInt ≤ (rWh (aW cr1_ inn1_ k11_) k21_ i a_).toInt ∨ 7 ≤ (rWh (aW cr1_ inn1_ k11_) k21_ i a_).toInt ∨ zBit inn1_ (rWh (aW cr1_ inn1_ k11_) k21_ i a_) = 0) := h_99
          have hni : ¬ zBit inn1_ (rWh (aW cr1_ inn1_ k11_) k21_ i a_) = 1 := by rcases h_99 with e9 | e9 | e9 | e9 <;> first | (exfalso; omega) | exact fun q9 => zBit_o q9 e9
          refine lv_if_ne (tgt := 69) hx hb dX11_mean_64 (by decide) (fun q => absurd (by decide) q) (fun _ => ?_)
          refine lv_iconst (v := (-1)) hx hb dX11_mean_67 (by decide) ?_
          have G := G.sub (bs' := [[zO10 xo t im mk rd po co tr wa wb_ fi cd], wt, z0_, z1_, wwA, [zO0 wb_ m2_63 wy2_64 l1 pc2_65 a1_77 a2_78 a3_79 a4_80 a5_81 a6_82, zAr T 0 a1_77 7 g1_66, zAr T 0 a2_78 7 g2_67, zAr T 0 a3_79 7 f3B, zAr T 0 a4_80 (zMk mdB n4B (zPl cr1_ inn1_ k11_)) g4_68, zAr T 0 a5_81 (zMk mdB n4B (zPl cr1_ inn1_ k11_)) g5_69, zAr T 0 a6_82 (zMk mdB n4B (zPl cr1_ inn1_ k11_)) g6_70]]) [3, 2, 0, 5, 1, 4] rfl
          exact z_back hQz_ (z_iret C hr hlocks G (Nat.le_of_ble_eq_true rfl) (by omega) dX11_mean_68 ⟨laA, mdA, wyA, pc_A, f1A, f2A, f3A, f4A, f5A, f6A, n4A, wwA, l1, m2_63, wy2_64, pc2_65, g1_66, g2_67, f3B, g4_68, g5_69, g6_70, (zMk mdB n4B (zPl cr1_ inn1_ k11_)), ([zO0 wb_ m2_63 wy2_64 l1 pc2_65 a1_77 a2_78 a3_79 a4_80 a5_81 a6_82, zAr T 0 a1_77 7 g1_66, zAr T 0 a2_78 7 g2_67, zAr T 0 a3_79 7 f3B, zAr T 0 a4_80 (zMk mdB n4B (zPl cr1_ inn1_ k11_)) g4_68, zAr T 0 a5_81 (zMk mdB n4B (zPl cr1_ inn1_ k11_)) g5_69, zAr T 0 a6_82 (zMk mdB n4B (zPl cr1_ inn1_ k11_)) g6_70]), rfl, hwwA, hmdA, hwmA, (by first | exact hNAo.symm | exact (zNA_n (by first | omega | grind)).symm), hpwA, (fun q => q), hTbA, hw_89, (Or.inr rfl), hwy9, hNAm.symm, (zMk_pw hpwB), (fun _ => h_74), (Or.inr h_75), (Or.inr (Or.inr ⟨by first | with_reducible assumption | assumption, by first | with_reducible assumption | assumption, (by unfold kMean; rw [if_pos ⟨by omega, by omega⟩]; unfold rMean; exact Eq.symm (if_neg (fun q8 => hni (of_decide_eq_true ((rAll_y (p := (fun w => decide (zBit inn1_ (rWh (aW cr1_ inn1_ k11_) k21_ w a_) = 1))) (aPr (aW cr1_ inn1_ k11_) 7)).mp q8 i (by omega))))))⟩))⟩)
    · have h_61 : (a_.toInt < 0 ∨ cr1_.toInt ≤ a_.toInt ∨ 7 ≤ a_.toInt) := h_61
      refine lv_if_ne (tgt := 26) hx hb dX11_mean_21 (by decide) (fun q => absurd (by decide) q) (fun _ => ?_)
      refine lv_iconst (v := (-1)) hx hb dX11_mean_24 (by decide) ?_
      have G := G.sub (bs' := [[zO10 xo t im mk rd po co tr wa wb_ fi cd], wt, z0_, z1_, wwA, wwB]) [0, 4, 1, 5, 2, 3] rfl
      exact z_back hQz_ (z_iret C hr hlocks G (Nat.le_of_ble_eq_true rfl) (by omega) dX11_mean_25 ⟨laA, mdA, wyA, pc_A, f1A, f2A, f3A, f4A, f5A, f6A, n4A, wwA, laB, mdB, wyB, pc_B, f1B, f2B, f3B, f4B, f5B, f6B, n4B, wwB, rfl, hwwA, hmdA, hwmA, (by first | exact hNAo.symm | exact (zNA_n (by first | omega | grind)).symm), hpwA, (fun q => q), hTbA, hwwB, hmdB, hwmB, (by first | exact hNAo.symm | exact (zNA_n (by first | omega | grind)).symm), hpwB, (fun q => q), hTbB, (Or.inr (Or.inr ⟨by first | with_reducible assumption | assumption, by first | with_reducible assumption | assumption, (by have q9 := hI1_.1; unfold kMean; rw [if_neg (by omega)])⟩))⟩)
set_option maxHeartbeats 4000000 in
set_option maxRecDepth 100000 in
/-- c_f_back -/
theorem c_f_back (l : Launch) (T : zTy) (xo : Nat) (t : Nat) (im : Nat) (mk : Nat) (rd : Nat) (po : Nat) (co : Nat) (tr : Nat) (wa : Nat) (wb_ : Nat) (fi : Nat) (cd : Nat) (l0 : Nat) (l1 : Nat) (d0 : Nat) (d1 : Nat) (g0 : Nat) (g1 : Nat) (ln : Int32) (fl : Int32) (pl : Int32) (ft : Nat → Int32) (fk : Nat → Int32) (wt : va_W) (cr0_ : Int32) (inn0_ : Int32) (k10_ : Nat → Int32) (k20_ : Nat → Int32) (k30_ : Nat → Int32) (k40_ : Nat → Int32) (z0_ : va_W) (cr1_ : Int32) (inn1_ : Int32) (k11_ : Nat → Int32) (k21_ : Nat → Int32) (k31_ : Nat → Int32) (k41_ : Nat → Int32) (z1_ : va_W) (laA : Nat) (mdA : Int32) (wyA : Int32) (pc_A : Int32) (f1A : Nat → Int32) (f2A : Nat → Int32) (f3A : Nat → Int32) (f4A : Nat → Int32) (f5A : Nat → Int32) (f6A : Nat → Int32) (n4A : Nat) (wwA : va_W) (laB : Nat) (mdB : Int32) (wyB : Int32) (pc_B : Int32) (f1B : Nat → Int32) (f2B : Nat → Int32) (f3B : Nat → Int32) (f4B : Nat → Int32) (f5B : Nat → Int32) (f6B : Nat → Int32) (n4B : Nat) (wwB : va_W) (i1 : Int32) (a_ : Int32) (ht : bTold T t l0 l1 d0 d1 g0 g1 ln fl pl ft fk wt) (hK : zKT fk) (hz0_ : bLand T l0 cr0_ inn0_ k10_ k20_ k30_ k40_ z0_) (hI0_ : zLI cr0_ k10_ k30_) (hz1_ : bLand T l1 cr1_ inn1_ k11_ k21_ k31_ k41_ z1_) (hI1_ : zLI cr1_ k11_ k31_) (hwwA : bWays T wa laA mdA wyA pc_A f1A f2A f3A f4A f5A f6A n4A wwA) (hpwA : zPw n4A) (hmdA : mdA = 0 ∨ laA = l0) (hwmA : 0 ≤ wyA.toInt ∧ wyA.toInt ≤ 16384) (hTbA : mdA = 0 ∨ zTab cr0_ inn0_ k10_ k20_ wyA pc_A f1A f2A f5A n4A) (hLq0 : zLq cr0_ k10_ k20_) (hwwB : bWays T wb_ laB mdB wyB pc_B f1B f2B f3B f4B f5B f6B n4B wwB) (hpwB : zPw n4B) (hmdB : mdB = 0 ∨ laB = l1) (hwmB : 0 ≤ wyB.toInt ∧ wyB.toInt ≤ 16384) (hTbB : mdB = 0 ∨ zTab cr1_ inn1_ k11_ k21_ wyB pc_B f1B f2B f5B n4B) (hLq1 : zLq cr1_ k11_ k21_) : zMi l T yX11_back cX11_back 8 (some .int) 7 3 (6 * (zNA (i1.toInt = 0 ∧ 0 < (fk 0).toInt ∧ 0 ≤ a_.toInt ∧ a_.toInt < cr0_.toInt ∧ a_.toInt < 7) mdA n4A (zPl cr0_ inn0_ k10_) - n4A) + 6 * (zNA (i1.toInt = 1 ∧ 1 < (fk 0).toInt ∧ 0 ≤ a_.toInt ∧ a_.toInt < cr1_.toInt ∧ a_.toInt < 7) mdB n4B (zPl cr1_ inn1_ k11_) - n4B)) [.ref xo, .int i1, .int a_] [[zO10 xo t im mk rd po co tr wa wb_ fi cd], wt, z0_, z1_, wwA, wwB] (fun (r : Int32) bs => ∃ (laA_2 : Nat) (mdA_2 : Int32) (wyA_2 : Int32) (pc_A_2 : Int32) (f1A_2 : Nat → Int32) (f2A_2 : Nat → Int32) (f3A_2 : Nat → Int32) (f4A_2 : Nat → Int32) (f5A_2 : Nat → Int32) (f6A_2 : Nat → Int32) (n4A_2 : Nat) (wwA_2 : va_W) (laB_2 : Nat) (mdB_2 : Int32) (wyB_2 : Int32) (pc_B_2 : Int32) (f1B_2 : Nat → Int32) (f2B_2 : Nat → Int32) (f3B_2 : Nat → Int32) (f4B_2 : Nat → Int32) (f5B_2 : Nat → Int32) (f6B_2 : Nat → Int32) (n4B_2 : Nat) (wwB_2 : va_W), bs = [[zO10 xo t im mk rd po co tr wa wb_ fi cd], wt, z0_, z1_, wwA_2, wwB_2] ∧ bWays T wa laA_2 mdA_2 wyA_2 pc_A_2 f1A_2 f2A_2 f3A_2 f4A_2 f5A_2 f6A_2 n4A_2 wwA_2 ∧ (mdA_2 = 0 ∨ laA_2 = l0) ∧ (0 ≤ wyA_2.toInt ∧ wyA_2.toInt ≤ 16384) ∧ n4A_2 = zNA (i1.toInt = 0 ∧ 0 < (fk 0).toInt ∧ 0 ≤ a_.toInt ∧ a_.toInt < cr0_.toInt ∧ a_.toInt < 7) mdA n4A (zPl cr0_ inn0_ k10_) ∧ zPw n4A_2 ∧ (¬ mdA = 0 → ¬ mdA_2 = 0) ∧ (mdA_2 = 0 ∨ zTab cr0_ inn0_ k10_ k20_ wyA_2 pc_A_2 f1A_2 f2A_2 f5A_2 n4A_2) ∧ bWays T wb_ laB_2 mdB_2 wyB_2 pc_B_2 f1B_2 f2B_2 f3B_2 f4B_2 f5B_2 f6B_2 n4B_2 wwB_2 ∧ (mdB_2 = 0 ∨ laB_2 = l1) ∧ (0 ≤ wyB_2.toInt ∧ wyB_2.toInt ≤ 16384) ∧ n4B_2 = zNA (i1.toInt = 1 ∧ 1 < (fk 0).toInt ∧ 0 ≤ a_.toInt ∧ a_.toInt < cr1_.toInt ∧ a_.toInt < 7) mdB n4B (zPl cr1_ inn1_ k11_) ∧ zPw n4B_2 ∧ (¬ mdB = 0 → ¬ mdB_2 = 0) ∧ (mdB_2 = 0 ∨ zTab cr1_ inn1_ k11_ k21_ wyB_2 pc_B_2 f1B_2 f2B_2 f5B_2 n4B_2) ∧ ((i1.toInt < 0 ∨ (fk 0).toInt ≤ i1.toInt ∨ 2 ≤ i1.toInt) ∧ r = -1 ∨ i1.toInt = 0 ∧ 0 < (fk 0).toInt ∧ r = kBack cr0_ inn0_ k10_ k20_ k30_ a_ ∨ i1.toInt = 1 ∧ 1 < (fk 0).toInt ∧ r = kBack cr1_ inn1_ k11_ k21_ k31_ a_)) := by
  refine zMi_of (own := RX11) (by decide) rfl (Nat.le_of_ble_eq_true rfl) ?_
  intro p e s m args below meth c A ls C hr hlocks hnm hAe G hl
  refine zHide (fun Qz_ hQz_ => ?_)
  have hx := C.1
  have hb := C.2.1
  replace hmdA : zHd (mdA = 0 ∨ laA = l0) := hmdA
  replace hTbA : zHd (mdA = 0 ∨ zTab cr0_ inn0_ k10_ k20_ wyA pc_A f1A f2A f5A n4A) := hTbA
  replace hmdB : zHd (mdB = 0 ∨ laB = l1) := hmdB
  replace hTbB : zHd (mdB = 0 ∨ zTab cr1_ inn1_ k11_ k21_ wyB pc_B f1B f2B f5B n4B) := hTbB
  have hl : lv_has ls 8 [(0, .ref xo), (1, .int i1), (2, .int a_)] := hl
  refine lv_aload_n hx hb dX11_back_0 rfl (lv_at hl 0 rfl) ?_
  refine z_get C G clX11 0 rfl 0 (by decide) m_fl_RX11_10 rfl dX11_back_1 ?_
  refine lv_iload_n hx hb dX11_back_4 rfl (lv_at hl 1 rfl) ?_
  refine z_Vq (bc := [wt]) (br := [[zO10 xo t im mk rd po co tr wa wb_ fi cd], z0_, z1_, wwA, wwB]) (As := [.int i1]) (rest := []) C G (c_landAt l T t l0 l1 d0 d1 g0 g1 ln fl pl ft fk wt i1 ht) (kV_RX11_121 C.2.2.2.2 (Nat.le_of_ble_eq_true rfl) (Nat.le_of_ble_eq_true rfl)) [1] [1] rfl rfl (ci := 8) (qc := (RX9, TX9, 8)) rfl rfl (List.mem_flatten.mpr ⟨_, List.mem_of_getElem? (i := 0) rfl, (bTold_mem ht).choose_spec⟩) rfl rfl hl.1 dX11_back_5 (Nat.le_of_ble_eq_true rfl) (by show _ + 0 ≤ 6 * (zNA (i1.toInt = 0 ∧ 0 < (fk 0).toInt ∧ 0 ≤ a_.toInt ∧ a_.toInt < cr0_.toInt ∧ a_.toInt < 7) mdA n4A (zPl cr0_ inn0_ k10_) - n4A) + 6 * (zNA (i1.toInt = 1 ∧ 1 < (fk 0).toInt ∧ 0 ≤ a_.toInt ∧ a_.toInt < cr1_.toInt ∧ a_.toInt < 7) mdB n4B (zPl cr1_ inn1_ k11_) - n4B); omega) (fun r_2 b1 H locs hw G => ?_)
  refine zAn2 hw ?_
  intro hbs9 hc_1
  clear hw
  subst hbs9
  have G : zS T A s.heap s [[zO10 xo t im mk rd po co tr wa wb_ fi cd], z0_, z1_, wwA, wwB, wt] _ _ := G
  rcases hc_1 with ⟨rfl, h_3⟩ | ⟨rfl, h_4, h_5⟩ | ⟨rfl, h_6, h_7⟩
  · have h_3 : (i1.toInt < 0 ∨ (fk 0).toInt ≤ i1.toInt ∨ 2 ≤ i1.toInt) := h_3
    refine lv_astore_nN (lv' := [(3, .null), (0, .ref xo), (1, .int i1), (2, .int a_)]) hx hb dX11_back_8 rfl hl (by decide) (zLvf_h rfl) (fun ls hl => ?_)
    refine lv_aload_nN hx hb dX11_back_9 rfl (lv_at hl 0 rfl) ?_
    refine lv_ifnullN (tgt := 21) hx hb dX11_back_10 (by decide) ?_
    refine lv_iconst (v := (-1)) hx hb dX11_back_21 (by decide) ?_
    have G := G.sub (bs' := [[zO10 xo t im mk rd po co tr wa wb_ fi cd], wt, z0_, z1_, wwA, wwB]) [0, 5, 1, 2, 3, 4] rfl
    exact z_back hQz_ (z_iret C hr hlocks G (Nat.le_of_ble_eq_true rfl) (by omega) dX11_back_22 ⟨laA, mdA, wyA, pc_A, f1A, f2A, f3A, f4A, f5A, f6A, n4A, wwA, laB, mdB, wyB, pc_B, f1B, f2B, f3B, f4B, f5B, f6B, n4B, wwB, rfl, hwwA, hmdA, hwmA, (by first | exact hNAo.symm | exact (zNA_n (by first | omega | grind)).symm), hpwA, (fun q => q), hTbA, hwwB, hmdB, hwmB, (by first | exact hNAo.symm | exact (zNA_n (by first | omega | grind)).symm), hpwB, (fun q => q), hTbB, (Or.inl ⟨by first | with_reducible assumption | assumption, rfl⟩)⟩)
  · have h_4 : i1.toInt = 0 := h_4
    have h_5 : 0 < (fk 0).toInt := h_5
    refine lv_astore_n (lv' := [(3, .ref l0), (0, .ref xo), (1, .int i1), (2, .int a_)]) hx hb dX11_back_8 rfl hl (by decide) (zLvf_h rfl) (fun ls hl => ?_)
    refine lv_aload_n hx hb dX11_back_9 rfl (lv_at hl 0 rfl) ?_
    refine lv_ifnull hx hb dX11_back_10 ?_
    refine lv_aload_n hx hb dX11_back_13 rfl (lv_at hl 0 rfl) ?_
    refine lv_iload_n hx hb dX11_back_14 rfl (lv_at hl 3 rfl) ?_
    refine z_Vi (bc := [z0_]) (br := [[zO10 xo t im mk rd po co tr wa wb_ fi cd], z1_, wwA, wwB, wt]) (As := [.int a_]) (rest := []) C G (c_has l T l0 cr0_ inn0_ k10_ k20_ k30_ k40_ z0_ a_ hz0_) (kV_RX11_160 C.2.2.2.2 (Nat.le_of_ble_eq_true rfl) (Nat.le_of_ble_eq_true rfl)) [1] [1] rfl rfl (ci := 4) (qc := (RX4, TX4, 6)) rfl rfl (List.mem_flatten.mpr ⟨_, List.mem_of_getElem? (i := 0) rfl, (bLand_mem hz0_).choose_spec⟩) rfl rfl hl.1 dX11_back_15 (Nat.le_of_ble_eq_true rfl) (by show _ + 0 ≤ 6 * (zNA (i1.toInt = 0 ∧ 0 < (fk 0).toInt ∧ 0 ≤ a_.toInt ∧ a_.toInt < cr0_.toInt ∧ a_.toInt < 7) mdA n4A (zPl cr0_ inn0_ k10_) - n4A) + 6 * (zNA (i1.toInt = 1 ∧ 1 < (fk 0).toInt ∧ 0 ≤ a_.toInt ∧ a_.toInt < cr1_.toInt ∧ a_.toInt < 7) mdB n4B (zPl cr1_ inn1_ k11_) - n4B); omega) (fun r_9 b1 H locs hw G => ?_)
    refine zAn2 hw ?_
    intro hbs9 hc_8
    clear hw
    subst hbs9
    have G : zS T A s.heap s [[zO10 xo t im mk rd po co tr wa wb_ fi cd], z1_, wwA, wwB, wt, z0_] _ _ := G
    rcases hc_8 with ⟨rfl, h_10, h_11, h_12⟩ | ⟨rfl, h_13⟩
    · have h_10 : 0 ≤ a_.toInt := h_10
      have h_11 : a_.toInt < cr0_.toInt := h_11
      have h_12 : a_.toInt < 7 := h_12
      refine lv_if_ne (tgt := 23) hx hb dX11_back_18 (by decide) (fun _ => ?_) (fun q => absurd q (by decide))
      refine lv_aload_n hx hb dX11_back_23 rfl (lv_at hl 1 rfl) ?_
      refine lv_iload_n hx hb dX11_back_24 rfl (lv_at hl 2 rfl) ?_
      refine lv_aload_n hx hb dX11_back_25 rfl (lv_at hl 0 rfl) ?_
      have hNAm : zNA (i1.toInt = 0 ∧ 0 < (fk 0).toInt ∧ 0 ≤ a_.toInt ∧ a_.toInt < cr0_.toInt ∧ a_.toInt < 7) mdA n4A (zPl cr0_ inn0_ k10_) = zMk mdA n4A (zPl cr0_ inn0_ k10_) := zNA_y (by first | omega | (repeat' (first | omega | assumption | constructor)))
      have hNAo : zNA (i1.toInt = 1 ∧ 1 < (fk 0).toInt ∧ 0 ≤ a_.toInt ∧ a_.toInt < cr1_.toInt ∧ a_.toInt < 7) mdB n4B (zPl cr1_ inn1_ k11_) = n4B := zNA_n (by omega)
      have hn9 : zMk mdA n4A (zPl cr0_ inn0_ k10_) ≤ 131072 := zPw_le (zMk_pw hpwA)
      refine z_Vq (bc := [[zO10 xo t im mk rd po co tr wa wb_ fi cd], wwA, z0_]) (br := [z1_, wwB, wt]) (As := [.int i1, .ref l0]) (rest := []) C G (c_f_waysInA l T xo t im mk rd po co tr wa wb_ fi cd i1 laA mdA wyA pc_A f1A f2A f3A f4A f5A f6A n4A wwA l0 cr0_ inn0_ k10_ k20_ k30_ k40_ z0_ hwwA hz0_ hI0_ hpwA hmdA (kaOk hI0_ hLq0).1 hTbA (by omega)) (kV_RX11_235 C.2.2.2.2 (Nat.le_of_ble_eq_true rfl) (Nat.le_of_ble_eq_true rfl)) [0, 2, 5] [0, 1, 2] rfl rfl (ci := 10) (qc := (RX11, TX11, 11)) rfl rfl (List.mem_flatten.mpr ⟨_, List.mem_of_getElem? (i := 0) rfl, List.mem_cons_self⟩) rfl rfl hl.1 dX11_back_26 (Nat.le_of_ble_eq_true rfl) (by show _ + (6 * (zMk mdA n4A (zPl cr0_ inn0_ k10_) - n4A)) ≤ 6 * (zNA (i1.toInt = 0 ∧ 0 < (fk 0).toInt ∧ 0 ≤ a_.toInt ∧ a_.toInt < cr0_.toInt ∧ a_.toInt < 7) mdA n4A (zPl cr0_ inn0_ k10_) - n4A) + 6 * (zNA (i1.toInt = 1 ∧ 1 < (fk 0).toInt ∧ 0 ≤ a_.toInt ∧ a_.toInt < cr1_.toInt ∧ a_.toInt < 7) mdB n4B (zPl cr1_ inn1_ k11_) - n4B); omega) (fun r_28 b1 H locs hw G => ?_)
      refine zEx9 hw ?_
      intro w2_14 m2_15 wy2_16 pc2_17 g1_18 g2_19 g4_20 g5_21 g6_22
      refine zCu6 ?_
      intro hbs9 h_23 h_24 h_25 h_26 h_27
      clear hw
      subst hbs9
      have G : zS T A s.heap s [z1_, wwB, wt, [zO10 xo t im mk rd po co tr wa wb_ fi cd], w2_14, z0_] _ _ := G
      subst h_23
      have hwy9 : 0 ≤ wy2_16.toInt ∧ wy2_16.toInt ≤ 16384 := by have q9 := zWy_in (inn := inn0_) hI0_; rw [h_25]; exact ⟨by omega, q9.2⟩
      have hp79 : aPr (aW cr0_ inn0_ k10_) 7 ≤ 16384 := aPr_7 hI0_
      have hwN9 : wy2_16 = nI (aPr (aW cr0_ inn0_ k10_) 7) := h_25.trans (zWy_z hI0_)
      have hwT9 : wy2_16.toInt = ((aPr (aW cr0_ inn0_ k10_) 7 : Nat) : Int) := by rw [hwN9, nI_toInt (by omega)]
      have hOk9 := (kaOk (inn := inn0_) hI0_ hLq0).1
      have hc79 := hI0_.1
      refine lv_astore (lv' := [(4, .ref wa), (3, .ref l0), (0, .ref xo), (1, .int i1), (2, .int a_)]) hx hb dX11_back_29 hl (by decide) (zLvf_h rfl) (fun ls hl => ?_)
      refine lv_aload hx hb dX11_back_31 (lv_at hl 0 rfl) ?_
      refine z_Vi (bc := [w2_14, z0_]) (br := [z1_, wwB, wt, [zO10 xo t im mk rd po co tr wa wb_ fi cd]]) (As := []) (rest := []) C G (c_f_wayTold l T wa l0 m2_15 wy2_16 pc2_17 g1_18 g2_19 f3A g4_20 g5_21 g6_22 (zMk mdA n4A (zPl cr0_ inn0_ k10_)) w2_14 cr0_ inn0_ k10_ k20_ k30_ k40_ z0_ h_24 hz0_ hI0_ h_27.2.2.1 hOk9) (kV_RX11_242 C.2.2.2.2 (Nat.le_of_ble_eq_true rfl) (Nat.le_of_ble_eq_true rfl)) [4, 5] [4, 0] rfl rfl (ci := 0) (qc := (RX0, TX0, 10)) rfl rfl (List.mem_flatten.mpr ⟨_, List.mem_of_getElem? (i := 0) rfl, (bWays_mem h_24).choose_spec⟩) rfl rfl hl.1 dX11_back_33 (Nat.le_of_ble_eq_true rfl) (by show _ + 0 ≤ 6 * (zNA (i1.toInt = 0 ∧ 0 < (fk 0).toInt ∧ 0 ≤ a_.toInt ∧ a_.toInt < cr0_.toInt ∧ a_.toInt < 7) mdA n4A (zPl cr0_ inn0_ k10_) - n4A) + 6 * (zNA (i1.toInt = 1 ∧ 1 < (fk 0).toInt ∧ 0 ≤ a_.toInt ∧ a_.toInt < cr1_.toInt ∧ a_.toInt < 7) mdB n4B (zPl cr1_ inn1_ k11_) - n4B); omega) (fun r_30 b1 H locs hw G => ?_)
      refine zAn2 hw ?_
      intro hbs9 h_29
      clear hw
      subst hbs9
      have G : zS T A s.heap s [z1_, wwB, wt, [zO10 xo t im mk rd po co tr wa wb_ fi cd], w2_14, z0_] _ _ := G
      have hwt9 : r_30 = nI (aRs (aW cr0_ inn0_ k10_) k30_ 7) := h_29
      refine lv_istore (lv' := [(5, .int r_30), (4, .ref wa), (3, .ref l0), (0, .ref xo), (1, .int i1), (2, .int a_)]) hx hb dX11_back_36 hl (by decide) (zLvf_h rfl) (fun ls hl => ?_)
      refine lv_iconst (v := 0) hx hb dX11_back_38 (by decide) ?_
      refine lv_istore (lv' := [(6, .int 0), (5, .int r_30), (4, .ref wa), (3, .ref l0), (0, .ref xo), (1, .int i1), (2, .int a_)]) hx hb dX11_back_39 hl (by decide) (zLvf_h rfl) (fun ls hl => ?_)
      refine lv_iconst (v := 0) hx hb dX11_back_41 (by decide) ?_
      refine lv_istore (lv' := [(7, .int 0), (6, .int 0), (5, .int r_30), (4, .ref wa), (3, .ref l0), (0, .ref xo), (1, .int i1), (2, .int a_)]) hx hb dX11_back_42 hl (by decide) (zLvf_h rfl) (fun ls hl => ?_)
      refine zEx6 h_24 ?_
      intro a1_31 a2_32 a3_33 a4_34 a5_35 a6_36 hbs9
      clear h_24
      subst hbs9
      have G : zS T A s.heap s [z1_, wwB, wt, [zO10 xo t im mk rd po co tr wa wb_ fi cd], [zO0 wa m2_15 wy2_16 l0 pc2_17 a1_31 a2_32 a3_33 a4_34 a5_35 a6_36], [zAr T 0 a1_31 7 g1_18], [zAr T 0 a2_32 7 g2_19], [zAr T 0 a3_33 7 f3A], [zAr T 0 a4_34 (zMk mdA n4A (zPl cr0_ inn0_ k10_)) g4_20], [zAr T 0 a5_35 (zMk mdA n4A (zPl cr0_ inn0_ k10_)) g5_21], [zAr T 0 a6_36 (zMk mdA n4A (zPl cr0_ inn0_ k10_)) g6_22], z0_] _ _ := G.re rfl
      have hw_37 : bWays T wa l0 m2_15 wy2_16 pc2_17 g1_18 g2_19 f3A g4_20 g5_21 g6_22 (zMk mdA n4A (zPl cr0_ inn0_ k10_)) [zO0 wa m2_15 wy2_16 l0 pc2_17 a1_31 a2_32 a3_33 a4_34 a5_35 a6_36, zAr T 0 a1_31 7 g1_18, zAr T 0 a2_32 7 g2_19, zAr T 0 a3_33 7 f3A, zAr T 0 a4_34 (zMk mdA n4A (zPl cr0_ inn0_ k10_)) g4_20, zAr T 0 a5_35 (zMk mdA n4A (zPl cr0_ inn0_ k10_)) g5_21, zAr T 0 a6_36 (zMk mdA n4A (zPl cr0_ inn0_ k10_)) g6_22] := ⟨a1_31, a2_32, a3_33, a4_34, a5_35, a6_36, rfl⟩
      have G : zS T A s.heap s [z1_, wwB, wt, [zO10 xo t im mk rd po co tr wa wb_ fi cd], [zO0 wa m2_15 wy2_16 l0 pc2_17 a1_31 a2_32 a3_33 a4_34 a5_35 a6_36, zAr T 0 a1_31 7 g1_18, zAr T 0 a2_32 7 g2_19, zAr T 0 a3_33 7 f3A, zAr T 0 a4_34 (zMk mdA n4A (zPl cr0_ inn0_ k10_)) g4_20, zAr T 0 a5_35 (zMk mdA n4A (zPl cr0_ inn0_ k10_)) g5_21, zAr T 0 a6_36 (zMk mdA n4A (zPl cr0_ inn0_ k10_)) g6_22], z0_] _ _ := G.re rfl
      refine z_lp2 (T := T) 44 (fun (i : Nat) (cm : Nat) => [z1_, wwB, wt, [zO10 xo t im mk rd po co tr wa wb_ fi cd], [zO0 wa m2_15 wy2_16 l0 pc2_17 a1_31 a2_32 a3_33 a4_34 a5_35 a6_36, zAr T 0 a1_31 7 g1_18, zAr T 0 a2_32 7 g2_19, zAr T 0 a3_33 7 f3A, zAr T 0 a4_34 (zMk mdA n4A (zPl cr0_ inn0_ k10_)) g4_20, zAr T 0 a5_35 (zMk mdA n4A (zPl cr0_ inn0_ k10_)) g5_21, zAr T 0 a6_36 (zMk mdA n4A (zPl cr0_ inn0_ k10_)) g6_22], z0_]) (fun (i : Nat) (cm : Nat) => [(7, .int (nI i)), (6, .int (nI cm)), (5, .int r_30), (4, .ref wa), (3, .ref l0), (0, .ref xo), (1, .int i1), (2, .int a_)]) (fun (i : Nat) (cm : Nat) => i ≤ aPr (aW cr0_ inn0_ k10_) 7 ∧ cm = rCn (fun w => decide (nI (rAf (aW cr0_ inn0_ k10_) k20_ w a_) = nI (aRs (aW cr0_ inn0_ k10_) k30_ 7))) i) (fun (i : Nat) (cm : Nat) => aPr (aW cr0_ inn0_ k10_) 7 - i) ?_ 0 0 (show 0 ≤ aPr (aW cr0_ inn0_ k10_) 7 ∧ 0 = rCn (fun w => decide (nI (rAf (aW cr0_ inn0_ k10_) k20_ w a_) = nI (aRs (aW cr0_ inn0_ k10_) k30_ 7))) 0 from ⟨(Nat.zero_le _), rfl⟩) G (lv_sub hl [0, 1, 2, 3, 4, 5, 6, 7] rfl)
      intro i cm hI9 ih_44 H locs ls G hl
      replace hI9 : i ≤ aPr (aW cr0_ inn0_ k10_) 7 ∧ cm = rCn (fun w => decide (nI (rAf (aW cr0_ inn0_ k10_) k20_ w a_) = nI (aRs (aW cr0_ inn0_ k10_) k30_ 7))) i := hI9
      refine zAn2 hI9 ?_
      intro hi hcm
      clear hI9
      replace G : zS T A s.heap s [z1_, wwB, wt, [zO10 xo t im mk rd po co tr wa wb_ fi cd], [zO0 wa m2_15 wy2_16 l0 pc2_17 a1_31 a2_32 a3_33 a4_34 a5_35 a6_36, zAr T 0 a1_31 7 g1_18, zAr T 0 a2_32 7 g2_19, zAr T 0 a3_33 7 f3A, zAr T 0 a4_34 (zMk mdA n4A (zPl cr0_ inn0_ k10_)) g4_20, zAr T 0 a5_35 (zMk mdA n4A (zPl cr0_ inn0_ k10_)) g5_21, zAr T 0 a6_36 (zMk mdA n4A (zPl cr0_ inn0_ k10_)) g6_22], z0_] _ _ := G
      replace hl : lv_has ls 8 [(7, .int (nI i)), (6, .int (nI cm)), (5, .int r_30), (4, .ref wa), (3, .ref l0), (0, .ref xo), (1, .int i1), (2, .int a_)] := hl
      refine lv_iload hx hb dX11_back_44 (lv_at hl 0 rfl) ?_
      refine lv_aload hx hb dX11_back_46 (lv_at hl 3 rfl) ?_
      have G : zS T A s.heap s [z1_, wwB, wt, [zO10 xo t im mk rd po co tr wa wb_ fi cd], [zO0 wa m2_15 wy2_16 l0 pc2_17 a1_31 a2_32 a3_33 a4_34 a5_35 a6_36], [zAr T 0 a1_31 7 g1_18], [zAr T 0 a2_32 7 g2_19], [zAr T 0 a3_33 7 f3A], [zAr T 0 a4_34 (zMk mdA n4A (zPl cr0_ inn0_ k10_)) g4_20], [zAr T 0 a5_35 (zMk mdA n4A (zPl cr0_ inn0_ k10_)) g5_21], [zAr T 0 a6_36 (zMk mdA n4A (zPl cr0_ inn0_ k10_)) g6_22], z0_] _ _ := G.re rfl
      refine z_get C G clX0 4 rfl 1 (by decide) m_fl_RX11_257 rfl dX11_back_48 ?_
      refine lv_icmp_ge (tgt := 76) hx hb dX11_back_51 (by decide) (fun c_38 => ?_) (fun c_38 => ?_)
      · have c_38n : wy2_16.toInt ≤ (i : Int) := by have q := (fa_le _ _).mp c_38; rw [nI_toInt (n := i) (by omega)] at q; exact q
        refine lv_iload hx hb dX11_back_76 (lv_at hl 1 rfl) ?_
        have hw_39 : bWays T wa l0 m2_15 wy2_16 pc2_17 g1_18 g2_19 f3A g4_20 g5_21 g6_22 (zMk mdA n4A (zPl cr0_ inn0_ k10_)) [zO0 wa m2_15 wy2_16 l0 pc2_17 a1_31 a2_32 a3_33 a4_34 a5_35 a6_36, zAr T 0 a1_31 7 g1_18, zAr T 0 a2_32 7 g2_19, zAr T 0 a3_33 7 f3A, zAr T 0 a4_34 (zMk mdA n4A (zPl cr0_ inn0_ k10_)) g4_20, zAr T 0 a5_35 (zMk mdA n4A (zPl cr0_ inn0_ k10_)) g5_21, zAr T 0 a6_36 (zMk mdA n4A (zPl cr0_ inn0_ k10_)) g6_22] := ⟨a1_31, a2_32, a3_33, a4_34, a5_35, a6_36, rfl⟩
        have G : zS T A s.heap s [z1_, wwB, wt, [zO10 xo t im mk rd po co tr wa wb_ fi cd], [zO0 wa m2_15 wy2_16 l0 pc2_17 a1_31 a2_32 a3_33 a4_34 a5_35 a6_36, zAr T 0 a1_31 7 g1_18, zAr T 0 a2_32 7 g2_19, zAr T 0 a3_33 7 f3A, zAr T 0 a4_34 (zMk mdA n4A (zPl cr0_ inn0_ k10_)) g4_20, zAr T 0 a5_35 (zMk mdA n4A (zPl cr0_ inn0_ k10_)) g5_21, zAr T 0 a6_36 (zMk mdA n4A (zPl cr0_ inn0_ k10_)) g6_22], z0_] _ _ := G.re rfl
        have G := G.sub (bs' := [[zO10 xo t im mk rd po co tr wa wb_ fi cd], wt, z0_, z1_, [zO0 wa m2_15 wy2_16 l0 pc2_17 a1_31 a2_32 a3_33 a4_34 a5_35 a6_36, zAr T 0 a1_31 7 g1_18, zAr T 0 a2_32 7 g2_19, zAr T 0 a3_33 7 f3A, zAr T 0 a4_34 (zMk mdA n4A (zPl cr0_ inn0_ k10_)) g4_20, zAr T 0 a5_35 (zMk mdA n4A (zPl cr0_ inn0_ k10_)) g5_21, zAr T 0 a6_36 (zMk mdA n4A (zPl cr0_ inn0_ k10_)) g6_22], wwB]) [3, 2, 5, 0, 4, 1] rfl
        exact z_back hQz_ (z_iret C hr hlocks G (Nat.le_of_ble_eq_true rfl) (by omega) dX11_back_78 ⟨l0, m2_15, wy2_16, pc2_17, g1_18, g2_19, f3A, g4_20, g5_21, g6_22, (zMk mdA n4A (zPl cr0_ inn0_ k10_)), ([zO0 wa m2_15 wy2_16 l0 pc2_17 a1_31 a2_32 a3_33 a4_34 a5_35 a6_36, zAr T 0 a1_31 7 g1_18, zAr T 0 a2_32 7 g2_19, zAr T 0 a3_33 7 f3A, zAr T 0 a4_34 (zMk mdA n4A (zPl cr0_ inn0_ k10_)) g4_20, zAr T 0 a5_35 (zMk mdA n4A (zPl cr0_ inn0_ k10_)) g5_21, zAr T 0 a6_36 (zMk mdA n4A (zPl cr0_ inn0_ k10_)) g6_22]), laB, mdB, wyB, pc_B, f1B, f2B, f3B, f4B, f5B, f6B, n4B, wwB, rfl, hw_39, (Or.inr rfl), hwy9, hNAm.symm, (zMk_pw hpwA), (fun _ => h_26), (Or.inr h_27), hwwB, hmdB, hwmB, (by first | exact hNAo.symm | exact (zNA_n (by first | omega | grind)).symm), hpwB, (fun q => q), hTbB, (Or.inr (Or.inl ⟨by first | with_reducible assumption | assumption, by first | with_reducible assumption | assumption, (by unfold kBack; rw [if_pos ⟨by omega, by omega⟩, hcm, show i = aPr (aW cr0_ inn0_ k10_) 7 by omega]; rfl)⟩))⟩)
      · have c_38n : ¬ wy2_16.toInt ≤ (i : Int) := fun q => c_38 ((fa_le _ _).mpr (by rw [nI_toInt (n := i) (by omega)]; exact q))
        have hE9 := zEnt_w (w := i) (x := a_) hI0_ hOk9 h_27 (by omega) ⟨by omega, by omega, by omega⟩
        have hB9 := zEnt_b (inn := inn0_) (w := i) (x := a_) hI0_ hLq0 (by omega) ⟨by omega, by omega, by omega⟩
        refine lv_aload hx hb dX11_back_54 (lv_at hl 3 rfl) ?_
        refine lv_iload hx hb dX11_back_56 (lv_at hl 0 rfl) ?_
        refine lv_iload_n hx hb dX11_back_58 rfl (lv_at hl 7 rfl) ?_
        have hw_40 : bWays T wa l0 m2_15 wy2_16 pc2_17 g1_18 g2_19 f3A g4_20 g5_21 g6_22 (zMk mdA n4A (zPl cr0_ inn0_ k10_)) [zO0 wa m2_15 wy2_16 l0 pc2_17 a1_31 a2_32 a3_33 a4_34 a5_35 a6_36, zAr T 0 a1_31 7 g1_18, zAr T 0 a2_32 7 g2_19, zAr T 0 a3_33 7 f3A, zAr T 0 a4_34 (zMk mdA n4A (zPl cr0_ inn0_ k10_)) g4_20, zAr T 0 a5_35 (zMk mdA n4A (zPl cr0_ inn0_ k10_)) g5_21, zAr T 0 a6_36 (zMk mdA n4A (zPl cr0_ inn0_ k10_)) g6_22] := ⟨a1_31, a2_32, a3_33, a4_34, a5_35, a6_36, rfl⟩
        have G : zS T A s.heap s [z1_, wwB, wt, [zO10 xo t im mk rd po co tr wa wb_ fi cd], [zO0 wa m2_15 wy2_16 l0 pc2_17 a1_31 a2_32 a3_33 a4_34 a5_35 a6_36, zAr T 0 a1_31 7 g1_18, zAr T 0 a2_32 7 g2_19, zAr T 0 a3_33 7 f3A, zAr T 0 a4_34 (zMk mdA n4A (zPl cr0_ inn0_ k10_)) g4_20, zAr T 0 a5_35 (zMk mdA n4A (zPl cr0_ inn0_ k10_)) g5_21, zAr T 0 a6_36 (zMk mdA n4A (zPl cr0_ inn0_ k10_)) g6_22], z0_] _ _ := G.re rfl
        refine z_Vi (bc := [[zO0 wa m2_15 wy2_16 l0 pc2_17 a1_31 a2_32 a3_33 a4_34 a5_35 a6_36, zAr T 0 a1_31 7 g1_18, zAr T 0 a2_32 7 g2_19, zAr T 0 a3_33 7 f3A, zAr T 0 a4_34 (zMk mdA n4A (zPl cr0_ inn0_ k10_)) g4_20, zAr T 0 a5_35 (zMk mdA n4A (zPl cr0_ inn0_ k10_)) g5_21, zAr T 0 a6_36 (zMk mdA n4A (zPl cr0_ inn0_ k10_)) g6_22]]) (br := [z1_, wwB, wt, [zO10 xo t im mk rd po co tr wa wb_ fi cd], z0_]) (As := [.int (nI i), .int a_]) (rest := []) C G (c_wayAfter l T wa l0 m2_15 wy2_16 pc2_17 g1_18 g2_19 f3A g4_20 g5_21 g6_22 (zMk mdA n4A (zPl cr0_ inn0_ k10_)) ([zO0 wa m2_15 wy2_16 l0 pc2_17 a1_31 a2_32 a3_33 a4_34 a5_35 a6_36, zAr T 0 a1_31 7 g1_18, zAr T 0 a2_32 7 g2_19, zAr T 0 a3_33 7 f3A, zAr T 0 a4_34 (zMk mdA n4A (zPl cr0_ inn0_ k10_)) g4_20, zAr T 0 a5_35 (zMk mdA n4A (zPl cr0_ inn0_ k10_)) g5_21, zAr T 0 a6_36 (zMk mdA n4A (zPl cr0_ inn0_ k10_)) g6_22]) (nI i) a_ hw_40 (by first | with_reducible assumption | with_reducible rfl | omega | assumption | rfl)) (kV_RX11_275 C.2.2.2.2 (Nat.le_of_ble_eq_true rfl) (Nat.le_of_ble_eq_true rfl)) [4] [4] rfl rfl (ci := 0) (qc := (RX0, TX0, 10)) rfl rfl (List.mem_flatten.mpr ⟨_, List.mem_of_getElem? (i := 0) rfl, (bWays_mem hw_40).choose_spec⟩) rfl rfl hl.1 dX11_back_59 (Nat.le_of_ble_eq_true rfl) (by show _ + 0 ≤ 6 * (zNA (i1.toInt = 0 ∧ 0 < (fk 0).toInt ∧ 0 ≤ a_.toInt ∧ a_.toInt < cr0_.toInt ∧ a_.toInt < 7) mdA n4A (zPl cr0_ inn0_ k10_) - n4A) + 6 * (zNA (i1.toInt = 1 ∧ 1 < (fk 0).toInt ∧ 0 ≤ a_.toInt ∧ a_.toInt < cr1_.toInt ∧ a_.toInt < 7) mdB n4B (zPl cr1_ inn1_ k11_) - n4B); omega) (fun r_42 b1 H locs hw G => ?_)
        refine zAn2 hw ?_
        intro hbs9 h_41
        clear hw
        subst hbs9
        have G : zS T A s.heap s [z1_, wwB, wt, [zO10 xo t im mk rd po co tr wa wb_ fi cd], z0_, [zO0 wa m2_15 wy2_16 l0 pc2_17 a1_31 a2_32 a3_33 a4_34 a5_35 a6_36, zAr T 0 a1_31 7 g1_18, zAr T 0 a2_32 7 g2_19, zAr T 0 a3_33 7 f3A, zAr T 0 a4_34 (zMk mdA n4A (zPl cr0_ inn0_ k10_)) g4_20, zAr T 0 a5_35 (zMk mdA n4A (zPl cr0_ inn0_ k10_)) g5_21, zAr T 0 a6_36 (zMk mdA n4A (zPl cr0_ inn0_ k10_)) g6_22]] _ _ := G
        subst h_41
        refine lv_topi (fun y_43 ey_43 => ?_)
        obtain rfl : y_43 = nI (rAf (aW cr0_ inn0_ k10_) k20_ i a_) := ey_43.trans (hE9.2.2)
        refine lv_iload hx hb dX11_back_62 (lv_at hl 2 rfl) ?_
        refine lv_icmp_ne (tgt := 70) hx hb dX11_back_64 (by decide) (fun c_44 => ?_) (fun c_44 => ?_)
        · have c_44n : ¬ ((rAf (aW cr0_ inn0_ k10_) k20_ i a_) : Int) = r_30.toInt := fun q => c_44 ((fa_eq _ _).mpr (by rw [nI_toInt (n := rAf (aW cr0_ inn0_ k10_) k20_ i a_) (by omega)]; exact q))
          refine lv_iinc (v := nI (i + 1)) (lv' := [(7, .int (nI (i + 1))), (6, .int (nI cm)), (5, .int r_30), (4, .ref wa), (3, .ref l0), (0, .ref xo), (1, .int i1), (2, .int a_)]) hx hb dX11_back_70 hl (k := 0) rfl (z_inc i 1) (by decide) (zLvf_h rfl) (fun ls hl => ?_)
          refine lv_goto (tgt := 44) hx hb dX11_back_73 (by decide) ?_
          have G := G.sub (bs' := [z1_, wwB, wt, [zO10 xo t im mk rd po co tr wa wb_ fi cd], [zO0 wa m2_15 wy2_16 l0 pc2_17 a1_31 a2_32 a3_33 a4_34 a5_35 a6_36, zAr T 0 a1_31 7 g1_18, zAr T 0 a2_32 7 g2_19, zAr T 0 a3_33 7 f3A, zAr T 0 a4_34 (zMk mdA n4A (zPl cr0_ inn0_ k10_)) g4_20, zAr T 0 a5_35 (zMk mdA n4A (zPl cr0_ inn0_ k10_)) g5_21, zAr T 0 a6_36 (zMk mdA n4A (zPl cr0_ inn0_ k10_)) g6_22], z0_]) [0, 1, 2, 3, 5, 4] rfl
          exact ih_44 (i + 1) cm (show (i + 1) ≤ aPr (aW cr0_ inn0_ k10_) 7 ∧ cm = rCn (fun w => decide (nI (rAf (aW cr0_ inn0_ k10_) k20_ w a_) = nI (aRs (aW cr0_ inn0_ k10_) k30_ 7))) (i + 1) from ⟨(by omega), (by rw [hcm]; exact (rCn_f (p := (fun w => decide (nI (rAf (aW cr0_ inn0_ k10_) k20_ w a_) = nI (aRs (aW cr0_ inn0_ k10_) k30_ 7)))) (fun q => absurd ((of_decide_eq_true q).trans hwt9.symm) (by first | with_reducible assumption | assumption))).symm)⟩) (show aPr (aW cr0_ inn0_ k10_) 7 - (i + 1) < aPr (aW cr0_ inn0_ k10_) 7 - i from by omega) _ _ ls G (lv_sub hl [0, 1, 2, 3, 4, 5, 6, 7] rfl)
        · have c_44n : ((rAf (aW cr0_ inn0_ k10_) k20_ i a_) : Int) = r_30.toInt := by have q := (fa_eq _ _).mp c_44; rw [nI_toInt (n := rAf (aW cr0_ inn0_ k10_) k20_ i a_) (by omega)] at q; exact q
          refine lv_iinc (v := nI (cm + 1)) (lv' := [(6, .int (nI (cm + 1))), (7, .int (nI i)), (5, .int r_30), (4, .ref wa), (3, .ref l0), (0, .ref xo), (1, .int i1), (2, .int a_)]) hx hb dX11_back_67 hl (k := 1) rfl (z_inc cm 1) (by decide) (zLvf_h rfl) (fun ls hl => ?_)
          refine lv_iinc (v := nI (i + 1)) (lv' := [(7, .int (nI (i + 1))), (6, .int (nI (cm + 1))), (5, .int r_30), (4, .ref wa), (3, .ref l0), (0, .ref xo), (1, .int i1), (2, .int a_)]) hx hb dX11_back_70 hl (k := 1) rfl (z_inc i 1) (by decide) (zLvf_h rfl) (fun ls hl => ?_)
          refine lv_goto (tgt := 44) hx hb dX11_back_73 (by decide) ?_
          have G := G.sub (bs' := [z1_, wwB, wt, [zO10 xo t im mk rd po co tr wa wb_ fi cd], [zO0 wa m2_15 wy2_16 l0 pc2_17 a1_31 a2_32 a3_33 a4_34 a5_35 a6_36, zAr T 0 a1_31 7 g1_18, zAr T 0 a2_32 7 g2_19, zAr T 0 a3_33 7 f3A, zAr T 0 a4_34 (zMk mdA n4A (zPl cr0_ inn0_ k10_)) g4_20, zAr T 0 a5_35 (zMk mdA n4A (zPl cr0_ inn0_ k10_)) g5_21, zAr T 0 a6_36 (zMk mdA n4A (zPl cr0_ inn0_ k10_)) g6_22], z0_]) [0, 1, 2, 3, 5, 4] rfl
          exact ih_44 (i + 1) (cm + 1) (show (i + 1) ≤ aPr (aW cr0_ inn0_ k10_) 7 ∧ (cm + 1) = rCn (fun w => decide (nI (rAf (aW cr0_ inn0_ k10_) k20_ w a_) = nI (aRs (aW cr0_ inn0_ k10_) k30_ 7))) (i + 1) from ⟨(by omega), (by rw [hcm]; exact (rCn_t (p := (fun w => decide (nI (rAf (aW cr0_ inn0_ k10_) k20_ w a_) = nI (aRs (aW cr0_ inn0_ k10_) k30_ 7)))) (decide_eq_true (Eq.trans (by first | with_reducible assumption | assumption) hwt9))).symm)⟩) (show aPr (aW cr0_ inn0_ k10_) 7 - (i + 1) < aPr (aW cr0_ inn0_ k10_) 7 - i from by omega) _ _ ls G (lv_sub hl [0, 1, 2, 3, 4, 5, 6, 7] rfl)
    · have h_13 : (a_.toInt < 0 ∨ cr0_.toInt ≤ a_.toInt ∨ 7 ≤ a_.toInt) := h_13
      refine lv_if_ne (tgt := 23) hx hb dX11_back_18 (by decide) (fun q => absurd (by decide) q) (fun _ => ?_)
      refine lv_iconst (v := (-1)) hx hb dX11_back_21 (by decide) ?_
      have G := G.sub (bs' := [[zO10 xo t im mk rd po co tr wa wb_ fi cd], wt, z0_, z1_, wwA, wwB]) [0, 4, 5, 1, 2, 3] rfl
      exact z_back hQz_ (z_iret C hr hlocks G (Nat.le_of_ble_eq_true rfl) (by omega) dX11_back_22 ⟨laA, mdA, wyA, pc_A, f1A, f2A, f3A, f4A, f5A, f6A, n4A, wwA, laB, mdB, wyB, pc_B, f1B, f2B, f3B, f4B, f5B, f6B, n4B, wwB, rfl, hwwA, hmdA, hwmA, (by first | exact hNAo.symm | exact (zNA_n (by first | omega | grind)).symm), hpwA, (fun q => q), hTbA, hwwB, hmdB, hwmB, (by first | exact hNAo.symm | exact (zNA_n (by first | omega | grind)).symm), hpwB, (fun q => q), hTbB, (Or.inr (Or.inl ⟨by first | with_reducible assumption | assumption, by first | with_reducible assumption | assumption, (by have q9 := hI0_.1; unfold kBack; rw [if_neg (by omega)])⟩))⟩)
  · have h_6 : i1.toInt = 1 := h_6
    have h_7 : 1 < (fk 0).toInt := h_7
    refine lv_astore_n (lv' := [(3, .ref l1), (0, .ref xo), (1, .int i1), (2, .int a_)]) hx hb dX11_back_8 rfl hl (by decide) (zLvf_h rfl) (fun ls hl => ?_)
    refine lv_aload_n hx hb dX11_back_9 rfl (lv_at hl 0 rfl) ?_
    refine lv_ifnull hx hb dX11_back_10 ?_
    refine lv_aload_n hx hb dX11_back_13 rfl (lv_at hl 0 rfl) ?_
    refine lv_iload_n hx hb dX11_back_14 rfl (lv_at hl 3 rfl) ?_
    refine z_Vi (bc := [z1_]) (br := [[zO10 xo t im mk rd po co tr wa wb_ fi cd], z0_, wwA, wwB, wt]) (As := [.int a_]) (rest := []) C G (c_has l T l1 cr1_ inn1_ k11_ k21_ k31_ k41_ z1_ a_ hz1_) (kV_RX11_160 C.2.2.2.2 (Nat.le_of_ble_eq_true rfl) (Nat.le_of_ble_eq_true rfl)) [2] [2] rfl rfl (ci := 4) (qc := (RX4, TX4, 6)) rfl rfl (List.mem_flatten.mpr ⟨_, List.mem_of_getElem? (i := 0) rfl, (bLand_mem hz1_).choose_spec⟩) rfl rfl hl.1 dX11_back_15 (Nat.le_of_ble_eq_true rfl) (by show _ + 0 ≤ 6 * (zNA (i1.toInt = 0 ∧ 0 < (fk 0).toInt ∧ 0 ≤ a_.toInt ∧ a_.toInt < cr0_.toInt ∧ a_.toInt < 7) mdA n4A (zPl cr0_ inn0_ k10_) - n4A) + 6 * (zNA (i1.toInt = 1 ∧ 1 < (fk 0).toInt ∧ 0 ≤ a_.toInt ∧ a_.toInt < cr1_.toInt ∧ a_.toInt < 7) mdB n4B (zPl cr1_ inn1_ k11_) - n4B); omega) (fun r_46 b1 H locs hw G => ?_)
    refine zAn2 hw ?_
    intro hbs9 hc_45
    clear hw
    subst hbs9
    have G : zS T A s.heap s [[zO10 xo t im mk rd po co tr wa wb_ fi cd], z0_, wwA, wwB, wt, z1_] _ _ := G
    rcases hc_45 with ⟨rfl, h_47, h_48, h_49⟩ | ⟨rfl, h_50⟩
    · have h_47 : 0 ≤ a_.toInt := h_47
      have h_48 : a_.toInt < cr1_.toInt := h_48
      have h_49 : a_.toInt < 7 := h_49
      refine lv_if_ne (tgt := 23) hx hb dX11_back_18 (by decide) (fun _ => ?_) (fun q => absurd q (by decide))
      refine lv_aload_n hx hb dX11_back_23 rfl (lv_at hl 1 rfl) ?_
      refine lv_iload_n hx hb dX11_back_24 rfl (lv_at hl 2 rfl) ?_
      refine lv_aload_n hx hb dX11_back_25 rfl (lv_at hl 0 rfl) ?_
      have hNAm : zNA (i1.toInt = 1 ∧ 1 < (fk 0).toInt ∧ 0 ≤ a_.toInt ∧ a_.toInt < cr1_.toInt ∧ a_.toInt < 7) mdB n4B (zPl cr1_ inn1_ k11_) = zMk mdB n4B (zPl cr1_ inn1_ k11_) := zNA_y (by first | omega | (repeat' (first | omega | assumption | constructor)))
      have hNAo : zNA (i1.toInt = 0 ∧ 0 < (fk 0).toInt ∧ 0 ≤ a_.toInt ∧ a_.toInt < cr0_.toInt ∧ a_.toInt < 7) mdA n4A (zPl cr0_ inn0_ k10_) = n4A := zNA_n (by omega)
      have hn9 : zMk mdB n4B (zPl cr1_ inn1_ k11_) ≤ 131072 := zPw_le (zMk_pw hpwB)
      refine z_Vq (bc := [[zO10 xo t im mk rd po co tr wa wb_ fi cd], wwB, z1_]) (br := [z0_, wwA, wt]) (As := [.int i1, .ref l1]) (rest := []) C G (c_f_waysInB l T xo t im mk rd po co tr wa wb_ fi cd i1 laB mdB wyB pc_B f1B f2B f3B f4B f5B f6B n4B wwB l1 cr1_ inn1_ k11_ k21_ k31_ k41_ z1_ hwwB hz1_ hI1_ hpwB hmdB (kaOk hI1_ hLq1).1 hTbB (by omega)) (kV_RX11_235 C.2.2.2.2 (Nat.le_of_ble_eq_true rfl) (Nat.le_of_ble_eq_true rfl)) [0, 3, 5] [0, 2, 1] rfl rfl (ci := 10) (qc := (RX11, TX11, 11)) rfl rfl (List.mem_flatten.mpr ⟨_, List.mem_of_getElem? (i := 0) rfl, List.mem_cons_self⟩) rfl rfl hl.1 dX11_back_26 (Nat.le_of_ble_eq_true rfl) (by show _ + (6 * (zMk mdB n4B (zPl cr1_ inn1_ k11_) - n4B)) ≤ 6 * (zNA (i1.toInt = 0 ∧ 0 < (fk 0).toInt ∧ 0 ≤ a_.toInt ∧ a_.toInt < cr0_.toInt ∧ a_.toInt < 7) mdA n4A (zPl cr0_ inn0_ k10_) - n4A) + 6 * (zNA (i1.toInt = 1 ∧ 1 < (fk 0).toInt ∧ 0 ≤ a_.toInt ∧ a_.toInt < cr1_.toInt ∧ a_.toInt < 7) mdB n4B (zPl cr1_ inn1_ k11_) - n4B); omega) (fun r_65 b1 H locs hw G => ?_)
      refine zEx9 hw ?_
      intro w2_51 m2_52 wy2_53 pc2_54 g1_55 g2_56 g4_57 g5_58 g6_59
      refine zCu6 ?_
      intro hbs9 h_60 h_61 h_62 h_63 h_64
      clear hw
      subst hbs9
      have G : zS T A s.heap s [z0_, wwA, wt, [zO10 xo t im mk rd po co tr wa wb_ fi cd], w2_51, z1_] _ _ := G
      subst h_60
      have hwy9 : 0 ≤ wy2_53.toInt ∧ wy2_53.toInt ≤ 16384 := by have q9 := zWy_in (inn := inn1_) hI1_; rw [h_62]; exact ⟨by omega, q9.2⟩
      have hp79 : aPr (aW cr1_ inn1_ k11_) 7 ≤ 16384 := aPr_7 hI1_
      have hwN9 : wy2_53 = nI (aPr (aW cr1_ inn1_ k11_) 7) := h_62.trans (zWy_z hI1_)
      have hwT9 : wy2_53.toInt = ((aPr (aW cr1_ inn1_ k11_) 7 : Nat) : Int) := by rw [hwN9, nI_toInt (by omega)]
      have hOk9 := (kaOk (inn := inn1_) hI1_ hLq1).1
      have hc79 := hI1_.1
      refine lv_astore (lv' := [(4, .ref wb_), (3, .ref l1), (0, .ref xo), (1, .int i1), (2, .int a_)]) hx hb dX11_back_29 hl (by decide) (zLvf_h rfl) (fun ls hl => ?_)
      refine lv_aload hx hb dX11_back_31 (lv_at hl 0 rfl) ?_
      refine z_Vi (bc := [w2_51, z1_]) (br := [z0_, wwA, wt, [zO10 xo t im mk rd po co tr wa wb_ fi cd]]) (As := []) (rest := []) C G (c_f_wayTold l T wb_ l1 m2_52 wy2_53 pc2_54 g1_55 g2_56 f3B g4_57 g5_58 g6_59 (zMk mdB n4B (zPl cr1_ inn1_ k11_)) w2_51 cr1_ inn1_ k11_ k21_ k31_ k41_ z1_ h_61 hz1_ hI1_ h_64.2.2.1 hOk9) (kV_RX11_242 C.2.2.2.2 (Nat.le_of_ble_eq_true rfl) (Nat.le_of_ble_eq_true rfl)) [4, 5] [4, 0] rfl rfl (ci := 0) (qc := (RX0, TX0, 10)) rfl rfl (List.mem_flatten.mpr ⟨_, List.mem_of_getElem? (i := 0) rfl, (bWays_mem h_61).choose_spec⟩) rfl rfl hl.1 dX11_back_33 (Nat.le_of_ble_eq_true rfl) (by show _ + 0 ≤ 6 * (zNA (i1.toInt = 0 ∧ 0 < (fk 0).toInt ∧ 0 ≤ a_.toInt ∧ a_.toInt < cr0_.toInt ∧ a_.toInt < 7) mdA n4A (zPl cr0_ inn0_ k10_) - n4A) + 6 * (zNA (i1.toInt = 1 ∧ 1 < (fk 0).toInt ∧ 0 ≤ a_.toInt ∧ a_.toInt < cr1_.toInt ∧ a_.toInt < 7) mdB n4B (zPl cr1_ inn1_ k11_) - n4B); omega) (fun r_67 b1 H locs hw G => ?_)
      refine zAn2 hw ?_
      intro hbs9 h_66
      clear hw
      subst hbs9
      have G : zS T A s.heap s [z0_, wwA, wt, [zO10 xo t im mk rd po co tr wa wb_ fi cd], w2_51, z1_] _ _ := G
      have hwt9 : r_67 = nI (aRs (aW cr1_ inn1_ k11_) k31_ 7) := h_66
      refine lv_istore (lv' := [(5, .int r_67), (4, .ref wb_), (3, .ref l1), (0, .ref xo), (1, .int i1), (2, .int a_)]) hx hb dX11_back_36 hl (by decide) (zLvf_h rfl) (fun ls hl => ?_)
      refine lv_iconst (v := 0) hx hb dX11_back_38 (by decide) ?_
      refine lv_istore (lv' := [(6, .int 0), (5, .int r_67), (4, .ref wb_), (3, .ref l1), (0, .ref xo), (1, .int i1), (2, .int a_)]) hx hb dX11_back_39 hl (by decide) (zLvf_h rfl) (fun ls hl => ?_)
      refine lv_iconst (v := 0) hx hb dX11_back_41 (by decide) ?_
      refine lv_istore (lv' := [(7, .int 0), (6, .int 0), (5, .int r_67), (4, .ref wb_), (3, .ref l1), (0, .ref xo), (1, .int i1), (2, .int a_)]) hx hb dX11_back_42 hl (by decide) (zLvf_h rfl) (fun ls hl => ?_)
      refine zEx6 h_61 ?_
      intro a1_68 a2_69 a3_70 a4_71 a5_72 a6_73 hbs9
      clear h_61
      subst hbs9
      have G : zS T A s.heap s [z0_, wwA, wt, [zO10 xo t im mk rd po co tr wa wb_ fi cd], [zO0 wb_ m2_52 wy2_53 l1 pc2_54 a1_68 a2_69 a3_70 a4_71 a5_72 a6_73], [zAr T 0 a1_68 7 g1_55], [zAr T 0 a2_69 7 g2_56], [zAr T 0 a3_70 7 f3B], [zAr T 0 a4_71 (zMk mdB n4B (zPl cr1_ inn1_ k11_)) g4_57], [zAr T 0 a5_72 (zMk mdB n4B (zPl cr1_ inn1_ k11_)) g5_58], [zAr T 0 a6_73 (zMk mdB n4B (zPl cr1_ inn1_ k11_)) g6_59], z1_] _ _ := G.re rfl
      have hw_74 : bWays T wb_ l1 m2_52 wy2_53 pc2_54 g1_55 g2_56 f3B g4_57 g5_58 g6_59 (zMk mdB n4B (zPl cr1_ inn1_ k11_)) [zO0 wb_ m2_52 wy2_53 l1 pc2_54 a1_68 a2_69 a3_70 a4_71 a5_72 a6_73, zAr T 0 a1_68 7 g1_55, zAr T 0 a2_69 7 g2_56, zAr T 0 a3_70 7 f3B, zAr T 0 a4_71 (zMk mdB n4B (zPl cr1_ inn1_ k11_)) g4_57, zAr T 0 a5_72 (zMk mdB n4B (zPl cr1_ inn1_ k11_)) g5_58, zAr T 0 a6_73 (zMk mdB n4B (zPl cr1_ inn1_ k11_)) g6_59] := ⟨a1_68, a2_69, a3_70, a4_71, a5_72, a6_73, rfl⟩
      have G : zS T A s.heap s [z0_, wwA, wt, [zO10 xo t im mk rd po co tr wa wb_ fi cd], [zO0 wb_ m2_52 wy2_53 l1 pc2_54 a1_68 a2_69 a3_70 a4_71 a5_72 a6_73, zAr T 0 a1_68 7 g1_55, zAr T 0 a2_69 7 g2_56, zAr T 0 a3_70 7 f3B, zAr T 0 a4_71 (zMk mdB n4B (zPl cr1_ inn1_ k11_)) g4_57, zAr T 0 a5_72 (zMk mdB n4B (zPl cr1_ inn1_ k11_)) g5_58, zAr T 0 a6_73 (zMk mdB n4B (zPl cr1_ inn1_ k11_)) g6_59], z1_] _ _ := G.re rfl
      refine z_lp2 (T := T) 44 (fun (i : Nat) (cm : Nat) => [z0_, wwA, wt, [zO10 xo t im mk rd po co tr wa wb_ fi cd], [zO0 wb_ m2_52 wy2_53 l1 pc2_54 a1_68 a2_69 a3_70 a4_71 a5_72 a6_73, zAr T 0 a1_68 7 g1_55, zAr T 0 a2_69 7 g2_56, zAr T 0 a3_70 7 f3B, zAr T 0 a4_71 (zMk mdB n4B (zPl cr1_ inn1_ k11_)) g4_57, zAr T 0 a5_72 (zMk mdB n4B (zPl cr1_ inn1_ k11_)) g5_58, zAr T 0 a6_73 (zMk mdB n4B (zPl cr1_ inn1_ k11_)) g6_59], z1_]) (fun (i : Nat) (cm : Nat) => [(7, .int (nI i)), (6, .int (nI cm)), (5, .int r_67), (4, .ref wb_), (3, .ref l1), (0, .ref xo), (1, .int i1), (2, .int a_)]) (fun (i : Nat) (cm : Nat) => i ≤ aPr (aW cr1_ inn1_ k11_) 7 ∧ cm = rCn (fun w => decide (nI (rAf (aW cr1_ inn1_ k11_) k21_ w a_) = nI (aRs (aW cr1_ inn1_ k11_) k31_ 7))) i) (fun (i : Nat) (cm : Nat) => aPr (aW cr1_ inn1_ k11_) 7 - i) ?_ 0 0 (show 0 ≤ aPr (aW cr1_ inn1_ k11_) 7 ∧ 0 = rCn (fun w => decide (nI (rAf (aW cr1_ inn1_ k11_) k21_ w a_) = nI (aRs (aW cr1_ inn1_ k11_) k31_ 7))) 0 from ⟨(Nat.zero_le _), rfl⟩) G (lv_sub hl [0, 1, 2, 3, 4, 5, 6, 7] rfl)
      intro i cm hI9 ih_44 H locs ls G hl
      replace hI9 : i ≤ aPr (aW cr1_ inn1_ k11_) 7 ∧ cm = rCn (fun w => decide (nI (rAf (aW cr1_ inn1_ k11_) k21_ w a_) = nI (aRs (aW cr1_ inn1_ k11_) k31_ 7))) i := hI9
      refine zAn2 hI9 ?_
      intro hi hcm
      clear hI9
      replace G : zS T A s.heap s [z0_, wwA, wt, [zO10 xo t im mk rd po co tr wa wb_ fi cd], [zO0 wb_ m2_52 wy2_53 l1 pc2_54 a1_68 a2_69 a3_70 a4_71 a5_72 a6_73, zAr T 0 a1_68 7 g1_55, zAr T 0 a2_69 7 g2_56, zAr T 0 a3_70 7 f3B, zAr T 0 a4_71 (zMk mdB n4B (zPl cr1_ inn1_ k11_)) g4_57, zAr T 0 a5_72 (zMk mdB n4B (zPl cr1_ inn1_ k11_)) g5_58, zAr T 0 a6_73 (zMk mdB n4B (zPl cr1_ inn1_ k11_)) g6_59], z1_] _ _ := G
      replace hl : lv_has ls 8 [(7, .int (nI i)), (6, .int (nI cm)), (5, .int r_67), (4, .ref wb_), (3, .ref l1), (0, .ref xo), (1, .int i1), (2, .int a_)] := hl
      refine lv_iload hx hb dX11_back_44 (lv_at hl 0 rfl) ?_
      refine lv_aload hx hb dX11_back_46 (lv_at hl 3 rfl) ?_
      have G : zS T A s.heap s [z0_, wwA, wt, [zO10 xo t im mk rd po co tr wa wb_ fi cd], [zO0 wb_ m2_52 wy2_53 l1 pc2_54 a1_68 a2_69 a3_70 a4_71 a5_72 a6_73], [zAr T 0 a1_68 7 g1_55], [zAr T 0 a2_69 7 g2_56], [zAr T 0 a3_70 7 f3B], [zAr T 0 a4_71 (zMk mdB n4B (zPl cr1_ inn1_ k11_)) g4_57], [zAr T 0 a5_72 (zMk mdB n4B (zPl cr1_ inn1_ k11_)) g5_58], [zAr T 0 a6_73 (zMk mdB n4B (zPl cr1_ inn1_ k11_)) g6_59], z1_] _ _ := G.re rfl
      refine z_get C G clX0 4 rfl 1 (by decide) m_fl_RX11_257 rfl dX11_back_48 ?_
      refine lv_icmp_ge (tgt := 76) hx hb dX11_back_51 (by decide) (fun c_75 => ?_) (fun c_75 => ?_)
      · have c_75n : wy2_53.toInt ≤ (i : Int) := by have q := (fa_le _ _).mp c_75; rw [nI_toInt (n := i) (by omega)] at q; exact q
        refine lv_iload hx hb dX11_back_76 (lv_at hl 1 rfl) ?_
        have hw_76 : bWays T wb_ l1 m2_52 wy2_53 pc2_54 g1_55 g2_56 f3B g4_57 g5_58 g6_59 (zMk mdB n4B (zPl cr1_ inn1_ k11_)) [zO0 wb_ m2_52 wy2_53 l1 pc2_54 a1_68 a2_69 a3_70 a4_71 a5_72 a6_73, zAr T 0 a1_68 7 g1_55, zAr T 0 a2_69 7 g2_56, zAr T 0 a3_70 7 f3B, zAr T 0 a4_71 (zMk mdB n4B (zPl cr1_ inn1_ k11_)) g4_57, zAr T 0 a5_72 (zMk mdB n4B (zPl cr1_ inn1_ k11_)) g5_58, zAr T 0 a6_73 (zMk mdB n4B (zPl cr1_ inn1_ k11_)) g6_59] := ⟨a1_68, a2_69, a3_70, a4_71, a5_72, a6_73, rfl⟩
        have G : zS T A s.heap s [z0_, wwA, wt, [zO10 xo t im mk rd po co tr wa wb_ fi cd], [zO0 wb_ m2_52 wy2_53 l1 pc2_54 a1_68 a2_69 a3_70 a4_71 a5_72 a6_73, zAr T 0 a1_68 7 g1_55, zAr T 0 a2_69 7 g2_56, zAr T 0 a3_70 7 f3B, zAr T 0 a4_71 (zMk mdB n4B (zPl cr1_ inn1_ k11_)) g4_57, zAr T 0 a5_72 (zMk mdB n4B (zPl cr1_ inn1_ k11_)) g5_58, zAr T 0 a6_73 (zMk mdB n4B (zPl cr1_ inn1_ k11_)) g6_59], z1_] _ _ := G.re rfl
        have G := G.sub (bs' := [[zO10 xo t im mk rd po co tr wa wb_ fi cd], wt, z0_, z1_, wwA, [zO0 wb_ m2_52 wy2_53 l1 pc2_54 a1_68 a2_69 a3_70 a4_71 a5_72 a6_73, zAr T 0 a1_68 7 g1_55, zAr T 0 a2_69 7 g2_56, zAr T 0 a3_70 7 f3B, zAr T 0 a4_71 (zMk mdB n4B (zPl cr1_ inn1_ k11_)) g4_57, zAr T 0 a5_72 (zMk mdB n4B (zPl cr1_ inn1_ k11_)) g5_58, zAr T 0 a6_73 (zMk mdB n4B (zPl cr1_ inn1_ k11_)) g6_59]]) [3, 2, 0, 5, 1, 4] rfl
        exact z_back hQz_ (z_iret C hr hlocks G (Nat.le_of_ble_eq_true rfl) (by omega) dX11_back_78 ⟨laA, mdA, wyA, pc_A, f1A, f2A, f3A, f4A, f5A, f6A, n4A, wwA, l1, m2_52, wy2_53, pc2_54, g1_55, g2_56, f3B, g4_57, g5_58, g6_59, (zMk mdB n4B (zPl cr1_ inn1_ k11_)), ([zO0 wb_ m2_52 wy2_53 l1 pc2_54 a1_68 a2_69 a3_70 a4_71 a5_72 a6_73, zAr T 0 a1_68 7 g1_55, zAr T 0 a2_69 7 g2_56, zAr T 0 a3_70 7 f3B, zAr T 0 a4_71 (zMk mdB n4B (zPl cr1_ inn1_ k11_)) g4_57, zAr T 0 a5_72 (zMk mdB n4B (zPl cr1_ inn1_ k11_)) g5_58, zAr T 0 a6_73 (zMk mdB n4B (zPl cr1_ inn1_ k11_)) g6_59]), rfl, hwwA, hmdA, hwmA, (by first | exact hNAo.symm | exact (zNA_n (by first | omega | grind)).symm), hpwA, (fun q => q), hTbA, hw_76, (Or.inr rfl), hwy9, hNAm.symm, (zMk_pw hpwB), (fun _ => h_63), (Or.inr h_64), (Or.inr (Or.inr ⟨by first | with_reducible assumption | assumption, by first | with_reducible assumption | assumption, (by unfold kBack; rw [if_pos ⟨by omega, by omega⟩, hcm, show i = aPr (aW cr1_ inn1_ k11_) 7 by omega]; rfl)⟩))⟩)
      · have c_75n : ¬ wy2_53.toInt ≤ (i : Int) := fun q => c_75 ((fa_le _ _).mpr (by rw [nI_toInt (n := i) (by omega)]; exact q))
        have hE9 := zEnt_w (w := i) (x := a_) hI1_ hOk9 h_64 (by omega) ⟨by omega, by omega, by omega⟩
        have hB9 := zEnt_b (inn := inn1_) (w := i) (x := a_) hI1_ hLq1 (by omega) ⟨by omega, by omega, by omega⟩
        refine lv_aload hx hb dX11_back_54 (lv_at hl 3 rfl) ?_
        refine lv_iload hx hb dX11_back_56 (lv_at hl 0 rfl) ?_
        refine lv_iload_n hx hb dX11_back_58 rfl (lv_at hl 7 rfl) ?_
        have hw_77 : bWays T wb_ l1 m2_52 wy2_53 pc2_54 g1_55 g2_56 f3B g4_57 g5_58 g6_59 (zMk mdB n4B (zPl cr1_ inn1_ k11_)) [zO0 wb_ m2_52 wy2_53 l1 pc2_54 a1_68 a2_69 a3_70 a4_71 a5_72 a6_73, zAr T 0 a1_68 7 g1_55, zAr T 0 a2_69 7 g2_56, zAr T 0 a3_70 7 f3B, zAr T 0 a4_71 (zMk mdB n4B (zPl cr1_ inn1_ k11_)) g4_57, zAr T 0 a5_72 (zMk mdB n4B (zPl cr1_ inn1_ k11_)) g5_58, zAr T 0 a6_73 (zMk mdB n4B (zPl cr1_ inn1_ k11_)) g6_59] := ⟨a1_68, a2_69, a3_70, a4_71, a5_72, a6_73, rfl⟩
        have G : zS T A s.heap s [z0_, wwA, wt, [zO10 xo t im mk rd po co tr wa wb_ fi cd], [zO0 wb_ m2_52 wy2_53 l1 pc2_54 a1_68 a2_69 a3_70 a4_71 a5_72 a6_73, zAr T 0 a1_68 7 g1_55, zAr T 0 a2_69 7 g2_56, zAr T 0 a3_70 7 f3B, zAr T 0 a4_71 (zMk mdB n4B (zPl cr1_ inn1_ k11_)) g4_57, zAr T 0 a5_72 (zMk mdB n4B (zPl cr1_ inn1_ k11_)) g5_58, zAr T 0 a6_73 (zMk mdB n4B (zPl cr1_ inn1_ k11_)) g6_59], z1_] _ _ := G.re rfl
        refine z_Vi (bc := [[zO0 wb_ m2_52 wy2_53 l1 pc2_54 a1_68 a2_69 a3_70 a4_71 a5_72 a6_73, zAr T 0 a1_68 7 g1_55, zAr T 0 a2_69 7 g2_56, zAr T 0 a3_70 7 f3B, zAr T 0 a4_71 (zMk mdB n4B (zPl cr1_ inn1_ k11_)) g4_57, zAr T 0 a5_72 (zMk mdB n4B (zPl cr1_ inn1_ k11_)) g5_58, zAr T 0 a6_73 (zMk mdB n4B (zPl cr1_ inn1_ k11_)) g6_59]]) (br := [z0_, wwA, wt, [zO10 xo t im mk rd po co tr wa wb_ fi cd], z1_]) (As := [.int (nI i), .int a_]) (rest := []) C G (c_wayAfter l T wb_ l1 m2_52 wy2_53 pc2_54 g1_55 g2_56 f3B g4_57 g5_58 g6_59 (zMk mdB n4B (zPl cr1_ inn1_ k11_)) ([zO0 wb_ m2_52 wy2_53 l1 pc2_54 a1_68 a2_69 a3_70 a4_71 a5_72 a6_73, zAr T 0 a1_68 7 g1_55, zAr T 0 a2_69 7 g2_56, zAr T 0 a3_70 7 f3B, zAr T 0 a4_71 (zMk mdB n4B (zPl cr1_ inn1_ k11_)) g4_57, zAr T 0 a5_72 (zMk mdB n4B (zPl cr1_ inn1_ k11_)) g5_58, zAr T 0 a6_73 (zMk mdB n4B (zPl cr1_ inn1_ k11_)) g6_59]) (nI i) a_ hw_77 (by first | with_reducible assumption | with_reducible rfl | omega | assumption | rfl)) (kV_RX11_275 C.2.2.2.2 (Nat.le_of_ble_eq_true rfl) (Nat.le_of_ble_eq_true rfl)) [4] [4] rfl rfl (ci := 0) (qc := (RX0, TX0, 10)) rfl rfl (List.mem_flatten.mpr ⟨_, List.mem_of_getElem? (i := 0) rfl, (bWays_mem hw_77).choose_spec⟩) rfl rfl hl.1 dX11_back_59 (Nat.le_of_ble_eq_true rfl) (by show _ + 0 ≤ 6 * (zNA (i1.toInt = 0 ∧ 0 < (fk 0).toInt ∧ 0 ≤ a_.toInt ∧ a_.toInt < cr0_.toInt ∧ a_.toInt < 7) mdA n4A (zPl cr0_ inn0_ k10_) - n4A) + 6 * (zNA (i1.toInt = 1 ∧ 1 < (fk 0).toInt ∧ 0 ≤ a_.toInt ∧ a_.toInt < cr1_.toInt ∧ a_.toInt < 7) mdB n4B (zPl cr1_ inn1_ k11_) - n4B); omega) (fun r_79 b1 H locs hw G => ?_)
        refine zAn2 hw ?_
        intro hbs9 h_78
        clear hw
        subst hbs9
        have G : zS T A s.heap s [z0_, wwA, wt, [zO10 xo t im mk rd po co tr wa wb_ fi cd], z1_, [zO0 wb_ m2_52 wy2_53 l1 pc2_54 a1_68 a2_69 a3_70 a4_71 a5_72 a6_73, zAr T 0 a1_68 7 g1_55, zAr T 0 a2_69 7 g2_56, zAr T 0 a3_70 7 f3B, zAr T 0 a4_71 (zMk mdB n4B (zPl cr1_ inn1_ k11_)) g4_57, zAr T 0 a5_72 (zMk mdB n4B (zPl cr1_ inn1_ k11_)) g5_58, zAr T 0 a6_73 (zMk mdB n4B (zPl cr1_ inn1_ k11_)) g6_59]] _ _ := G
        subst h_78
        refine lv_topi (fun y_80 ey_80 => ?_)
        obtain rfl : y_80 = nI (rAf (aW cr1_ inn1_ k11_) k21_ i a_) := ey_80.trans (hE9.2.2)
        refine lv_iload hx hb dX11_back_62 (lv_at hl 2 rfl) ?_
        refine lv_icmp_ne (tgt := 70) hx hb dX11_back_64 (by decide) (fun c_81 => ?_) (fun c_81 => ?_)
        · have c_81n : ¬ ((rAf (aW cr1_ inn1_ k11_) k21_ i a_) : Int) = r_67.toInt := fun q => c_81 ((fa_eq _ _).mpr (by rw [nI_toInt (n := rAf (aW cr1_ inn1_ k11_) k21_ i a_) (by omega)]; exact q))
          refine lv_iinc (v := nI (i + 1)) (lv' := [(7, .int (nI (i + 1))), (6, .int (nI cm)), (5, .int r_67), (4, .ref wb_), (3, .ref l1), (0, .ref xo), (1, .int i1), (2, .int a_)]) hx hb dX11_back_70 hl (k := 0) rfl (z_inc i 1) (by decide) (zLvf_h rfl) (fun ls hl => ?_)
          refine lv_goto (tgt := 44) hx hb dX11_back_73 (by decide) ?_
          have G := G.sub (bs' := [z0_, wwA, wt, [zO10 xo t im mk rd po co tr wa wb_ fi cd], [zO0 wb_ m2_52 wy2_53 l1 pc2_54 a1_68 a2_69 a3_70 a4_71 a5_72 a6_73, zAr T 0 a1_68 7 g1_55, zAr T 0 a2_69 7 g2_56, zAr T 0 a3_70 7 f3B, zAr T 0 a4_71 (zMk mdB n4B (zPl cr1_ inn1_ k11_)) g4_57, zAr T 0 a5_72 (zMk mdB n4B (zPl cr1_ inn1_ k11_)) g5_58, zAr T 0 a6_73 (zMk mdB n4B (zPl cr1_ inn1_ k11_)) g6_59], z1_]) [0, 1, 2, 3, 5, 4] rfl
          exact ih_44 (i + 1) cm (show (i + 1) ≤ aPr (aW cr1_ inn1_ k11_) 7 ∧ cm = rCn (fun w => decide (nI (rAf (aW cr1_ inn1_ k11_) k21_ w a_) = nI (aRs (aW cr1_ inn1_ k11_) k31_ 7))) (i + 1) from ⟨(by omega), (by rw [hcm]; exact (rCn_f (p := (fun w => decide (nI (rAf (aW cr1_ inn1_ k11_) k21_ w a_) = nI (aRs (aW cr1_ inn1_ k11_) k31_ 7)))) (fun q => absurd ((of_decide_eq_true q).trans hwt9.symm) (by first | with_reducible assumption | assumption))).symm)⟩) (show aPr (aW cr1_ inn1_ k11_) 7 - (i + 1) < aPr (aW cr1_ inn1_ k11_) 7 - i from by omega) _ _ ls G (lv_sub hl [0, 1, 2, 3, 4, 5, 6, 7] rfl)
        · have c_81n : ((rAf (aW cr1_ inn1_ k11_) k21_ i a_) : Int) = r_67.toInt := by have q := (fa_eq _ _).mp c_81; rw [nI_toInt (n := rAf (aW cr1_ inn1_ k11_) k21_ i a_) (by omega)] at q; exact q
          refine lv_iinc (v := nI (cm + 1)) (lv' := [(6, .int (nI (cm + 1))), (7, .int (nI i)), (5, .int r_67), (4, .ref wb_), (3, .ref l1), (0, .ref xo), (1, .int i1), (2, .int a_)]) hx hb dX11_back_67 hl (k := 1) rfl (z_inc cm 1) (by decide) (zLvf_h rfl) (fun ls hl => ?_)
          refine lv_iinc (v := nI (i + 1)) (lv' := [(7, .int (nI (i + 1))), (6, .int (nI (cm + 1))), (5, .int r_67), (4, .ref wb_), (3, .ref l1), (0, .ref xo), (1, .int i1), (2, .int a_)]) hx hb dX11_back_70 hl (k := 1) rfl (z_inc i 1) (by decide) (zLvf_h rfl) (fun ls hl => ?_)
          refine lv_goto (tgt := 44) hx hb dX11_back_73 (by decide) ?_
          have G := G.sub (bs' := [z0_, wwA, wt, [zO10 xo t im mk rd po co tr wa wb_ fi cd], [zO0 wb_ m2_52 wy2_53 l1 pc2_54 a1_68 a2_69 a3_70 a4_71 a5_72 a6_73, zAr T 0 a1_68 7 g1_55, zAr T 0 a2_69 7 g2_56, zAr T 0 a3_70 7 f3B, zAr T 0 a4_71 (zMk mdB n4B (zPl cr1_ inn1_ k11_)) g4_57, zAr T 0 a5_72 (zMk mdB n4B (zPl cr1_ inn1_ k11_)) g5_58, zAr T 0 a6_73 (zMk mdB n4B (zPl cr1_ inn1_ k11_)) g6_59], z1_]) [0, 1, 2, 3, 5, 4] rfl
          exact ih_44 (i + 1) (cm + 1) (show (i + 1) ≤ aPr (aW cr1_ inn1_ k11_) 7 ∧ (cm + 1) = rCn (fun w => decide (nI (rAf (aW cr1_ inn1_ k11_) k21_ w a_) = nI (aRs (aW cr1_ inn1_ k11_) k31_ 7))) (i + 1) from ⟨(by omega), (by rw [hcm]; exact (rCn_t (p := (fun w => decide (nI (rAf (aW cr1_ inn1_ k11_) k21_ w a_) = nI (aRs (aW cr1_ inn1_ k11_) k31_ 7)))) (decide_eq_true (Eq.trans (by first | with_reducible assumption | assumption) hwt9))).symm)⟩) (show aPr (aW cr1_ inn1_ k11_) 7 - (i + 1) < aPr (aW cr1_ inn1_ k11_) 7 - i from by omega) _ _ ls G (lv_sub hl [0, 1, 2, 3, 4, 5, 6, 7] rfl)
    · have h_50 : (a_.toInt < 0 ∨ cr1_.toInt ≤ a_.toInt ∨ 7 ≤ a_.toInt) := h_50
      refine lv_if_ne (tgt := 23) hx hb dX11_back_18 (by decide) (fun q => absurd (by decide) q) (fun _ => ?_)
      refine lv_iconst (v := (-1)) hx hb dX11_back_21 (by decide) ?_
      have G := G.sub (bs' := [[zO10 xo t im mk rd po co tr wa wb_ fi cd], wt, z0_, z1_, wwA, wwB]) [0, 4, 1, 5, 2, 3] rfl
      exact z_back hQz_ (z_iret C hr hlocks G (Nat.le_of_ble_eq_true rfl) (by omega) dX11_back_22 ⟨laA, mdA, wyA, pc_A, f1A, f2A, f3A, f4A, f5A, f6A, n4A, wwA, laB, mdB, wyB, pc_B, f1B, f2B, f3B, f4B, f5B, f6B, n4B, wwB, rfl, hwwA, hmdA, hwmA, (by first | exact hNAo.symm | exact (zNA_n (by first | omega | grind)).symm), hpwA, (fun q => q), hTbA, hwwB, hmdB, hwmB, (by first | exact hNAo.symm | exact (zNA_n (by first | omega | grind)).symm), hpwB, (fun q => q), hTbB, (Or.inr (Or.inr ⟨by first | with_reducible assumption | assumption, by first | with_reducible assumption | assumption, (by have q9 := hI1_.1; unfold kBack; rw [if_neg (by omega)])⟩))⟩)
set_option maxHeartbeats 4000000 in
set_option maxRecDepth 100000 in
/-- c_f_longest -/
theorem c_f_longest (l : Launch) (T : zTy) (xo : Nat) (t : Nat) (im : Nat) (mk : Nat) (rd : Nat) (po : Nat) (co : Nat) (tr : Nat) (wa : Nat) (wb_ : Nat) (fi : Nat) (cd : Nat) (l0 : Nat) (l1 : Nat) (d0 : Nat) (d1 : Nat) (g0 : Nat) (g1 : Nat) (ln : Int32) (fl : Int32) (pl : Int32) (ft : Nat → Int32) (fk : Nat → Int32) (wt : va_W) (cr0_ : Int32) (inn0_ : Int32) (k10_ : Nat → Int32) (k20_ : Nat → Int32) (k30_ : Nat → Int32) (k40_ : Nat → Int32) (z0_ : va_W) (cr1_ : Int32) (inn1_ : Int32) (k11_ : Nat → Int32) (k21_ : Nat → Int32) (k31_ : Nat → Int32) (k41_ : Nat → Int32) (z1_ : va_W) (laA : Nat) (mdA : Int32) (wyA : Int32) (pc_A : Int32) (f1A : Nat → Int32) (f2A : Nat → Int32) (f3A : Nat → Int32) (f4A : Nat → Int32) (f5A : Nat → Int32) (f6A : Nat → Int32) (n4A : Nat) (wwA : va_W) (laB : Nat) (mdB : Int32) (wyB : Int32) (pc_B : Int32) (f1B : Nat → Int32) (f2B : Nat → Int32) (f3B : Nat → Int32) (f4B : Nat → Int32) (f5B : Nat → Int32) (f6B : Nat → Int32) (n4B : Nat) (wwB : va_W) (i1 : Int32) (a_ : Int32) (w_ : Int32) (q_ : Int32) (ht : bTold T t l0 l1 d0 d1 g0 g1 ln fl pl ft fk wt) (hK : zKT fk) (hz0_ : bLand T l0 cr0_ inn0_ k10_ k20_ k30_ k40_ z0_) (hI0_ : zLI cr0_ k10_ k30_) (hz1_ : bLand T l1 cr1_ inn1_ k11_ k21_ k31_ k41_ z1_) (hI1_ : zLI cr1_ k11_ k31_) (hwwA : bWays T wa laA mdA wyA pc_A f1A f2A f3A f4A f5A f6A n4A wwA) (hpwA : zPw n4A) (hmdA : mdA = 0 ∨ laA = l0) (hwmA : 0 ≤ wyA.toInt ∧ wyA.toInt ≤ 16384) (hTbA : mdA = 0 ∨ zTab cr0_ inn0_ k10_ k20_ wyA pc_A f1A f2A f5A n4A) (hLq0 : zLq cr0_ k10_ k20_) (hwwB : bWays T wb_ laB mdB wyB pc_B f1B f2B f3B f4B f5B f6B n4B wwB) (hpwB : zPw n4B) (hmdB : mdB = 0 ∨ laB = l1) (hwmB : 0 ≤ wyB.toInt ∧ wyB.toInt ≤ 16384) (hTbB : mdB = 0 ∨ zTab cr1_ inn1_ k11_ k21_ wyB pc_B f1B f2B f5B n4B) (hLq1 : zLq cr1_ k11_ k21_) : zMi l T yX11_longest cX11_longest 12 (some .int) 7 3 (6 * (zNA (i1.toInt = 0 ∧ 0 < (fk 0).toInt ∧ 0 ≤ a_.toInt ∧ a_.toInt < cr0_.toInt ∧ a_.toInt < 7) mdA n4A (zPl cr0_ inn0_ k10_) - n4A) + 6 * (zNA (i1.toInt = 1 ∧ 1 < (fk 0).toInt ∧ 0 ≤ a_.toInt ∧ a_.toInt < cr1_.toInt ∧ a_.toInt < 7) mdB n4B (zPl cr1_ inn1_ k11_) - n4B)) [.ref xo, .int i1, .int a_, .int w_, .int q_] [[zO10 xo t im mk rd po co tr wa wb_ fi cd], wt, z0_, z1_, wwA, wwB] (fun (r : Int32) bs => ∃ (laA_2 : Nat) (mdA_2 : Int32) (wyA_2 : Int32) (pc_A_2 : Int32) (f1A_2 : Nat → Int32) (f2A_2 : Nat → Int32) (f3A_2 : Nat → Int32) (f4A_2 : Nat → Int32) (f5A_2 : Nat → Int32) (f6A_2 : Nat → Int32) (n4A_2 : Nat) (wwA_2 : va_W) (laB_2 : Nat) (mdB_2 : Int32) (wyB_2 : Int32) (pc_B_2 : Int32) (f1B_2 : Nat → Int32) (f2B_2 : Nat → Int32) (f3B_2 : Nat → Int32) (f4B_2 : Nat → Int32) (f5B_2 : Nat → Int32) (f6B_2 : Nat → Int32) (n4B_2 : Nat) (wwB_2 : va_W), bs = [[zO10 xo t im mk rd po co tr wa wb_ fi cd], wt, z0_, z1_, wwA_2, wwB_2] ∧ bWays T wa laA_2 mdA_2 wyA_2 pc_A_2 f1A_2 f2A_2 f3A_2 f4A_2 f5A_2 f6A_2 n4A_2 wwA_2 ∧ (mdA_2 = 0 ∨ laA_2 = l0) ∧ (0 ≤ wyA_2.toInt ∧ wyA_2.toInt ≤ 16384) ∧ n4A_2 = zNA (i1.toInt = 0 ∧ 0 < (fk 0).toInt ∧ 0 ≤ a_.toInt ∧ a_.toInt < cr0_.toInt ∧ a_.toInt < 7) mdA n4A (zPl cr0_ inn0_ k10_) ∧ zPw n4A_2 ∧ (¬ mdA = 0 → ¬ mdA_2 = 0) ∧ (mdA_2 = 0 ∨ zTab cr0_ inn0_ k10_ k20_ wyA_2 pc_A_2 f1A_2 f2A_2 f5A_2 n4A_2) ∧ bWays T wb_ laB_2 mdB_2 wyB_2 pc_B_2 f1B_2 f2B_2 f3B_2 f4B_2 f5B_2 f6B_2 n4B_2 wwB_2 ∧ (mdB_2 = 0 ∨ laB_2 = l1) ∧ (0 ≤ wyB_2.toInt ∧ wyB_2.toInt ≤ 16384) ∧ n4B_2 = zNA (i1.toInt = 1 ∧ 1 < (fk 0).toInt ∧ 0 ≤ a_.toInt ∧ a_.toInt < cr1_.toInt ∧ a_.toInt < 7) mdB n4B (zPl cr1_ inn1_ k11_) ∧ zPw n4B_2 ∧ (¬ mdB = 0 → ¬ mdB_2 = 0) ∧ (mdB_2 = 0 ∨ zTab cr1_ inn1_ k11_ k21_ wyB_2 pc_B_2 f1B_2 f2B_2 f5B_2 n4B_2) ∧ ((i1.toInt < 0 ∨ (fk 0).toInt ≤ i1.toInt ∨ 2 ≤ i1.toInt) ∧ r = -1 ∨ i1.toInt = 0 ∧ 0 < (fk 0).toInt ∧ r = kLong cr0_ inn0_ k10_ k20_ k30_ a_ w_ q_ ∨ i1.toInt = 1 ∧ 1 < (fk 0).toInt ∧ r = kLong cr1_ inn1_ k11_ k21_ k31_ a_ w_ q_)) := by
  refine zMi_of (own := RX11) (by decide) rfl (Nat.le_of_ble_eq_true rfl) ?_
  intro p e s m args below meth c A ls C hr hlocks hnm hAe G hl
  refine zHide (fun Qz_ hQz_ => ?_)
  have hx := C.1
  have hb := C.2.1
  replace hmdA : zHd (mdA = 0 ∨ laA = l0) := hmdA
  replace hTbA : zHd (mdA = 0 ∨ zTab cr0_ inn0_ k10_ k20_ wyA pc_A f1A f2A f5A n4A) := hTbA
  replace hmdB : zHd (mdB = 0 ∨ laB = l1) := hmdB
  replace hTbB : zHd (mdB = 0 ∨ zTab cr1_ inn1_ k11_ k21_ wyB pc_B f1B f2B f5B n4B) := hTbB
  have hl : lv_has ls 12 [(0, .ref xo), (1, .int i1), (2, .int a_), (3, .int w_), (4, .int q_)] := hl
  refine lv_aload_n hx hb dX11_longest_0 rfl (lv_at hl 0 rfl) ?_
  refine z_get C G clX11 0 rfl 0 (by decide) m_fl_RX11_10 rfl dX11_longest_1 ?_
  refine lv_iload_n hx hb dX11_longest_4 rfl (lv_at hl 1 rfl) ?_
  refine z_Vq (bc := [wt]) (br := [[zO10 xo t im mk rd po co tr wa wb_ fi cd], z0_, z1_, wwA, wwB]) (As := [.int i1]) (rest := []) C G (c_landAt l T t l0 l1 d0 d1 g0 g1 ln fl pl ft fk wt i1 ht) (kV_RX11_121 C.2.2.2.2 (Nat.le_of_ble_eq_true rfl) (Nat.le_of_ble_eq_true rfl)) [1] [1] rfl rfl (ci := 8) (qc := (RX9, TX9, 8)) rfl rfl (List.mem_flatten.mpr ⟨_, List.mem_of_getElem? (i := 0) rfl, (bTold_mem ht).choose_spec⟩) rfl rfl hl.1 dX11_longest_5 (Nat.le_of_ble_eq_true rfl) (by show _ + 0 ≤ 6 * (zNA (i1.toInt = 0 ∧ 0 < (fk 0).toInt ∧ 0 ≤ a_.toInt ∧ a_.toInt < cr0_.toInt ∧ a_.toInt < 7) mdA n4A (zPl cr0_ inn0_ k10_) - n4A) + 6 * (zNA (i1.toInt = 1 ∧ 1 < (fk 0).toInt ∧ 0 ≤ a_.toInt ∧ a_.toInt < cr1_.toInt ∧ a_.toInt < 7) mdB n4B (zPl cr1_ inn1_ k11_) - n4B); omega) (fun r_2 b1 H locs hw G => ?_)
  refine zAn2 hw ?_
  intro hbs9 hc_1
  clear hw
  subst hbs9
  have G : zS T A s.heap s [[zO10 xo t im mk rd po co tr wa wb_ fi cd], z0_, z1_, wwA, wwB, wt] _ _ := G
  rcases hc_1 with ⟨rfl, h_3⟩ | ⟨rfl, h_4, h_5⟩ | ⟨rfl, h_6, h_7⟩
  · have h_3 : (i1.toInt < 0 ∨ (fk 0).toInt ≤ i1.toInt ∨ 2 ≤ i1.toInt) := h_3
    refine lv_astoreN (lv' := [(5, .null), (0, .ref xo), (1, .int i1), (2, .int a_), (3, .int w_), (4, .int q_)]) hx hb dX11_longest_8 hl (by decide) (zLvf_h rfl) (fun ls hl => ?_)
    refine lv_aloadN hx hb dX11_longest_10 (lv_at hl 0 rfl) ?_
    refine lv_ifnullN (tgt := 24) hx hb dX11_longest_12 (by decide) ?_
    refine lv_iconst (v := (-1)) hx hb dX11_longest_24 (by decide) ?_
    have G := G.sub (bs' := [[zO10 xo t im mk rd po co tr wa wb_ fi cd], wt, z0_, z1_, wwA, wwB]) [0, 5, 1, 2, 3, 4] rfl
    exact z_back hQz_ (z_iret C hr hlocks G (Nat.le_of_ble_eq_true rfl) (by omega) dX11_longest_25 ⟨laA, mdA, wyA, pc_A, f1A, f2A, f3A, f4A, f5A, f6A, n4A, wwA, laB, mdB, wyB, pc_B, f1B, f2B, f3B, f4B, f5B, f6B, n4B, wwB, rfl, hwwA, hmdA, hwmA, (by first | exact hNAo.symm | exact (zNA_n (by first | omega | grind)).symm), hpwA, (fun q => q), hTbA, hwwB, hmdB, hwmB, (by first | exact hNAo.symm | exact (zNA_n (by first | omega | grind)).symm), hpwB, (fun q => q), hTbB, (Or.inl ⟨by first | with_reducible assumption | assumption, rfl⟩)⟩)
  · have h_4 : i1.toInt = 0 := h_4
    have h_5 : 0 < (fk 0).toInt := h_5
    refine lv_astore (lv' := [(5, .ref l0), (0, .ref xo), (1, .int i1), (2, .int a_), (3, .int w_), (4, .int q_)]) hx hb dX11_longest_8 hl (by decide) (zLvf_h rfl) (fun ls hl => ?_)
    refine lv_aload hx hb dX11_longest_10 (lv_at hl 0 rfl) ?_
    refine lv_ifnull hx hb dX11_longest_12 ?_
    refine lv_aload hx hb dX11_longest_15 (lv_at hl 0 rfl) ?_
    refine lv_iload_n hx hb dX11_longest_17 rfl (lv_at hl 3 rfl) ?_
    refine z_Vi (bc := [z0_]) (br := [[zO10 xo t im mk rd po co tr wa wb_ fi cd], z1_, wwA, wwB, wt]) (As := [.int a_]) (rest := []) C G (c_has l T l0 cr0_ inn0_ k10_ k20_ k30_ k40_ z0_ a_ hz0_) (kV_RX11_160 C.2.2.2.2 (Nat.le_of_ble_eq_true rfl) (Nat.le_of_ble_eq_true rfl)) [1] [1] rfl rfl (ci := 4) (qc := (RX4, TX4, 6)) rfl rfl (List.mem_flatten.mpr ⟨_, List.mem_of_getElem? (i := 0) rfl, (bLand_mem hz0_).choose_spec⟩) rfl rfl hl.1 dX11_longest_18 (Nat.le_of_ble_eq_true rfl) (by show _ + 0 ≤ 6 * (zNA (i1.toInt = 0 ∧ 0 < (fk 0).toInt ∧ 0 ≤ a_.toInt ∧ a_.toInt < cr0_.toInt ∧ a_.toInt < 7) mdA n4A (zPl cr0_ inn0_ k10_) - n4A) + 6 * (zNA (i1.toInt = 1 ∧ 1 < (fk 0).toInt ∧ 0 ≤ a_.toInt ∧ a_.toInt < cr1_.toInt ∧ a_.toInt < 7) mdB n4B (zPl cr1_ inn1_ k11_) - n4B); omega) (fun r_9 b1 H locs hw G => ?_)
    refine zAn2 hw ?_
    intro hbs9 hc_8
    clear hw
    subst hbs9
    have G : zS T A s.heap s [[zO10 xo t im mk rd po co tr wa wb_ fi cd], z1_, wwA, wwB, wt, z0_] _ _ := G
    rcases hc_8 with ⟨rfl, h_10, h_11, h_12⟩ | ⟨rfl, h_13⟩
    · have h_10 : 0 ≤ a_.toInt := h_10
      have h_11 : a_.toInt < cr0_.toInt := h_11
      have h_12 : a_.toInt < 7 := h_12
      refine lv_if_ne (tgt := 26) hx hb dX11_longest_21 (by decide) (fun _ => ?_) (fun q => absurd q (by decide))
      refine lv_aload_n hx hb dX11_longest_26 rfl (lv_at hl 1 rfl) ?_
      refine lv_iload_n hx hb dX11_longest_27 rfl (lv_at hl 2 rfl) ?_
      refine lv_aload hx hb dX11_longest_28 (lv_at hl 0 rfl) ?_
      have hNAm : zNA (i1.toInt = 0 ∧ 0 < (fk 0).toInt ∧ 0 ≤ a_.toInt ∧ a_.toInt < cr0_.toInt ∧ a_.toInt < 7) mdA n4A (zPl cr0_ inn0_ k10_) = zMk mdA n4A (zPl cr0_ inn0_ k10_) := zNA_y (by first | omega | (repeat' (first | omega | assumption | constructor)))
      have hNAo : zNA (i1.toInt = 1 ∧ 1 < (fk 0).toInt ∧ 0 ≤ a_.toInt ∧ a_.toInt < cr1_.toInt ∧ a_.toInt < 7) mdB n4B (zPl cr1_ inn1_ k11_) = n4B := zNA_n (by omega)
      have hn9 : zMk mdA n4A (zPl cr0_ inn0_ k10_) ≤ 131072 := zPw_le (zMk_pw hpwA)
      refine z_Vq (bc := [[zO10 xo t im mk rd po co tr wa wb_ fi cd], wwA, z0_]) (br := [z1_, wwB, wt]) (As := [.int i1, .ref l0]) (rest := []) C G (c_f_waysInA l T xo t im mk rd po co tr wa wb_ fi cd i1 laA mdA wyA pc_A f1A f2A f3A f4A f5A f6A n4A wwA l0 cr0_ inn0_ k10_ k20_ k30_ k40_ z0_ hwwA hz0_ hI0_ hpwA hmdA (kaOk hI0_ hLq0).1 hTbA (by omega)) (kV_RX11_235 C.2.2.2.2 (Nat.le_of_ble_eq_true rfl) (Nat.le_of_ble_eq_true rfl)) [0, 2, 5] [0, 1, 2] rfl rfl (ci := 10) (qc := (RX11, TX11, 11)) rfl rfl (List.mem_flatten.mpr ⟨_, List.mem_of_getElem? (i := 0) rfl, List.mem_cons_self⟩) rfl rfl hl.1 dX11_longest_30 (Nat.le_of_ble_eq_true rfl) (by show _ + (6 * (zMk mdA n4A (zPl cr0_ inn0_ k10_) - n4A)) ≤ 6 * (zNA (i1.toInt = 0 ∧ 0 < (fk 0).toInt ∧ 0 ≤ a_.toInt ∧ a_.toInt < cr0_.toInt ∧ a_.toInt < 7) mdA n4A (zPl cr0_ inn0_ k10_) - n4A) + 6 * (zNA (i1.toInt = 1 ∧ 1 < (fk 0).toInt ∧ 0 ≤ a_.toInt ∧ a_.toInt < cr1_.toInt ∧ a_.toInt < 7) mdB n4B (zPl cr1_ inn1_ k11_) - n4B); omega) (fun r_28 b1 H locs hw G => ?_)
      refine zEx9 hw ?_
      intro w2_14 m2_15 wy2_16 pc2_17 g1_18 g2_19 g4_20 g5_21 g6_22
      refine zCu6 ?_
      intro hbs9 h_23 h_24 h_25 h_26 h_27
      clear hw
      subst hbs9
      have G : zS T A s.heap s [z1_, wwB, wt, [zO10 xo t im mk rd po co tr wa wb_ fi cd], w2_14, z0_] _ _ := G
      subst h_23
      have hwy9 : 0 ≤ wy2_16.toInt ∧ wy2_16.toInt ≤ 16384 := by have q9 := zWy_in (inn := inn0_) hI0_; rw [h_25]; exact ⟨by omega, q9.2⟩
      have hp79 : aPr (aW cr0_ inn0_ k10_) 7 ≤ 16384 := aPr_7 hI0_
      have hwN9 : wy2_16 = nI (aPr (aW cr0_ inn0_ k10_) 7) := h_25.trans (zWy_z hI0_)
      have hwT9 : wy2_16.toInt = ((aPr (aW cr0_ inn0_ k10_) 7 : Nat) : Int) := by rw [hwN9, nI_toInt (by omega)]
      have hOk9 := (kaOk (inn := inn0_) hI0_ hLq0).1
      have hc79 := hI0_.1
      refine lv_astore (lv' := [(6, .ref wa), (5, .ref l0), (0, .ref xo), (1, .int i1), (2, .int a_), (3, .int w_), (4, .int q_)]) hx hb dX11_longest_33 hl (by decide) (zLvf_h rfl) (fun ls hl => ?_)
      refine lv_iconst (v := (-1)) hx hb dX11_longest_35 (by decide) ?_
      refine lv_istore (lv' := [(7, .int (-1)), (6, .ref wa), (5, .ref l0), (0, .ref xo), (1, .int i1), (2, .int a_), (3, .int w_), (4, .int q_)]) hx hb dX11_longest_36 hl (by decide) (zLvf_h rfl) (fun ls hl => ?_)
      refine lv_iconst (v := (-1)) hx hb dX11_longest_38 (by decide) ?_
      refine lv_istore (lv' := [(8, .int (-1)), (7, .int (-1)), (6, .ref wa), (5, .ref l0), (0, .ref xo), (1, .int i1), (2, .int a_), (3, .int w_), (4, .int q_)]) hx hb dX11_longest_39 hl (by decide) (zLvf_h rfl) (fun ls hl => ?_)
      refine lv_iconst (v := 0) hx hb dX11_longest_41 (by decide) ?_
      refine lv_istore (lv' := [(9, .int 0), (8, .int (-1)), (7, .int (-1)), (6, .ref wa), (5, .ref l0), (0, .ref xo), (1, .int i1), (2, .int a_), (3, .int w_), (4, .int q_)]) hx hb dX11_longest_42 hl (by decide) (zLvf_h rfl) (fun ls hl => ?_)
      refine zEx6 h_24 ?_
      intro a1_29 a2_30 a3_31 a4_32 a5_33 a6_34 hbs9
      clear h_24
      subst hbs9
      have G : zS T A s.heap s [z1_, wwB, wt, [zO10 xo t im mk rd po co tr wa wb_ fi cd], [zO0 wa m2_15 wy2_16 l0 pc2_17 a1_29 a2_30 a3_31 a4_32 a5_33 a6_34], [zAr T 0 a1_29 7 g1_18], [zAr T 0 a2_30 7 g2_19], [zAr T 0 a3_31 7 f3A], [zAr T 0 a4_32 (zMk mdA n4A (zPl cr0_ inn0_ k10_)) g4_20], [zAr T 0 a5_33 (zMk mdA n4A (zPl cr0_ inn0_ k10_)) g5_21], [zAr T 0 a6_34 (zMk mdA n4A (zPl cr0_ inn0_ k10_)) g6_22], z0_] _ _ := G.re rfl
      have hw_35 : bWays T wa l0 m2_15 wy2_16 pc2_17 g1_18 g2_19 f3A g4_20 g5_21 g6_22 (zMk mdA n4A (zPl cr0_ inn0_ k10_)) [zO0 wa m2_15 wy2_16 l0 pc2_17 a1_29 a2_30 a3_31 a4_32 a5_33 a6_34, zAr T 0 a1_29 7 g1_18, zAr T 0 a2_30 7 g2_19, zAr T 0 a3_31 7 f3A, zAr T 0 a4_32 (zMk mdA n4A (zPl cr0_ inn0_ k10_)) g4_20, zAr T 0 a5_33 (zMk mdA n4A (zPl cr0_ inn0_ k10_)) g5_21, zAr T 0 a6_34 (zMk mdA n4A (zPl cr0_ inn0_ k10_)) g6_22] := ⟨a1_29, a2_30, a3_31, a4_32, a5_33, a6_34, rfl⟩
      have G : zS T A s.heap s [z1_, wwB, wt, [zO10 xo t im mk rd po co tr wa wb_ fi cd], [zO0 wa m2_15 wy2_16 l0 pc2_17 a1_29 a2_30 a3_31 a4_32 a5_33 a6_34, zAr T 0 a1_29 7 g1_18, zAr T 0 a2_30 7 g2_19, zAr T 0 a3_31 7 f3A, zAr T 0 a4_32 (zMk mdA n4A (zPl cr0_ inn0_ k10_)) g4_20, zAr T 0 a5_33 (zMk mdA n4A (zPl cr0_ inn0_ k10_)) g5_21, zAr T 0 a6_34 (zMk mdA n4A (zPl cr0_ inn0_ k10_)) g6_22], z0_] _ _ := G.re rfl
      refine z_lp3 (T := T) 44 (fun (i : Nat) (b7 : Int32) (b8 : Int32) => [z1_, wwB, wt, [zO10 xo t im mk rd po co tr wa wb_ fi cd], [zO0 wa m2_15 wy2_16 l0 pc2_17 a1_29 a2_30 a3_31 a4_32 a5_33 a6_34, zAr T 0 a1_29 7 g1_18, zAr T 0 a2_30 7 g2_19, zAr T 0 a3_31 7 f3A, zAr T 0 a4_32 (zMk mdA n4A (zPl cr0_ inn0_ k10_)) g4_20, zAr T 0 a5_33 (zMk mdA n4A (zPl cr0_ inn0_ k10_)) g5_21, zAr T 0 a6_34 (zMk mdA n4A (zPl cr0_ inn0_ k10_)) g6_22], z0_]) (fun (i : Nat) (b7 : Int32) (b8 : Int32) => [(9, .int (nI i)), (8, .int b8), (7, .int b7), (6, .ref wa), (5, .ref l0), (0, .ref xo), (1, .int i1), (2, .int a_), (3, .int w_), (4, .int q_)]) (fun (i : Nat) (b7 : Int32) (b8 : Int32) => i ≤ aPr (aW cr0_ inn0_ k10_) 7 ∧ b7 = (rBg (fun w => decide (zBit inn0_ (rWh (aW cr0_ inn0_ k10_) k20_ w a_) = 1)) (fun w => rStp (aW cr0_ inn0_ k10_) k20_ w a_) w_ i).2 ∧ b8 = (rBg (fun w => decide (zBit inn0_ (rWh (aW cr0_ inn0_ k10_) k20_ w a_) = 1)) (fun w => rStp (aW cr0_ inn0_ k10_) k20_ w a_) w_ i).1) (fun (i : Nat) (b7 : Int32) (b8 : Int32) => aPr (aW cr0_ inn0_ k10_) 7 - i) ?_ 0 (-1) (-1) (show 0 ≤ aPr (aW cr0_ inn0_ k10_) 7 ∧ (-1) = (rBg (fun w => decide (zBit inn0_ (rWh (aW cr0_ inn0_ k10_) k20_ w a_) = 1)) (fun w => rStp (aW cr0_ inn0_ k10_) k20_ w a_) w_ 0).2 ∧ (-1) = (rBg (fun w => decide (zBit inn0_ (rWh (aW cr0_ inn0_ k10_) k20_ w a_) = 1)) (fun w => rStp (aW cr0_ inn0_ k10_) k20_ w a_) w_ 0).1 from ⟨(Nat.zero_le _), rfl, rfl⟩) G (lv_sub hl [0, 1, 2, 3, 4, 5, 6, 7, 8, 9] rfl)
      intro i b7 b8 hI9 ih_44 H locs ls G hl
      replace hI9 : i ≤ aPr (aW cr0_ inn0_ k10_) 7 ∧ b7 = (rBg (fun w => decide (zBit inn0_ (rWh (aW cr0_ inn0_ k10_) k20_ w a_) = 1)) (fun w => rStp (aW cr0_ inn0_ k10_) k20_ w a_) w_ i).2 ∧ b8 = (rBg (fun w => decide (zBit inn0_ (rWh (aW cr0_ inn0_ k10_) k20_ w a_) = 1)) (fun w => rStp (aW cr0_ inn0_ k10_) k20_ w a_) w_ i).1 := hI9
      refine zAn3 hI9 ?_
      intro hi hbb hbw
      clear hI9
      replace G : zS T A s.heap s [z1_, wwB, wt, [zO10 xo t im mk rd po co tr wa wb_ fi cd], [zO0 wa m2_15 wy2_16 l0 pc2_17 a1_29 a2_30 a3_31 a4_32 a5_33 a6_34, zAr T 0 a1_29 7 g1_18, zAr T 0 a2_30 7 g2_19, zAr T 0 a3_31 7 f3A, zAr T 0 a4_32 (zMk mdA n4A (zPl cr0_ inn0_ k10_)) g4_20, zAr T 0 a5_33 (zMk mdA n4A (zPl cr0_ inn0_ k10_)) g5_21, zAr T 0 a6_34 (zMk mdA n4A (zPl cr0_ inn0_ k10_)) g6_22], z0_] _ _ := G
      replace hl : lv_has ls 12 [(9, .int (nI i)), (8, .int b8), (7, .int b7), (6, .ref wa), (5, .ref l0), (0, .ref xo), (1, .int i1), (2, .int a_), (3, .int w_), (4, .int q_)] := hl
      refine lv_iload hx hb dX11_longest_44 (lv_at hl 0 rfl) ?_
      refine lv_aload hx hb dX11_longest_46 (lv_at hl 3 rfl) ?_
      have G : zS T A s.heap s [z1_, wwB, wt, [zO10 xo t im mk rd po co tr wa wb_ fi cd], [zO0 wa m2_15 wy2_16 l0 pc2_17 a1_29 a2_30 a3_31 a4_32 a5_33 a6_34], [zAr T 0 a1_29 7 g1_18], [zAr T 0 a2_30 7 g2_19], [zAr T 0 a3_31 7 f3A], [zAr T 0 a4_32 (zMk mdA n4A (zPl cr0_ inn0_ k10_)) g4_20], [zAr T 0 a5_33 (zMk mdA n4A (zPl cr0_ inn0_ k10_)) g5_21], [zAr T 0 a6_34 (zMk mdA n4A (zPl cr0_ inn0_ k10_)) g6_22], z0_] _ _ := G.re rfl
      refine z_get C G clX0 4 rfl 1 (by decide) m_fl_RX11_257 rfl dX11_longest_48 ?_
      refine lv_icmp_ge (tgt := 133) hx hb dX11_longest_51 (by decide) (fun c_36 => ?_) (fun c_36 => ?_)
      · have c_36n : wy2_16.toInt ≤ (i : Int) := by have q := (fa_le _ _).mp c_36; rw [nI_toInt (n := i) (by omega)] at q; exact q
        have hbi9 := rBg_w (c := (fun w => decide (zBit inn0_ (rWh (aW cr0_ inn0_ k10_) k20_ w a_) = 1))) (g := (fun w => rStp (aW cr0_ inn0_ k10_) k20_ w a_)) (s := w_) (fun v => Nat.lt_of_le_of_lt rStp_le (by decide)) (by omega) hbb hbw
        refine lv_iload hx hb dX11_longest_133 (lv_at hl 9 rfl) ?_
        refine lv_if_eq (tgt := 154) hx hb dX11_longest_135 (by decide) (fun c_37 => ?_) (fun c_37 => ?_)
        · have c_37n : q_.toInt = (0 : Int) := (fa_eq _ _).mp c_37
          refine lv_iload hx hb dX11_longest_154 (lv_at hl 2 rfl) ?_
          have hw_38 : bWays T wa l0 m2_15 wy2_16 pc2_17 g1_18 g2_19 f3A g4_20 g5_21 g6_22 (zMk mdA n4A (zPl cr0_ inn0_ k10_)) [zO0 wa m2_15 wy2_16 l0 pc2_17 a1_29 a2_30 a3_31 a4_32 a5_33 a6_34, zAr T 0 a1_29 7 g1_18, zAr T 0 a2_30 7 g2_19, zAr T 0 a3_31 7 f3A, zAr T 0 a4_32 (zMk mdA n4A (zPl cr0_ inn0_ k10_)) g4_20, zAr T 0 a5_33 (zMk mdA n4A (zPl cr0_ inn0_ k10_)) g5_21, zAr T 0 a6_34 (zMk mdA n4A (zPl cr0_ inn0_ k10_)) g6_22] := ⟨a1_29, a2_30, a3_31, a4_32, a5_33, a6_34, rfl⟩
          have G : zS T A s.heap s [z1_, wwB, wt, [zO10 xo t im mk rd po co tr wa wb_ fi cd], [zO0 wa m2_15 wy2_16 l0 pc2_17 a1_29 a2_30 a3_31 a4_32 a5_33 a6_34, zAr T 0 a1_29 7 g1_18, zAr T 0 a2_30 7 g2_19, zAr T 0 a3_31 7 f3A, zAr T 0 a4_32 (zMk mdA n4A (zPl cr0_ inn0_ k10_)) g4_20, zAr T 0 a5_33 (zMk mdA n4A (zPl cr0_ inn0_ k10_)) g5_21, zAr T 0 a6_34 (zMk mdA n4A (zPl cr0_ inn0_ k10_)) g6_22], z0_] _ _ := G.re rfl
          have G := G.sub (bs' := [[zO10 xo t im mk rd po co tr wa wb_ fi cd], wt, z0_, z1_, [zO0 wa m2_15 wy2_16 l0 pc2_17 a1_29 a2_30 a3_31 a4_32 a5_33 a6_34, zAr T 0 a1_29 7 g1_18, zAr T 0 a2_30 7 g2_19, zAr T 0 a3_31 7 f3A, zAr T 0 a4_32 (zMk mdA n4A (zPl cr0_ inn0_ k10_)) g4_20, zAr T 0 a5_33 (zMk mdA n4A (zPl cr0_ inn0_ k10_)) g5_21, zAr T 0 a6_34 (zMk mdA n4A (zPl cr0_ inn0_ k10_)) g6_22], wwB]) [3, 2, 5, 0, 4, 1] rfl
          exact z_back hQz_ (z_iret C hr hlocks G (Nat.le_of_ble_eq_true rfl) (by omega) dX11_longest_156 ⟨l0, m2_15, wy2_16, pc2_17, g1_18, g2_19, f3A, g4_20, g5_21, g6_22, (zMk mdA n4A (zPl cr0_ inn0_ k10_)), ([zO0 wa m2_15 wy2_16 l0 pc2_17 a1_29 a2_30 a3_31 a4_32 a5_33 a6_34, zAr T 0 a1_29 7 g1_18, zAr T 0 a2_30 7 g2_19, zAr T 0 a3_31 7 f3A, zAr T 0 a4_32 (zMk mdA n4A (zPl cr0_ inn0_ k10_)) g4_20, zAr T 0 a5_33 (zMk mdA n4A (zPl cr0_ inn0_ k10_)) g5_21, zAr T 0 a6_34 (zMk mdA n4A (zPl cr0_ inn0_ k10_)) g6_22]), laB, mdB, wyB, pc_B, f1B, f2B, f3B, f4B, f5B, f6B, n4B, wwB, rfl, hw_38, (Or.inr rfl), hwy9, hNAm.symm, (zMk_pw hpwA), (fun _ => h_26), (Or.inr h_27), hwwB, hmdB, hwmB, (by first | exact hNAo.symm | exact (zNA_n (by first | omega | grind)).symm), hpwB, (fun q => q), hTbB, (Or.inr (Or.inl ⟨by first | with_reducible assumption | assumption, by first | with_reducible assumption | assumption, (by unfold kLong; rw [if_pos ⟨by omega, by omega⟩]; exact rLong_e (W := (aW cr0_ inn0_ k10_)) (L := k20_) (b := b7) (w := b8) hp79 (by rw [hbb, show i = aPr (aW cr0_ inn0_ k10_) 7 by omega]) (by rw [hbw, show i = aPr (aW cr0_ inn0_ k10_) 7 by omega]) (Or.inl ⟨by first | exact Or.inl (by first | with_reducible assumption | assumption) | exact Or.inr (by first | with_reducible assumption | assumption), rfl⟩))⟩))⟩)
        · have c_37n : ¬ q_.toInt = (0 : Int) := fun q => c_37 ((fa_eq _ _).mpr q)
          refine lv_iload hx hb dX11_longest_138 (lv_at hl 1 rfl) ?_
          refine lv_iconst (v := (-1)) hx hb dX11_longest_140 (by decide) ?_
          refine lv_icmp_eq (tgt := 154) hx hb dX11_longest_141 (by decide) (fun c_39 => ?_) (fun c_39 => ?_)
          · have c_39n : b8.toInt = (-1 : Int) := (fa_eq _ _).mp c_39
            refine lv_iload hx hb dX11_longest_154 (lv_at hl 2 rfl) ?_
            have hw_40 : bWays T wa l0 m2_15 wy2_16 pc2_17 g1_18 g2_19 f3A g4_20 g5_21 g6_22 (zMk mdA n4A (zPl cr0_ inn0_ k10_)) [zO0 wa m2_15 wy2_16 l0 pc2_17 a1_29 a2_30 a3_31 a4_32 a5_33 a6_34, zAr T 0 a1_29 7 g1_18, zAr T 0 a2_30 7 g2_19, zAr T 0 a3_31 7 f3A, zAr T 0 a4_32 (zMk mdA n4A (zPl cr0_ inn0_ k10_)) g4_20, zAr T 0 a5_33 (zMk mdA n4A (zPl cr0_ inn0_ k10_)) g5_21, zAr T 0 a6_34 (zMk mdA n4A (zPl cr0_ inn0_ k10_)) g6_22] := ⟨a1_29, a2_30, a3_31, a4_32, a5_33, a6_34, rfl⟩
            have G : zS T A s.heap s [z1_, wwB, wt, [zO10 xo t im mk rd po co tr wa wb_ fi cd], [zO0 wa m2_15 wy2_16 l0 pc2_17 a1_29 a2_30 a3_31 a4_32 a5_33 a6_34, zAr T 0 a1_29 7 g1_18, zAr T 0 a2_30 7 g2_19, zAr T 0 a3_31 7 f3A, zAr T 0 a4_32 (zMk mdA n4A (zPl cr0_ inn0_ k10_)) g4_20, zAr T 0 a5_33 (zMk mdA n4A (zPl cr0_ inn0_ k10_)) g5_21, zAr T 0 a6_34 (zMk mdA n4A (zPl cr0_ inn0_ k10_)) g6_22], z0_] _ _ := G.re rfl
            have G := G.sub (bs' := [[zO10 xo t im mk rd po co tr wa wb_ fi cd], wt, z0_, z1_, [zO0 wa m2_15 wy2_16 l0 pc2_17 a1_29 a2_30 a3_31 a4_32 a5_33 a6_34, zAr T 0 a1_29 7 g1_18, zAr T 0 a2_30 7 g2_19, zAr T 0 a3_31 7 f3A, zAr T 0 a4_32 (zMk mdA n4A (zPl cr0_ inn0_ k10_)) g4_20, zAr T 0 a5_33 (zMk mdA n4A (zPl cr0_ inn0_ k10_)) g5_21, zAr T 0 a6_34 (zMk mdA n4A (zPl cr0_ inn0_ k10_)) g6_22], wwB]) [3, 2, 5, 0, 4, 1] rfl
            exact z_back hQz_ (z_iret C hr hlocks G (Nat.le_of_ble_eq_true rfl) (by omega) dX11_longest_156 ⟨l0, m2_15, wy2_16, pc2_17, g1_18, g2_19, f3A, g4_20, g5_21, g6_22, (zMk mdA n4A (zPl cr0_ inn0_ k10_)), ([zO0 wa m2_15 wy2_16 l0 pc2_17 a1_29 a2_30 a3_31 a4_32 a5_33 a6_34, zAr T 0 a1_29 7 g1_18, zAr T 0 a2_30 7 g2_19, zAr T 0 a3_31 7 f3A, zAr T 0 a4_32 (zMk mdA n4A (zPl cr0_ inn0_ k10_)) g4_20, zAr T 0 a5_33 (zMk mdA n4A (zPl cr0_ inn0_ k10_)) g5_21, zAr T 0 a6_34 (zMk mdA n4A (zPl cr0_ inn0_ k10_)) g6_22]), laB, mdB, wyB, pc_B, f1B, f2B, f3B, f4B, f5B, f6B, n4B, wwB, rfl, hw_40, (Or.inr rfl), hwy9, hNAm.symm, (zMk_pw hpwA), (fun _ => h_26), (Or.inr h_27), hwwB, hmdB, hwmB, (by first | exact hNAo.symm | exact (zNA_n (by first | omega | grind)).symm), hpwB, (fun q => q), hTbB, (Or.inr (Or.inl ⟨by first | with_reducible assumption | assumption, by first | with_reducible assumption | assumption, (by unfold kLong; rw [if_pos ⟨by omega, by omega⟩]; exact rLong_e (W := (aW cr0_ inn0_ k10_)) (L := k20_) (b := b7) (w := b8) hp79 (by rw [hbb, show i = aPr (aW cr0_ inn0_ k10_) 7 by omega]) (by rw [hbw, show i = aPr (aW cr0_ inn0_ k10_) 7 by omega]) (Or.inl ⟨by first | exact Or.inl (by first | with_reducible assumption | assumption) | exact Or.inr (by first | with_reducible assumption | assumption), rfl⟩))⟩))⟩)
          · have c_39n : ¬ b8.toInt = (-1 : Int) := fun q => c_39 ((fa_eq _ _).mpr q)
            refine lv_aload hx hb dX11_longest_144 (lv_at hl 3 rfl) ?_
            refine lv_iload hx hb dX11_longest_146 (lv_at hl 1 rfl) ?_
            have hw_41 : bWays T wa l0 m2_15 wy2_16 pc2_17 g1_18 g2_19 f3A g4_20 g5_21 g6_22 (zMk mdA n4A (zPl cr0_ inn0_ k10_)) [zO0 wa m2_15 wy2_16 l0 pc2_17 a1_29 a2_30 a3_31 a4_32 a5_33 a6_34, zAr T 0 a1_29 7 g1_18, zAr T 0 a2_30 7 g2_19, zAr T 0 a3_31 7 f3A, zAr T 0 a4_32 (zMk mdA n4A (zPl cr0_ inn0_ k10_)) g4_20, zAr T 0 a5_33 (zMk mdA n4A (zPl cr0_ inn0_ k10_)) g5_21, zAr T 0 a6_34 (zMk mdA n4A (zPl cr0_ inn0_ k10_)) g6_22] := ⟨a1_29, a2_30, a3_31, a4_32, a5_33, a6_34, rfl⟩
            have G : zS T A s.heap s [z1_, wwB, wt, [zO10 xo t im mk rd po co tr wa wb_ fi cd], [zO0 wa m2_15 wy2_16 l0 pc2_17 a1_29 a2_30 a3_31 a4_32 a5_33 a6_34, zAr T 0 a1_29 7 g1_18, zAr T 0 a2_30 7 g2_19, zAr T 0 a3_31 7 f3A, zAr T 0 a4_32 (zMk mdA n4A (zPl cr0_ inn0_ k10_)) g4_20, zAr T 0 a5_33 (zMk mdA n4A (zPl cr0_ inn0_ k10_)) g5_21, zAr T 0 a6_34 (zMk mdA n4A (zPl cr0_ inn0_ k10_)) g6_22], z0_] _ _ := G.re rfl
            refine z_Vi (bc := [[zO0 wa m2_15 wy2_16 l0 pc2_17 a1_29 a2_30 a3_31 a4_32 a5_33 a6_34, zAr T 0 a1_29 7 g1_18, zAr T 0 a2_30 7 g2_19, zAr T 0 a3_31 7 f3A, zAr T 0 a4_32 (zMk mdA n4A (zPl cr0_ inn0_ k10_)) g4_20, zAr T 0 a5_33 (zMk mdA n4A (zPl cr0_ inn0_ k10_)) g5_21, zAr T 0 a6_34 (zMk mdA n4A (zPl cr0_ inn0_ k10_)) g6_22], z0_]) (br := [z1_, wwB, wt, [zO10 xo t im mk rd po co tr wa wb_ fi cd]]) (As := [.int b8]) (rest := []) C G (c_f_number l T wa l0 m2_15 wy2_16 pc2_17 g1_18 g2_19 f3A g4_20 g5_21 g6_22 (zMk mdA n4A (zPl cr0_ inn0_ k10_)) ([zO0 wa m2_15 wy2_16 l0 pc2_17 a1_29 a2_30 a3_31 a4_32 a5_33 a6_34, zAr T 0 a1_29 7 g1_18, zAr T 0 a2_30 7 g2_19, zAr T 0 a3_31 7 f3A, zAr T 0 a4_32 (zMk mdA n4A (zPl cr0_ inn0_ k10_)) g4_20, zAr T 0 a5_33 (zMk mdA n4A (zPl cr0_ inn0_ k10_)) g5_21, zAr T 0 a6_34 (zMk mdA n4A (zPl cr0_ inn0_ k10_)) g6_22]) cr0_ inn0_ k10_ k20_ k30_ k40_ z0_ b8 hw_41 hz0_ hI0_ h_27.2.2.1 hOk9 (by rcases hbi9 with ⟨e9, _⟩ | e9 <;> first | exact absurd e9 (by first | with_reducible assumption | assumption) | exact e9.2.1)) (kV_RX11_272 C.2.2.2.2 (Nat.le_of_ble_eq_true rfl) (Nat.le_of_ble_eq_true rfl)) [4, 5] [4, 0] rfl rfl (ci := 0) (qc := (RX0, TX0, 10)) rfl rfl (List.mem_flatten.mpr ⟨_, List.mem_of_getElem? (i := 0) rfl, (bWays_mem hw_41).choose_spec⟩) rfl rfl hl.1 dX11_longest_148 (Nat.le_of_ble_eq_true rfl) (by show _ + 0 ≤ 6 * (zNA (i1.toInt = 0 ∧ 0 < (fk 0).toInt ∧ 0 ≤ a_.toInt ∧ a_.toInt < cr0_.toInt ∧ a_.toInt < 7) mdA n4A (zPl cr0_ inn0_ k10_) - n4A) + 6 * (zNA (i1.toInt = 1 ∧ 1 < (fk 0).toInt ∧ 0 ≤ a_.toInt ∧ a_.toInt < cr1_.toInt ∧ a_.toInt < 7) mdB n4B (zPl cr1_ inn1_ k11_) - n4B); omega) (fun r_43 b1 H locs hw G => ?_)
            refine zAn2 hw ?_
            intro hbs9 h_42
            clear hw
            subst hbs9
            have G : zS T A s.heap s [z1_, wwB, wt, [zO10 xo t im mk rd po co tr wa wb_ fi cd], [zO0 wa m2_15 wy2_16 l0 pc2_17 a1_29 a2_30 a3_31 a4_32 a5_33 a6_34, zAr T 0 a1_29 7 g1_18, zAr T 0 a2_30 7 g2_19, zAr T 0 a3_31 7 f3A, zAr T 0 a4_32 (zMk mdA n4A (zPl cr0_ inn0_ k10_)) g4_20, zAr T 0 a5_33 (zMk mdA n4A (zPl cr0_ inn0_ k10_)) g5_21, zAr T 0 a6_34 (zMk mdA n4A (zPl cr0_ inn0_ k10_)) g6_22], z0_] _ _ := G
            refine lv_goto (tgt := 156) hx hb dX11_longest_151 (by decide) ?_
            have G := G.sub (bs' := [[zO10 xo t im mk rd po co tr wa wb_ fi cd], wt, z0_, z1_, [zO0 wa m2_15 wy2_16 l0 pc2_17 a1_29 a2_30 a3_31 a4_32 a5_33 a6_34, zAr T 0 a1_29 7 g1_18, zAr T 0 a2_30 7 g2_19, zAr T 0 a3_31 7 f3A, zAr T 0 a4_32 (zMk mdA n4A (zPl cr0_ inn0_ k10_)) g4_20, zAr T 0 a5_33 (zMk mdA n4A (zPl cr0_ inn0_ k10_)) g5_21, zAr T 0 a6_34 (zMk mdA n4A (zPl cr0_ inn0_ k10_)) g6_22], wwB]) [3, 2, 5, 0, 4, 1] rfl
            exact z_back hQz_ (z_iret C hr hlocks G (Nat.le_of_ble_eq_true rfl) (by omega) dX11_longest_156 ⟨l0, m2_15, wy2_16, pc2_17, g1_18, g2_19, f3A, g4_20, g5_21, g6_22, (zMk mdA n4A (zPl cr0_ inn0_ k10_)), ([zO0 wa m2_15 wy2_16 l0 pc2_17 a1_29 a2_30 a3_31 a4_32 a5_33 a6_34, zAr T 0 a1_29 7 g1_18, zAr T 0 a2_30 7 g2_19, zAr T 0 a3_31 7 f3A, zAr T 0 a4_32 (zMk mdA n4A (zPl cr0_ inn0_ k10_)) g4_20, zAr T 0 a5_33 (zMk mdA n4A (zPl cr0_ inn0_ k10_)) g5_21, zAr T 0 a6_34 (zMk mdA n4A (zPl cr0_ inn0_ k10_)) g6_22]), laB, mdB, wyB, pc_B, f1B, f2B, f3B, f4B, f5B, f6B, n4B, wwB, rfl, hw_41, (Or.inr rfl), hwy9, hNAm.symm, (zMk_pw hpwA), (fun _ => h_26), (Or.inr h_27), hwwB, hmdB, hwmB, (by first | exact hNAo.symm | exact (zNA_n (by first | omega | grind)).symm), hpwB, (fun q => q), hTbB, (Or.inr (Or.inl ⟨by first | with_reducible assumption | assumption, by first | with_reducible assumption | assumption, (by unfold kLong; rw [if_pos ⟨by omega, by omega⟩]; exact rLong_e (W := (aW cr0_ inn0_ k10_)) (L := k20_) (b := b7) (w := b8) hp79 (by rw [hbb, show i = aPr (aW cr0_ inn0_ k10_) 7 by omega]) (by rw [hbw, show i = aPr (aW cr0_ inn0_ k10_) 7 by omega]) (Or.inr ⟨by first | with_reducible assumption | assumption, by first | with_reducible assumption | assumption, h_42⟩))⟩))⟩)
      · have c_36n : ¬ wy2_16.toInt ≤ (i : Int) := fun q => c_36 ((fa_le _ _).mpr (by rw [nI_toInt (n := i) (by omega)]; exact q))
        have hE9 := zEnt_w (w := i) (x := a_) hI0_ hOk9 h_27 (by omega) ⟨by omega, by omega, by omega⟩
        have hB9 := zEnt_b (inn := inn0_) (w := i) (x := a_) hI0_ hLq0 (by omega) ⟨by omega, by omega, by omega⟩
        have hs99 : (rStp (aW cr0_ inn0_ k10_) k20_ i a_) ≤ 499 := rStp_le
        refine lv_aload hx hb dX11_longest_54 (lv_at hl 3 rfl) ?_
        refine lv_iload hx hb dX11_longest_56 (lv_at hl 0 rfl) ?_
        refine lv_iload_n hx hb dX11_longest_58 rfl (lv_at hl 7 rfl) ?_
        have hw_44 : bWays T wa l0 m2_15 wy2_16 pc2_17 g1_18 g2_19 f3A g4_20 g5_21 g6_22 (zMk mdA n4A (zPl cr0_ inn0_ k10_)) [zO0 wa m2_15 wy2_16 l0 pc2_17 a1_29 a2_30 a3_31 a4_32 a5_33 a6_34, zAr T 0 a1_29 7 g1_18, zAr T 0 a2_30 7 g2_19, zAr T 0 a3_31 7 f3A, zAr T 0 a4_32 (zMk mdA n4A (zPl cr0_ inn0_ k10_)) g4_20, zAr T 0 a5_33 (zMk mdA n4A (zPl cr0_ inn0_ k10_)) g5_21, zAr T 0 a6_34 (zMk mdA n4A (zPl cr0_ inn0_ k10_)) g6_22] := ⟨a1_29, a2_30, a3_31, a4_32, a5_33, a6_34, rfl⟩
        have G : zS T A s.heap s [z1_, wwB, wt, [zO10 xo t im mk rd po co tr wa wb_ fi cd], [zO0 wa m2_15 wy2_16 l0 pc2_17 a1_29 a2_30 a3_31 a4_32 a5_33 a6_34, zAr T 0 a1_29 7 g1_18, zAr T 0 a2_30 7 g2_19, zAr T 0 a3_31 7 f3A, zAr T 0 a4_32 (zMk mdA n4A (zPl cr0_ inn0_ k10_)) g4_20, zAr T 0 a5_33 (zMk mdA n4A (zPl cr0_ inn0_ k10_)) g5_21, zAr T 0 a6_34 (zMk mdA n4A (zPl cr0_ inn0_ k10_)) g6_22], z0_] _ _ := G.re rfl
        refine z_Vi (bc := [[zO0 wa m2_15 wy2_16 l0 pc2_17 a1_29 a2_30 a3_31 a4_32 a5_33 a6_34, zAr T 0 a1_29 7 g1_18, zAr T 0 a2_30 7 g2_19, zAr T 0 a3_31 7 f3A, zAr T 0 a4_32 (zMk mdA n4A (zPl cr0_ inn0_ k10_)) g4_20, zAr T 0 a5_33 (zMk mdA n4A (zPl cr0_ inn0_ k10_)) g5_21, zAr T 0 a6_34 (zMk mdA n4A (zPl cr0_ inn0_ k10_)) g6_22]]) (br := [z1_, wwB, wt, [zO10 xo t im mk rd po co tr wa wb_ fi cd], z0_]) (As := [.int (nI i), .int a_]) (rest := []) C G (c_steps l T wa l0 m2_15 wy2_16 pc2_17 g1_18 g2_19 f3A g4_20 g5_21 g6_22 (zMk mdA n4A (zPl cr0_ inn0_ k10_)) ([zO0 wa m2_15 wy2_16 l0 pc2_17 a1_29 a2_30 a3_31 a4_32 a5_33 a6_34, zAr T 0 a1_29 7 g1_18, zAr T 0 a2_30 7 g2_19, zAr T 0 a3_31 7 f3A, zAr T 0 a4_32 (zMk mdA n4A (zPl cr0_ inn0_ k10_)) g4_20, zAr T 0 a5_33 (zMk mdA n4A (zPl cr0_ inn0_ k10_)) g5_21, zAr T 0 a6_34 (zMk mdA n4A (zPl cr0_ inn0_ k10_)) g6_22]) (nI i) a_ hw_44 (by first | with_reducible assumption | with_reducible rfl | omega | assumption | rfl)) (kV_RX11_266 C.2.2.2.2 (Nat.le_of_ble_eq_true rfl) (Nat.le_of_ble_eq_true rfl)) [4] [4] rfl rfl (ci := 0) (qc := (RX0, TX0, 10)) rfl rfl (List.mem_flatten.mpr ⟨_, List.mem_of_getElem? (i := 0) rfl, (bWays_mem hw_44).choose_spec⟩) rfl rfl hl.1 dX11_longest_59 (Nat.le_of_ble_eq_true rfl) (by show _ + 0 ≤ 6 * (zNA (i1.toInt = 0 ∧ 0 < (fk 0).toInt ∧ 0 ≤ a_.toInt ∧ a_.toInt < cr0_.toInt ∧ a_.toInt < 7) mdA n4A (zPl cr0_ inn0_ k10_) - n4A) + 6 * (zNA (i1.toInt = 1 ∧ 1 < (fk 0).toInt ∧ 0 ≤ a_.toInt ∧ a_.toInt < cr1_.toInt ∧ a_.toInt < 7) mdB n4B (zPl cr1_ inn1_ k11_) - n4B); omega) (fun r_46 b1 H locs hw G => ?_)
        refine zAn2 hw ?_
        intro hbs9 h_45
        clear hw
        subst hbs9
        have G : zS T A s.heap s [z1_, wwB, wt, [zO10 xo t im mk rd po co tr wa wb_ fi cd], z0_, [zO0 wa m2_15 wy2_16 l0 pc2_17 a1_29 a2_30 a3_31 a4_32 a5_33 a6_34, zAr T 0 a1_29 7 g1_18, zAr T 0 a2_30 7 g2_19, zAr T 0 a3_31 7 f3A, zAr T 0 a4_32 (zMk mdA n4A (zPl cr0_ inn0_ k10_)) g4_20, zAr T 0 a5_33 (zMk mdA n4A (zPl cr0_ inn0_ k10_)) g5_21, zAr T 0 a6_34 (zMk mdA n4A (zPl cr0_ inn0_ k10_)) g6_22]] _ _ := G
        subst h_45
        refine lv_topi (fun y_47 ey_47 => ?_)
        obtain rfl : y_47 = nI (rStp (aW cr0_ inn0_ k10_) k20_ i a_) := ey_47.trans (hE9.2.1)
        refine lv_istore (lv' := [(10, .int (nI (rStp (aW cr0_ inn0_ k10_) k20_ i a_))), (9, .int (nI i)), (8, .int b8), (7, .int b7), (6, .ref wa), (5, .ref l0), (0, .ref xo), (1, .int i1), (2, .int a_), (3, .int w_), (4, .int q_)]) hx hb dX11_longest_62 hl (by decide) (zLvf_h rfl) (fun ls hl => ?_)
        refine lv_iload hx hb dX11_longest_64 (lv_at hl 3 rfl) ?_
        refine lv_iconst (v := (-1)) hx hb dX11_longest_66 (by decide) ?_
        refine lv_icmp_eq (tgt := 91) hx hb dX11_longest_67 (by decide) (fun c_48 => ?_) (fun c_48 => ?_)
        · have c_48n : b7.toInt = (-1 : Int) := (fa_eq _ _).mp c_48
          refine lv_iconst (v := 1) hx hb dX11_longest_91 (by decide) ?_
          refine lv_goto (tgt := 96) hx hb dX11_longest_92 (by decide) ?_
          refine lv_istore (lv' := [(11, .int 1), (10, .int (nI (rStp (aW cr0_ inn0_ k10_) k20_ i a_))), (9, .int (nI i)), (8, .int b8), (7, .int b7), (6, .ref wa), (5, .ref l0), (0, .ref xo), (1, .int i1), (2, .int a_), (3, .int w_), (4, .int q_)]) hx hb dX11_longest_96 hl (by decide) (zLvf_h rfl) (fun ls hl => ?_)
          refine lv_iload hx hb dX11_longest_98 (lv_at hl 0 rfl) ?_
          refine lv_if_eq (tgt := 127) hx hb dX11_longest_100 (by decide) (fun q => absurd q (by decide)) (fun _ => ?_)
          refine lv_aload hx hb dX11_longest_103 (lv_at hl 6 rfl) ?_
          refine lv_aload hx hb dX11_longest_105 (lv_at hl 5 rfl) ?_
          refine lv_iload hx hb dX11_longest_107 (lv_at hl 2 rfl) ?_
          refine lv_iload_n hx hb dX11_longest_109 rfl (lv_at hl 9 rfl) ?_
          refine z_Vi (bc := [[zO0 wa m2_15 wy2_16 l0 pc2_17 a1_29 a2_30 a3_31 a4_32 a5_33 a6_34, zAr T 0 a1_29 7 g1_18, zAr T 0 a2_30 7 g2_19, zAr T 0 a3_31 7 f3A, zAr T 0 a4_32 (zMk mdA n4A (zPl cr0_ inn0_ k10_)) g4_20, zAr T 0 a5_33 (zMk mdA n4A (zPl cr0_ inn0_ k10_)) g5_21, zAr T 0 a6_34 (zMk mdA n4A (zPl cr0_ inn0_ k10_)) g6_22]]) (br := [z1_, wwB, wt, [zO10 xo t im mk rd po co tr wa wb_ fi cd], z0_]) (As := [.int (nI i), .int a_]) (rest := [.ref l0]) C G (c_where l T wa l0 m2_15 wy2_16 pc2_17 g1_18 g2_19 f3A g4_20 g5_21 g6_22 (zMk mdA n4A (zPl cr0_ inn0_ k10_)) ([zO0 wa m2_15 wy2_16 l0 pc2_17 a1_29 a2_30 a3_31 a4_32 a5_33 a6_34, zAr T 0 a1_29 7 g1_18, zAr T 0 a2_30 7 g2_19, zAr T 0 a3_31 7 f3A, zAr T 0 a4_32 (zMk mdA n4A (zPl cr0_ inn0_ k10_)) g4_20, zAr T 0 a5_33 (zMk mdA n4A (zPl cr0_ inn0_ k10_)) g5_21, zAr T 0 a6_34 (zMk mdA n4A (zPl cr0_ inn0_ k10_)) g6_22]) (nI i) a_ hw_44 (by first | with_reducible assumption | with_reducible rfl | omega | assumption | rfl)) (kV_RX11_260 C.2.2.2.2 (Nat.le_of_ble_eq_true rfl) (Nat.le_of_ble_eq_true rfl)) [5] [5] rfl rfl (ci := 0) (qc := (RX0, TX0, 10)) rfl rfl (List.mem_flatten.mpr ⟨_, List.mem_of_getElem? (i := 0) rfl, (bWays_mem hw_44).choose_spec⟩) rfl rfl hl.1 dX11_longest_110 (Nat.le_of_ble_eq_true rfl) (by show _ + 0 ≤ 6 * (zNA (i1.toInt = 0 ∧ 0 < (fk 0).toInt ∧ 0 ≤ a_.toInt ∧ a_.toInt < cr0_.toInt ∧ a_.toInt < 7) mdA n4A (zPl cr0_ inn0_ k10_) - n4A) + 6 * (zNA (i1.toInt = 1 ∧ 1 < (fk 0).toInt ∧ 0 ≤ a_.toInt ∧ a_.toInt < cr1_.toInt ∧ a_.toInt < 7) mdB n4B (zPl cr1_ inn1_ k11_) - n4B); omega) (fun r_50 b1 H locs hw G => ?_)
          refine zAn2 hw ?_
          intro hbs9 h_49
          clear hw
          subst hbs9
          have G : zS T A s.heap s [z1_, wwB, wt, [zO10 xo t im mk rd po co tr wa wb_ fi cd], z0_, [zO0 wa m2_15 wy2_16 l0 pc2_17 a1_29 a2_30 a3_31 a4_32 a5_33 a6_34, zAr T 0 a1_29 7 g1_18, zAr T 0 a2_30 7 g2_19, zAr T 0 a3_31 7 f3A, zAr T 0 a4_32 (zMk mdA n4A (zPl cr0_ inn0_ k10_)) g4_20, zAr T 0 a5_33 (zMk mdA n4A (zPl cr0_ inn0_ k10_)) g5_21, zAr T 0 a6_34 (zMk mdA n4A (zPl cr0_ inn0_ k10_)) g6_22]] _ _ := G
          subst h_49
          refine lv_topi (fun y_51 ey_51 => ?_)
          obtain rfl : y_51 = (rWh (aW cr0_ inn0_ k10_) k20_ i a_) := ey_51.trans (hE9.1)
          refine z_Vi (bc := [z0_]) (br := [z1_, wwB, wt, [zO10 xo t im mk rd po co tr wa wb_ fi cd], [zO0 wa m2_15 wy2_16 l0 pc2_17 a1_29 a2_30 a3_31 a4_32 a5_33 a6_34, zAr T 0 a1_29 7 g1_18, zAr T 0 a2_30 7 g2_19, zAr T 0 a3_31 7 f3A, zAr T 0 a4_32 (zMk mdA n4A (zPl cr0_ inn0_ k10_)) g4_20, zAr T 0 a5_33 (zMk mdA n4A (zPl cr0_ inn0_ k10_)) g5_21, zAr T 0 a6_34 (zMk mdA n4A (zPl cr0_ inn0_ k10_)) g6_22]]) (As := [.int (rWh (aW cr0_ inn0_ k10_) k20_ i a_)]) (rest := []) C G (c_isInn l T l0 cr0_ inn0_ k10_ k20_ k30_ k40_ z0_ (rWh (aW cr0_ inn0_ k10_) k20_ i a_) hz0_) (kV_RX11_174 C.2.2.2.2 (Nat.le_of_ble_eq_true rfl) (Nat.le_of_ble_eq_true rfl)) [4] [4] rfl rfl (ci := 4) (qc := (RX4, TX4, 6)) rfl rfl (List.mem_flatten.mpr ⟨_, List.mem_of_getElem? (i := 0) rfl, (bLand_mem hz0_).choose_spec⟩) rfl rfl hl.1 dX11_longest_113 (Nat.le_of_ble_eq_true rfl) (by show _ + 0 ≤ 6 * (zNA (i1.toInt = 0 ∧ 0 < (fk 0).toInt ∧ 0 ≤ a_.toInt ∧ a_.toInt < cr0_.toInt ∧ a_.toInt < 7) mdA n4A (zPl cr0_ inn0_ k10_) - n4A) + 6 * (zNA (i1.toInt = 1 ∧ 1 < (fk 0).toInt ∧ 0 ≤ a_.toInt ∧ a_.toInt < cr1_.toInt ∧ a_.toInt < 7) mdB n4B (zPl cr1_ inn1_ k11_) - n4B); omega) (fun r_53 b1 H locs hw G => ?_)
          refine zAn2 hw ?_
          intro hbs9 hc_52
          clear hw
          subst hbs9
          have G : zS T A s.heap s [z1_, wwB, wt, [zO10 xo t im mk rd po co tr wa wb_ fi cd], [zO0 wa m2_15 wy2_16 l0 pc2_17 a1_29 a2_30 a3_31 a4_32 a5_33 a6_34, zAr T 0 a1_29 7 g1_18, zAr T 0 a2_30 7 g2_19, zAr T 0 a3_31 7 f3A, zAr T 0 a4_32 (zMk mdA n4A (zPl cr0_ inn0_ k10_)) g4_20, zAr T 0 a5_33 (zMk mdA n4A (zPl cr0_ inn0_ k10_)) g5_21, zAr T 0 a6_34 (zMk mdA n4A (zPl cr0_ inn0_ k10_)) g6_22], z0_] _ _ := G
          rcases hc_52 with ⟨rfl, h_54, h_55, h_56, h_57⟩ | ⟨rfl, h_58⟩
          · have h_54 : 0 ≤ (rWh (aW cr0_ inn0_ k10_) k20_ i a_).toInt := h_54
            have h_55 : (rWh (aW cr0_ inn0_ k10_) k20_ i a_).toInt < cr0_.toInt := h_55
            have h_56 : (rWh (aW cr0_ inn0_ k10_) k20_ i a_).toInt < 7 := h_56
            have h_57 : ¬ zBit inn0_ (rWh (aW cr0_ inn0_ k10_) k20_ i a_) = 0 := h_57
            have hyi := zBit_p h_57
            refine lv_if_eq (tgt := 127) hx hb dX11_longest_116 (by decide) (fun q => absurd q (by decide)) (fun _ => ?_)
            refine lv_iload hx hb dX11_longest_119 (lv_at hl 1 rfl) ?_
            refine lv_istore (lv' := [(7, .int (nI (rStp (aW cr0_ inn0_ k10_) k20_ i a_))), (11, .int 1), (10, .int (nI (rStp (aW cr0_ inn0_ k10_) k20_ i a_))), (9, .int (nI i)), (8, .int b8), (6, .ref wa), (5, .ref l0), (0, .ref xo), (1, .int i1), (2, .int a_), (3, .int w_), (4, .int q_)]) hx hb dX11_longest_121 hl (by decide) (zLvf_h rfl) (fun ls hl => ?_)
            refine lv_iload hx hb dX11_longest_123 (lv_at hl 3 rfl) ?_
            refine lv_istore (lv' := [(8, .int (nI i)), (7, .int (nI (rStp (aW cr0_ inn0_ k10_) k20_ i a_))), (11, .int 1), (10, .int (nI (rStp (aW cr0_ inn0_ k10_) k20_ i a_))), (9, .int (nI i)), (6, .ref wa), (5, .ref l0), (0, .ref xo), (1, .int i1), (2, .int a_), (3, .int w_), (4, .int q_)]) hx hb dX11_longest_125 hl (by decide) (zLvf_h rfl) (fun ls hl => ?_)
            have hbs9 := (rBg_s (c := (fun w => decide (zBit inn0_ (rWh (aW cr0_ inn0_ k10_) k20_ w a_) = 1))) (g := (fun w => rStp (aW cr0_ inn0_ k10_) k20_ w a_)) (s := w_) (fun v => Nat.lt_of_le_of_lt rStp_le (by decide)) (by omega) hbb hbw).1 (decide_eq_true hyi) (by omega)
            refine lv_iinc (v := nI (i + 1)) (lv' := [(9, .int (nI (i + 1))), (8, .int (nI i)), (7, .int (nI (rStp (aW cr0_ inn0_ k10_) k20_ i a_))), (11, .int 1), (10, .int (nI (rStp (aW cr0_ inn0_ k10_) k20_ i a_))), (6, .ref wa), (5, .ref l0), (0, .ref xo), (1, .int i1), (2, .int a_), (3, .int w_), (4, .int q_)]) hx hb dX11_longest_127 hl (k := 4) rfl (z_inc i 1) (by decide) (zLvf_h rfl) (fun ls hl => ?_)
            refine lv_goto (tgt := 44) hx hb dX11_longest_130 (by decide) ?_
            exact ih_44 (i + 1) (nI (rStp (aW cr0_ inn0_ k10_) k20_ i a_)) (nI i) (show (i + 1) ≤ aPr (aW cr0_ inn0_ k10_) 7 ∧ (nI (rStp (aW cr0_ inn0_ k10_) k20_ i a_)) = (rBg (fun w => decide (zBit inn0_ (rWh (aW cr0_ inn0_ k10_) k20_ w a_) = 1)) (fun w => rStp (aW cr0_ inn0_ k10_) k20_ w a_) w_ (i + 1)).2 ∧ (nI i) = (rBg (fun w => decide (zBit inn0_ (rWh (aW cr0_ inn0_ k10_) k20_ w a_) = 1)) (fun w => rStp (aW cr0_ inn0_ k10_) k20_ w a_) w_ (i + 1)).1 from ⟨(by omega), hbs9.1, hbs9.2⟩) (show aPr (aW cr0_ inn0_ k10_) 7 - (i + 1) < aPr (aW cr0_ inn0_ k10_) 7 - i from by omega) _ _ ls G (lv_sub hl [0, 1, 2, 5, 6, 7, 8, 9, 10, 11] rfl)
          · have h_58 : ((rWh (aW cr0_ inn0_ k10_) k20_ i a_).toInt < 0 ∨ cr0_.toInt ≤ (rWh (aW cr0_ inn0_ k10_) k20_ i a_).toInt ∨ 7 ≤ (rWh (aW cr0_ inn0_ k10_) k20_ i a_).toInt ∨ zBit inn0_ (rWh (aW cr0_ inn0_ k10_) k20_ i a_) = 0) := h_58
            have hni : ¬ zBit inn0_ (rWh (aW cr0_ inn0_ k10_) k20_ i a_) = 1 := by rcases h_58 with e9 | e9 | e9 | e9 <;> first | (exfalso; omega) | exact fun q9 => zBit_o q9 e9
            refine lv_if_eq (tgt := 127) hx hb dX11_longest_116 (by decide) (fun _ => ?_) (fun q => absurd (by decide) q)
            have hbs9 := (rBg_s (c := (fun w => decide (zBit inn0_ (rWh (aW cr0_ inn0_ k10_) k20_ w a_) = 1))) (g := (fun w => rStp (aW cr0_ inn0_ k10_) k20_ w a_)) (s := w_) (fun v => Nat.lt_of_le_of_lt rStp_le (by decide)) (by omega) hbb hbw).2 (fun q8 => by first | exact hni (of_decide_eq_true q8.1) | (have q7 := q8.2; omega))
            refine lv_iinc (v := nI (i + 1)) (lv' := [(9, .int (nI (i + 1))), (11, .int 1), (10, .int (nI (rStp (aW cr0_ inn0_ k10_) k20_ i a_))), (8, .int b8), (7, .int b7), (6, .ref wa), (5, .ref l0), (0, .ref xo), (1, .int i1), (2, .int a_), (3, .int w_), (4, .int q_)]) hx hb dX11_longest_127 hl (k := 2) rfl (z_inc i 1) (by decide) (zLvf_h rfl) (fun ls hl => ?_)
            refine lv_goto (tgt := 44) hx hb dX11_longest_130 (by decide) ?_
            exact ih_44 (i + 1) b7 b8 (show (i + 1) ≤ aPr (aW cr0_ inn0_ k10_) 7 ∧ b7 = (rBg (fun w => decide (zBit inn0_ (rWh (aW cr0_ inn0_ k10_) k20_ w a_) = 1)) (fun w => rStp (aW cr0_ inn0_ k10_) k20_ w a_) w_ (i + 1)).2 ∧ b8 = (rBg (fun w => decide (zBit inn0_ (rWh (aW cr0_ inn0_ k10_) k20_ w a_) = 1)) (fun w => rStp (aW cr0_ inn0_ k10_) k20_ w a_) w_ (i + 1)).1 from ⟨(by omega), hbs9.1, hbs9.2⟩) (show aPr (aW cr0_ inn0_ k10_) 7 - (i + 1) < aPr (aW cr0_ inn0_ k10_) 7 - i from by omega) _ _ ls G (lv_sub hl [0, 3, 4, 5, 6, 7, 8, 9, 10, 11] rfl)
        · have c_48n : ¬ b7.toInt = (-1 : Int) := fun q => c_48 ((fa_eq _ _).mpr q)
          refine lv_iload_n hx hb dX11_longest_70 rfl (lv_at hl 9 rfl) ?_
          refine lv_if_eq (tgt := 84) hx hb dX11_longest_71 (by decide) (fun c_59 => ?_) (fun c_59 => ?_)
          · have c_59n : w_.toInt = (0 : Int) := (fa_eq _ _).mp c_59
            refine lv_iload hx hb dX11_longest_84 (lv_at hl 0 rfl) ?_
            refine lv_iload hx hb dX11_longest_86 (lv_at hl 3 rfl) ?_
            refine lv_icmp_le (tgt := 95) hx hb dX11_longest_88 (by decide) (fun c_60 => ?_) (fun c_60 => ?_)
            · have c_60n : ((rStp (aW cr0_ inn0_ k10_) k20_ i a_) : Int) ≤ b7.toInt := by have q := (fa_le _ _).mp c_60; rw [nI_toInt (n := rStp (aW cr0_ inn0_ k10_) k20_ i a_) (by omega)] at q; exact q
              refine lv_iconst (v := 0) hx hb dX11_longest_95 (by decide) ?_
              refine lv_istore (lv' := [(11, .int 0), (10, .int (nI (rStp (aW cr0_ inn0_ k10_) k20_ i a_))), (9, .int (nI i)), (8, .int b8), (7, .int b7), (6, .ref wa), (5, .ref l0), (0, .ref xo), (1, .int i1), (2, .int a_), (3, .int w_), (4, .int q_)]) hx hb dX11_longest_96 hl (by decide) (zLvf_h rfl) (fun ls hl => ?_)
              refine lv_iload hx hb dX11_longest_98 (lv_at hl 0 rfl) ?_
              refine lv_if_eq (tgt := 127) hx hb dX11_longest_100 (by decide) (fun _ => ?_) (fun q => absurd (by decide) q)
              have hbs9 := (rBg_s (c := (fun w => decide (zBit inn0_ (rWh (aW cr0_ inn0_ k10_) k20_ w a_) = 1))) (g := (fun w => rStp (aW cr0_ inn0_ k10_) k20_ w a_)) (s := w_) (fun v => Nat.lt_of_le_of_lt rStp_le (by decide)) (by omega) hbb hbw).2 (fun q8 => by first | exact hni (of_decide_eq_true q8.1) | (have q7 := q8.2; omega))
              refine lv_iinc (v := nI (i + 1)) (lv' := [(9, .int (nI (i + 1))), (11, .int 0), (10, .int (nI (rStp (aW cr0_ inn0_ k10_) k20_ i a_))), (8, .int b8), (7, .int b7), (6, .ref wa), (5, .ref l0), (0, .ref xo), (1, .int i1), (2, .int a_), (3, .int w_), (4, .int q_)]) hx hb dX11_longest_127 hl (k := 2) rfl (z_inc i 1) (by decide) (zLvf_h rfl) (fun ls hl => ?_)
              refine lv_goto (tgt := 44) hx hb dX11_longest_130 (by decide) ?_
              have G := G.sub (bs' := [z1_, wwB, wt, [zO10 xo t im mk rd po co tr wa wb_ fi cd], [zO0 wa m2_15 wy2_16 l0 pc2_17 a1_29 a2_30 a3_31 a4_32 a5_33 a6_34, zAr T 0 a1_29 7 g1_18, zAr T 0 a2_30 7 g2_19, zAr T 0 a3_31 7 f3A, zAr T 0 a4_32 (zMk mdA n4A (zPl cr0_ inn0_ k10_)) g4_20, zAr T 0 a5_33 (zMk mdA n4A (zPl cr0_ inn0_ k10_)) g5_21, zAr T 0 a6_34 (zMk mdA n4A (zPl cr0_ inn0_ k10_)) g6_22], z0_]) [0, 1, 2, 3, 5, 4] rfl
              exact ih_44 (i + 1) b7 b8 (show (i + 1) ≤ aPr (aW cr0_ inn0_ k10_) 7 ∧ b7 = (rBg (fun w => decide (zBit inn0_ (rWh (aW cr0_ inn0_ k10_) k20_ w a_) = 1)) (fun w => rStp (aW cr0_ inn0_ k10_) k20_ w a_) w_ (i + 1)).2 ∧ b8 = (rBg (fun w => decide (zBit inn0_ (rWh (aW cr0_ inn0_ k10_) k20_ w a_) = 1)) (fun w => rStp (aW cr0_ inn0_ k10_) k20_ w a_) w_ (i + 1)).1 from ⟨(by omega), hbs9.1, hbs9.2⟩) (show aPr (aW cr0_ inn0_ k10_) 7 - (i + 1) < aPr (aW cr0_ inn0_ k10_) 7 - i from by omega) _ _ ls G (lv_sub hl [0, 3, 4, 5, 6, 7, 8, 9, 10, 11] rfl)
            · have c_60n : ¬ ((rStp (aW cr0_ inn0_ k10_) k20_ i a_) : Int) ≤ b7.toInt := fun q => c_60 ((fa_le _ _).mpr (by rw [nI_toInt (n := rStp (aW cr0_ inn0_ k10_) k20_ i a_) (by omega)]; exact q))
              refine lv_iconst (v := 1) hx hb dX11_longest_91 (by decide) ?_
              refine lv_goto (tgt := 96) hx hb dX11_longest_92 (by decide) ?_
              refine lv_istore (lv' := [(11, .int 1), (10, .int (nI (rStp (aW cr0_ inn0_ k10_) k20_ i a_))), (9, .int (nI i)), (8, .int b8), (7, .int b7), (6, .ref wa), (5, .ref l0), (0, .ref xo), (1, .int i1), (2, .int a_), (3, .int w_), (4, .int q_)]) hx hb dX11_longest_96 hl (by decide) (zLvf_h rfl) (fun ls hl => ?_)
              refine lv_iload hx hb dX11_longest_98 (lv_at hl 0 rfl) ?_
              refine lv_if_eq (tgt := 127) hx hb dX11_longest_100 (by decide) (fun q => absurd q (by decide)) (fun _ => ?_)
              refine lv_aload hx hb dX11_longest_103 (lv_at hl 6 rfl) ?_
              refine lv_aload hx hb dX11_longest_105 (lv_at hl 5 rfl) ?_
              refine lv_iload hx hb dX11_longest_107 (lv_at hl 2 rfl) ?_
              refine lv_iload_n hx hb dX11_longest_109 rfl (lv_at hl 9 rfl) ?_
              refine z_Vi (bc := [[zO0 wa m2_15 wy2_16 l0 pc2_17 a1_29 a2_30 a3_31 a4_32 a5_33 a6_34, zAr T 0 a1_29 7 g1_18, zAr T 0 a2_30 7 g2_19, zAr T 0 a3_31 7 f3A, zAr T 0 a4_32 (zMk mdA n4A (zPl cr0_ inn0_ k10_)) g4_20, zAr T 0 a5_33 (zMk mdA n4A (zPl cr0_ inn0_ k10_)) g5_21, zAr T 0 a6_34 (zMk mdA n4A (zPl cr0_ inn0_ k10_)) g6_22]]) (br := [z1_, wwB, wt, [zO10 xo t im mk rd po co tr wa wb_ fi cd], z0_]) (As := [.int (nI i), .int a_]) (rest := [.ref l0]) C G (c_where l T wa l0 m2_15 wy2_16 pc2_17 g1_18 g2_19 f3A g4_20 g5_21 g6_22 (zMk mdA n4A (zPl cr0_ inn0_ k10_)) ([zO0 wa m2_15 wy2_16 l0 pc2_17 a1_29 a2_30 a3_31 a4_32 a5_33 a6_34, zAr T 0 a1_29 7 g1_18, zAr T 0 a2_30 7 g2_19, zAr T 0 a3_31 7 f3A, zAr T 0 a4_32 (zMk mdA n4A (zPl cr0_ inn0_ k10_)) g4_20, zAr T 0 a5_33 (zMk mdA n4A (zPl cr0_ inn0_ k10_)) g5_21, zAr T 0 a6_34 (zMk mdA n4A (zPl cr0_ inn0_ k10_)) g6_22]) (nI i) a_ hw_44 (by first | with_reducible assumption | with_reducible rfl | omega | assumption | rfl)) (kV_RX11_260 C.2.2.2.2 (Nat.le_of_ble_eq_true rfl) (Nat.le_of_ble_eq_true rfl)) [5] [5] rfl rfl (ci := 0) (qc := (RX0, TX0, 10)) rfl rfl (List.mem_flatten.mpr ⟨_, List.mem_of_getElem? (i := 0) rfl, (bWays_mem hw_44).choose_spec⟩) rfl rfl hl.1 dX11_longest_110 (Nat.le_of_ble_eq_true rfl) (by show _ + 0 ≤ 6 * (zNA (i1.toInt = 0 ∧ 0 < (fk 0).toInt ∧ 0 ≤ a_.toInt ∧ a_.toInt < cr0_.toInt ∧ a_.toInt < 7) mdA n4A (zPl cr0_ inn0_ k10_) - n4A) + 6 * (zNA (i1.toInt = 1 ∧ 1 < (fk 0).toInt ∧ 0 ≤ a_.toInt ∧ a_.toInt < cr1_.toInt ∧ a_.toInt < 7) mdB n4B (zPl cr1_ inn1_ k11_) - n4B); omega) (fun r_62 b1 H locs hw G => ?_)
              refine zAn2 hw ?_
              intro hbs9 h_61
              clear hw
              subst hbs9
              have G : zS T A s.heap s [z1_, wwB, wt, [zO10 xo t im mk rd po co tr wa wb_ fi cd], z0_, [zO0 wa m2_15 wy2_16 l0 pc2_17 a1_29 a2_30 a3_31 a4_32 a5_33 a6_34, zAr T 0 a1_29 7 g1_18, zAr T 0 a2_30 7 g2_19, zAr T 0 a3_31 7 f3A, zAr T 0 a4_32 (zMk mdA n4A (zPl cr0_ inn0_ k10_)) g4_20, zAr T 0 a5_33 (zMk mdA n4A (zPl cr0_ inn0_ k10_)) g5_21, zAr T 0 a6_34 (zMk mdA n4A (zPl cr0_ inn0_ k10_)) g6_22]] _ _ := G
              subst h_61
              refine lv_topi (fun y_63 ey_63 => ?_)
              obtain rfl : y_63 = (rWh (aW cr0_ inn0_ k10_) k20_ i a_) := ey_63.trans (hE9.1)
              refine z_Vi (bc := [z0_]) (br := [z1_, wwB, wt, [zO10 xo t im mk rd po co tr wa wb_ fi cd], [zO0 wa m2_15 wy2_16 l0 pc2_17 a1_29 a2_30 a3_31 a4_32 a5_33 a6_34, zAr T 0 a1_29 7 g1_18, zAr T 0 a2_30 7 g2_19, zAr T 0 a3_31 7 f3A, zAr T 0 a4_32 (zMk mdA n4A (zPl cr0_ inn0_ k10_)) g4_20, zAr T 0 a5_33 (zMk mdA n4A (zPl cr0_ inn0_ k10_)) g5_21, zAr T 0 a6_34 (zMk mdA n4A (zPl cr0_ inn0_ k10_)) g6_22]]) (As := [.int (rWh (aW cr0_ inn0_ k10_) k20_ i a_)]) (rest := []) C G (c_isInn l T l0 cr0_ inn0_ k10_ k20_ k30_ k40_ z0_ (rWh (aW cr0_ inn0_ k10_) k20_ i a_) hz0_) (kV_RX11_174 C.2.2.2.2 (Nat.le_of_ble_eq_true rfl) (Nat.le_of_ble_eq_true rfl)) [4] [4] rfl rfl (ci := 4) (qc := (RX4, TX4, 6)) rfl rfl (List.mem_flatten.mpr ⟨_, List.mem_of_getElem? (i := 0) rfl, (bLand_mem hz0_).choose_spec⟩) rfl rfl hl.1 dX11_longest_113 (Nat.le_of_ble_eq_true rfl) (by show _ + 0 ≤ 6 * (zNA (i1.toInt = 0 ∧ 0 < (fk 0).toInt ∧ 0 ≤ a_.toInt ∧ a_.toInt < cr0_.toInt ∧ a_.toInt < 7) mdA n4A (zPl cr0_ inn0_ k10_) - n4A) + 6 * (zNA (i1.toInt = 1 ∧ 1 < (fk 0).toInt ∧ 0 ≤ a_.toInt ∧ a_.toInt < cr1_.toInt ∧ a_.toInt < 7) mdB n4B (zPl cr1_ inn1_ k11_) - n4B); omega) (fun r_65 b1 H locs hw G => ?_)
              refine zAn2 hw ?_
              intro hbs9 hc_64
              clear hw
              subst hbs9
              have G : zS T A s.heap s [z1_, wwB, wt, [zO10 xo t im mk rd po co tr wa wb_ fi cd], [zO0 wa m2_15 wy2_16 l0 pc2_17 a1_29 a2_30 a3_31 a4_32 a5_33 a6_34, zAr T 0 a1_29 7 g1_18, zAr T 0 a2_30 7 g2_19, zAr T 0 a3_31 7 f3A, zAr T 0 a4_32 (zMk mdA n4A (zPl cr0_ inn0_ k10_)) g4_20, zAr T 0 a5_33 (zMk mdA n4A (zPl cr0_ inn0_ k10_)) g5_21, zAr T 0 a6_34 (zMk mdA n4A (zPl cr0_ inn0_ k10_)) g6_22], z0_] _ _ := G
              rcases hc_64 with ⟨rfl, h_66, h_67, h_68, h_69⟩ | ⟨rfl, h_70⟩
              · have h_66 : 0 ≤ (rWh (aW cr0_ inn0_ k10_) k20_ i a_).toInt := h_66
                have h_67 : (rWh (aW cr0_ inn0_ k10_) k20_ i a_).toInt < cr0_.toInt := h_67
                have h_68 : (rWh (aW cr0_ inn0_ k10_) k20_ i a_).toInt < 7 := h_68
                have h_69 : ¬ zBit inn0_ (rWh (aW cr0_ inn0_ k10_) k20_ i a_) = 0 := h_69
                have hyi := zBit_p h_69
                refine lv_if_eq (tgt := 127) hx hb dX11_longest_116 (by decide) (fun q => absurd q (by decide)) (fun _ => ?_)
                refine lv_iload hx hb dX11_longest_119 (lv_at hl 1 rfl) ?_
                refine lv_istore (lv' := [(7, .int (nI (rStp (aW cr0_ inn0_ k10_) k20_ i a_))), (11, .int 1), (10, .int (nI (rStp (aW cr0_ inn0_ k10_) k20_ i a_))), (9, .int (nI i)), (8, .int b8), (6, .ref wa), (5, .ref l0), (0, .ref xo), (1, .int i1), (2, .int a_), (3, .int w_), (4, .int q_)]) hx hb dX11_longest_121 hl (by decide) (zLvf_h rfl) (fun ls hl => ?_)
                refine lv_iload hx hb dX11_longest_123 (lv_at hl 3 rfl) ?_
                refine lv_istore (lv' := [(8, .int (nI i)), (7, .int (nI (rStp (aW cr0_ inn0_ k10_) k20_ i a_))), (11, .int 1), (10, .int (nI (rStp (aW cr0_ inn0_ k10_) k20_ i a_))), (9, .int (nI i)), (6, .ref wa), (5, .ref l0), (0, .ref xo), (1, .int i1), (2, .int a_), (3, .int w_), (4, .int q_)]) hx hb dX11_longest_125 hl (by decide) (zLvf_h rfl) (fun ls hl => ?_)
                have hbs9 := (rBg_s (c := (fun w => decide (zBit inn0_ (rWh (aW cr0_ inn0_ k10_) k20_ w a_) = 1))) (g := (fun w => rStp (aW cr0_ inn0_ k10_) k20_ w a_)) (s := w_) (fun v => Nat.lt_of_le_of_lt rStp_le (by decide)) (by omega) hbb hbw).1 (decide_eq_true hyi) (by omega)
                refine lv_iinc (v := nI (i + 1)) (lv' := [(9, .int (nI (i + 1))), (8, .int (nI i)), (7, .int (nI (rStp (aW cr0_ inn0_ k10_) k20_ i a_))), (11, .int 1), (10, .int (nI (rStp (aW cr0_ inn0_ k10_) k20_ i a_))), (6, .ref wa), (5, .ref l0), (0, .ref xo), (1, .int i1), (2, .int a_), (3, .int w_), (4, .int q_)]) hx hb dX11_longest_127 hl (k := 4) rfl (z_inc i 1) (by decide) (zLvf_h rfl) (fun ls hl => ?_)
                refine lv_goto (tgt := 44) hx hb dX11_longest_130 (by decide) ?_
                exact ih_44 (i + 1) (nI (rStp (aW cr0_ inn0_ k10_) k20_ i a_)) (nI i) (show (i + 1) ≤ aPr (aW cr0_ inn0_ k10_) 7 ∧ (nI (rStp (aW cr0_ inn0_ k10_) k20_ i a_)) = (rBg (fun w => decide (zBit inn0_ (rWh (aW cr0_ inn0_ k10_) k20_ w a_) = 1)) (fun w => rStp (aW cr0_ inn0_ k10_) k20_ w a_) w_ (i + 1)).2 ∧ (nI i) = (rBg (fun w => decide (zBit inn0_ (rWh (aW cr0_ inn0_ k10_) k20_ w a_) = 1)) (fun w => rStp (aW cr0_ inn0_ k10_) k20_ w a_) w_ (i + 1)).1 from ⟨(by omega), hbs9.1, hbs9.2⟩) (show aPr (aW cr0_ inn0_ k10_) 7 - (i + 1) < aPr (aW cr0_ inn0_ k10_) 7 - i from by omega) _ _ ls G (lv_sub hl [0, 1, 2, 5, 6, 7, 8, 9, 10, 11] rfl)
              · have h_70 : ((rWh (aW cr0_ inn0_ k10_) k20_ i a_).toInt < 0 ∨ cr0_.toInt ≤ (rWh (aW cr0_ inn0_ k10_) k20_ i a_).toInt ∨ 7 ≤ (rWh (aW cr0_ inn0_ k10_) k20_ i a_).toInt ∨ zBit inn0_ (rWh (aW cr0_ inn0_ k10_) k20_ i a_) = 0) := h_70
                have hni : ¬ zBit inn0_ (rWh (aW cr0_ inn0_ k10_) k20_ i a_) = 1 := by rcases h_70 with e9 | e9 | e9 | e9 <;> first | (exfalso; omega) | exact fun q9 => zBit_o q9 e9
                refine lv_if_eq (tgt := 127) hx hb dX11_longest_116 (by decide) (fun _ => ?_) (fun q => absurd (by decide) q)
                have hbs9 := (rBg_s (c := (fun w => decide (zBit inn0_ (rWh (aW cr0_ inn0_ k10_) k20_ w a_) = 1))) (g := (fun w => rStp (aW cr0_ inn0_ k10_) k20_ w a_)) (s := w_) (fun v => Nat.lt_of_le_of_lt rStp_le (by decide)) (by omega) hbb hbw).2 (fun q8 => by first | exact hni (of_decide_eq_true q8.1) | (have q7 := q8.2; omega))
                refine lv_iinc (v := nI (i + 1)) (lv' := [(9, .int (nI (i + 1))), (11, .int 1), (10, .int (nI (rStp (aW cr0_ inn0_ k10_) k20_ i a_))), (8, .int b8), (7, .int b7), (6, .ref wa), (5, .ref l0), (0, .ref xo), (1, .int i1), (2, .int a_), (3, .int w_), (4, .int q_)]) hx hb dX11_longest_127 hl (k := 2) rfl (z_inc i 1) (by decide) (zLvf_h rfl) (fun ls hl => ?_)
                refine lv_goto (tgt := 44) hx hb dX11_longest_130 (by decide) ?_
                exact ih_44 (i + 1) b7 b8 (show (i + 1) ≤ aPr (aW cr0_ inn0_ k10_) 7 ∧ b7 = (rBg (fun w => decide (zBit inn0_ (rWh (aW cr0_ inn0_ k10_) k20_ w a_) = 1)) (fun w => rStp (aW cr0_ inn0_ k10_) k20_ w a_) w_ (i + 1)).2 ∧ b8 = (rBg (fun w => decide (zBit inn0_ (rWh (aW cr0_ inn0_ k10_) k20_ w a_) = 1)) (fun w => rStp (aW cr0_ inn0_ k10_) k20_ w a_) w_ (i + 1)).1 from ⟨(by omega), hbs9.1, hbs9.2⟩) (show aPr (aW cr0_ inn0_ k10_) 7 - (i + 1) < aPr (aW cr0_ inn0_ k10_) 7 - i from by omega) _ _ ls G (lv_sub hl [0, 3, 4, 5, 6, 7, 8, 9, 10, 11] rfl)
          · have c_59n : ¬ w_.toInt = (0 : Int) := fun q => c_59 ((fa_eq _ _).mpr q)
            refine lv_iload hx hb dX11_longest_74 (lv_at hl 0 rfl) ?_
            refine lv_iload hx hb dX11_longest_76 (lv_at hl 3 rfl) ?_
            refine lv_icmp_ge (tgt := 95) hx hb dX11_longest_78 (by decide) (fun c_71 => ?_) (fun c_71 => ?_)
            · have c_71n : b7.toInt ≤ ((rStp (aW cr0_ inn0_ k10_) k20_ i a_) : Int) := by have q := (fa_le _ _).mp c_71; rw [nI_toInt (n := rStp (aW cr0_ inn0_ k10_) k20_ i a_) (by omega)] at q; exact q
              refine lv_iconst (v := 0) hx hb dX11_longest_95 (by decide) ?_
              refine lv_istore (lv' := [(11, .int 0), (10, .int (nI (rStp (aW cr0_ inn0_ k10_) k20_ i a_))), (9, .int (nI i)), (8, .int b8), (7, .int b7), (6, .ref wa), (5, .ref l0), (0, .ref xo), (1, .int i1), (2, .int a_), (3, .int w_), (4, .int q_)]) hx hb dX11_longest_96 hl (by decide) (zLvf_h rfl) (fun ls hl => ?_)
              refine lv_iload hx hb dX11_longest_98 (lv_at hl 0 rfl) ?_
              refine lv_if_eq (tgt := 127) hx hb dX11_longest_100 (by decide) (fun _ => ?_) (fun q => absurd (by decide) q)
              have hbs9 := (rBg_s (c := (fun w => decide (zBit inn0_ (rWh (aW cr0_ inn0_ k10_) k20_ w a_) = 1))) (g := (fun w => rStp (aW cr0_ inn0_ k10_) k20_ w a_)) (s := w_) (fun v => Nat.lt_of_le_of_lt rStp_le (by decide)) (by omega) hbb hbw).2 (fun q8 => by first | exact hni (of_decide_eq_true q8.1) | (have q7 := q8.2; omega))
              refine lv_iinc (v := nI (i + 1)) (lv' := [(9, .int (nI (i + 1))), (11, .int 0), (10, .int (nI (rStp (aW cr0_ inn0_ k10_) k20_ i a_))), (8, .int b8), (7, .int b7), (6, .ref wa), (5, .ref l0), (0, .ref xo), (1, .int i1), (2, .int a_), (3, .int w_), (4, .int q_)]) hx hb dX11_longest_127 hl (k := 2) rfl (z_inc i 1) (by decide) (zLvf_h rfl) (fun ls hl => ?_)
              refine lv_goto (tgt := 44) hx hb dX11_longest_130 (by decide) ?_
              have G := G.sub (bs' := [z1_, wwB, wt, [zO10 xo t im mk rd po co tr wa wb_ fi cd], [zO0 wa m2_15 wy2_16 l0 pc2_17 a1_29 a2_30 a3_31 a4_32 a5_33 a6_34, zAr T 0 a1_29 7 g1_18, zAr T 0 a2_30 7 g2_19, zAr T 0 a3_31 7 f3A, zAr T 0 a4_32 (zMk mdA n4A (zPl cr0_ inn0_ k10_)) g4_20, zAr T 0 a5_33 (zMk mdA n4A (zPl cr0_ inn0_ k10_)) g5_21, zAr T 0 a6_34 (zMk mdA n4A (zPl cr0_ inn0_ k10_)) g6_22], z0_]) [0, 1, 2, 3, 5, 4] rfl
              exact ih_44 (i + 1) b7 b8 (show (i + 1) ≤ aPr (aW cr0_ inn0_ k10_) 7 ∧ b7 = (rBg (fun w => decide (zBit inn0_ (rWh (aW cr0_ inn0_ k10_) k20_ w a_) = 1)) (fun w => rStp (aW cr0_ inn0_ k10_) k20_ w a_) w_ (i + 1)).2 ∧ b8 = (rBg (fun w => decide (zBit inn0_ (rWh (aW cr0_ inn0_ k10_) k20_ w a_) = 1)) (fun w => rStp (aW cr0_ inn0_ k10_) k20_ w a_) w_ (i + 1)).1 from ⟨(by omega), hbs9.1, hbs9.2⟩) (show aPr (aW cr0_ inn0_ k10_) 7 - (i + 1) < aPr (aW cr0_ inn0_ k10_) 7 - i from by omega) _ _ ls G (lv_sub hl [0, 3, 4, 5, 6, 7, 8, 9, 10, 11] rfl)
            · have c_71n : ¬ b7.toInt ≤ ((rStp (aW cr0_ inn0_ k10_) k20_ i a_) : Int) := fun q => c_71 ((fa_le _ _).mpr (by rw [nI_toInt (n := rStp (aW cr0_ inn0_ k10_) k20_ i a_) (by omega)]; exact q))
              refine lv_goto (tgt := 91) hx hb dX11_longest_81 (by decide) ?_
              refine lv_iconst (v := 1) hx hb dX11_longest_91 (by decide) ?_
              refine lv_goto (tgt := 96) hx hb dX11_longest_92 (by decide) ?_
              refine lv_istore (lv' := [(11, .int 1), (10, .int (nI (rStp (aW cr0_ inn0_ k10_) k20_ i a_))), (9, .int (nI i)), (8, .int b8), (7, .int b7), (6, .ref wa), (5, .ref l0), (0, .ref xo), (1, .int i1), (2, .int a_), (3, .int w_), (4, .int q_)]) hx hb dX11_longest_96 hl (by decide) (zLvf_h rfl) (fun ls hl => ?_)
              refine lv_iload hx hb dX11_longest_98 (lv_at hl 0 rfl) ?_
              refine lv_if_eq (tgt := 127) hx hb dX11_longest_100 (by decide) (fun q => absurd q (by decide)) (fun _ => ?_)
              refine lv_aload hx hb dX11_longest_103 (lv_at hl 6 rfl) ?_
              refine lv_aload hx hb dX11_longest_105 (lv_at hl 5 rfl) ?_
              refine lv_iload hx hb dX11_longest_107 (lv_at hl 2 rfl) ?_
              refine lv_iload_n hx hb dX11_longest_109 rfl (lv_at hl 9 rfl) ?_
              refine z_Vi (bc := [[zO0 wa m2_15 wy2_16 l0 pc2_17 a1_29 a2_30 a3_31 a4_32 a5_33 a6_34, zAr T 0 a1_29 7 g1_18, zAr T 0 a2_30 7 g2_19, zAr T 0 a3_31 7 f3A, zAr T 0 a4_32 (zMk mdA n4A (zPl cr0_ inn0_ k10_)) g4_20, zAr T 0 a5_33 (zMk mdA n4A (zPl cr0_ inn0_ k10_)) g5_21, zAr T 0 a6_34 (zMk mdA n4A (zPl cr0_ inn0_ k10_)) g6_22]]) (br := [z1_, wwB, wt, [zO10 xo t im mk rd po co tr wa wb_ fi cd], z0_]) (As := [.int (nI i), .int a_]) (rest := [.ref l0]) C G (c_where l T wa l0 m2_15 wy2_16 pc2_17 g1_18 g2_19 f3A g4_20 g5_21 g6_22 (zMk mdA n4A (zPl cr0_ inn0_ k10_)) ([zO0 wa m2_15 wy2_16 l0 pc2_17 a1_29 a2_30 a3_31 a4_32 a5_33 a6_34, zAr T 0 a1_29 7 g1_18, zAr T 0 a2_30 7 g2_19, zAr T 0 a3_31 7 f3A, zAr T 0 a4_32 (zMk mdA n4A (zPl cr0_ inn0_ k10_)) g4_20, zAr T 0 a5_33 (zMk mdA n4A (zPl cr0_ inn0_ k10_)) g5_21, zAr T 0 a6_34 (zMk mdA n4A (zPl cr0_ inn0_ k10_)) g6_22]) (nI i) a_ hw_44 (by first | with_reducible assumption | with_reducible rfl | omega | assumption | rfl)) (kV_RX11_260 C.2.2.2.2 (Nat.le_of_ble_eq_true rfl) (Nat.le_of_ble_eq_true rfl)) [5] [5] rfl rfl (ci := 0) (qc := (RX0, TX0, 10)) rfl rfl (List.mem_flatten.mpr ⟨_, List.mem_of_getElem? (i := 0) rfl, (bWays_mem hw_44).choose_spec⟩) rfl rfl hl.1 dX11_longest_110 (Nat.le_of_ble_eq_true rfl) (by show _ + 0 ≤ 6 * (zNA (i1.toInt = 0 ∧ 0 < (fk 0).toInt ∧ 0 ≤ a_.toInt ∧ a_.toInt < cr0_.toInt ∧ a_.toInt < 7) mdA n4A (zPl cr0_ inn0_ k10_) - n4A) + 6 * (zNA (i1.toInt = 1 ∧ 1 < (fk 0).toInt ∧ 0 ≤ a_.toInt ∧ a_.toInt < cr1_.toInt ∧ a_.toInt < 7) mdB n4B (zPl cr1_ inn1_ k11_) - n4B); omega) (fun r_73 b1 H locs hw G => ?_)
              refine zAn2 hw ?_
              intro hbs9 h_72
              clear hw
              subst hbs9
              have G : zS T A s.heap s [z1_, wwB, wt, [zO10 xo t im mk rd po co tr wa wb_ fi cd], z0_, [zO0 wa m2_15 wy2_16 l0 pc2_17 a1_29 a2_30 a3_31 a4_32 a5_33 a6_34, zAr T 0 a1_29 7 g1_18, zAr T 0 a2_30 7 g2_19, zAr T 0 a3_31 7 f3A, zAr T 0 a4_32 (zMk mdA n4A (zPl cr0_ inn0_ k10_)) g4_20, zAr T 0 a5_33 (zMk mdA n4A (zPl cr0_ inn0_ k10_)) g5_21, zAr T 0 a6_34 (zMk mdA n4A (zPl cr0_ inn0_ k10_)) g6_22]] _ _ := G
              subst h_72
              refine lv_topi (fun y_74 ey_74 => ?_)
              obtain rfl : y_74 = (rWh (aW cr0_ inn0_ k10_) k20_ i a_) := ey_74.trans (hE9.1)
              refine z_Vi (bc := [z0_]) (br := [z1_, wwB, wt, [zO10 xo t im mk rd po co tr wa wb_ fi cd], [zO0 wa m2_15 wy2_16 l0 pc2_17 a1_29 a2_30 a3_31 a4_32 a5_33 a6_34, zAr T 0 a1_29 7 g1_18, zAr T 0 a2_30 7 g2_19, zAr T 0 a3_31 7 f3A, zAr T 0 a4_32 (zMk mdA n4A (zPl cr0_ inn0_ k10_)) g4_20, zAr T 0 a5_33 (zMk mdA n4A (zPl cr0_ inn0_ k10_)) g5_21, zAr T 0 a6_34 (zMk mdA n4A (zPl cr0_ inn0_ k10_)) g6_22]]) (As := [.int (rWh (aW cr0_ inn0_ k10_) k20_ i a_)]) (rest := []) C G (c_isInn l T l0 cr0_ inn0_ k10_ k20_ k30_ k40_ z0_ (rWh (aW cr0_ inn0_ k10_) k20_ i a_) hz0_) (kV_RX11_174 C.2.2.2.2 (Nat.le_of_ble_eq_true rfl) (Nat.le_of_ble_eq_true rfl)) [4] [4] rfl rfl (ci := 4) (qc := (RX4, TX4, 6)) rfl rfl (List.mem_flatten.mpr ⟨_, List.mem_of_getElem? (i := 0) rfl, (bLand_mem hz0_).choose_spec⟩) rfl rfl hl.1 dX11_longest_113 (Nat.le_of_ble_eq_true rfl) (by show _ + 0 ≤ 6 * (zNA (i1.toInt = 0 ∧ 0 < (fk 0).toInt ∧ 0 ≤ a_.toInt ∧ a_.toInt < cr0_.toInt ∧ a_.toInt < 7) mdA n4A (zPl cr0_ inn0_ k10_) - n4A) + 6 * (zNA (i1.toInt = 1 ∧ 1 < (fk 0).toInt ∧ 0 ≤ a_.toInt ∧ a_.toInt < cr1_.toInt ∧ a_.toInt < 7) mdB n4B (zPl cr1_ inn1_ k11_) - n4B); omega) (fun r_76 b1 H locs hw G => ?_)
              refine zAn2 hw ?_
              intro hbs9 hc_75
              clear hw
              subst hbs9
              have G : zS T A s.heap s [z1_, wwB, wt, [zO10 xo t im mk rd po co tr wa wb_ fi cd], [zO0 wa m2_15 wy2_16 l0 pc2_17 a1_29 a2_30 a3_31 a4_32 a5_33 a6_34, zAr T 0 a1_29 7 g1_18, zAr T 0 a2_30 7 g2_19, zAr T 0 a3_31 7 f3A, zAr T 0 a4_32 (zMk mdA n4A (zPl cr0_ inn0_ k10_)) g4_20, zAr T 0 a5_33 (zMk mdA n4A (zPl cr0_ inn0_ k10_)) g5_21, zAr T 0 a6_34 (zMk mdA n4A (zPl cr0_ inn0_ k10_)) g6_22], z0_] _ _ := G
              rcases hc_75 with ⟨rfl, h_77, h_78, h_79, h_80⟩ | ⟨rfl, h_81⟩
              · have h_77 : 0 ≤ (rWh (aW cr0_ inn0_ k10_) k20_ i a_).toInt := h_77
                have h_78 : (rWh (aW cr0_ inn0_ k10_) k20_ i a_).toInt < cr0_.toInt := h_78
                have h_79 : (rWh (aW cr0_ inn0_ k10_) k20_ i a_).toInt < 7 := h_79
                have h_80 : ¬ zBit inn0_ (rWh (aW cr0_ inn0_ k10_) k20_ i a_) = 0 := h_80
                have hyi := zBit_p h_80
                refine lv_if_eq (tgt := 127) hx hb dX11_longest_116 (by decide) (fun q => absurd q (by decide)) (fun _ => ?_)
                refine lv_iload hx hb dX11_longest_119 (lv_at hl 1 rfl) ?_
                refine lv_istore (lv' := [(7, .int (nI (rStp (aW cr0_ inn0_ k10_) k20_ i a_))), (11, .int 1), (10, .int (nI (rStp (aW cr0_ inn0_ k10_) k20_ i a_))), (9, .int (nI i)), (8, .int b8), (6, .ref wa), (5, .ref l0), (0, .ref xo), (1, .int i1), (2, .int a_), (3, .int w_), (4, .int q_)]) hx hb dX11_longest_121 hl (by decide) (zLvf_h rfl) (fun ls hl => ?_)
                refine lv_iload hx hb dX11_longest_123 (lv_at hl 3 rfl) ?_
                refine lv_istore (lv' := [(8, .int (nI i)), (7, .int (nI (rStp (aW cr0_ inn0_ k10_) k20_ i a_))), (11, .int 1), (10, .int (nI (rStp (aW cr0_ inn0_ k10_) k20_ i a_))), (9, .int (nI i)), (6, .ref wa), (5, .ref l0), (0, .ref xo), (1, .int i1), (2, .int a_), (3, .int w_), (4, .int q_)]) hx hb dX11_longest_125 hl (by decide) (zLvf_h rfl) (fun ls hl => ?_)
                have hbs9 := (rBg_s (c := (fun w => decide (zBit inn0_ (rWh (aW cr0_ inn0_ k10_) k20_ w a_) = 1))) (g := (fun w => rStp (aW cr0_ inn0_ k10_) k20_ w a_)) (s := w_) (fun v => Nat.lt_of_le_of_lt rStp_le (by decide)) (by omega) hbb hbw).1 (decide_eq_true hyi) (by omega)
                refine lv_iinc (v := nI (i + 1)) (lv' := [(9, .int (nI (i + 1))), (8, .int (nI i)), (7, .int (nI (rStp (aW cr0_ inn0_ k10_) k20_ i a_))), (11, .int 1), (10, .int (nI (rStp (aW cr0_ inn0_ k10_) k20_ i a_))), (6, .ref wa), (5, .ref l0), (0, .ref xo), (1, .int i1), (2, .int a_), (3, .int w_), (4, .int q_)]) hx hb dX11_longest_127 hl (k := 4) rfl (z_inc i 1) (by decide) (zLvf_h rfl) (fun ls hl => ?_)
                refine lv_goto (tgt := 44) hx hb dX11_longest_130 (by decide) ?_
                exact ih_44 (i + 1) (nI (rStp (aW cr0_ inn0_ k10_) k20_ i a_)) (nI i) (show (i + 1) ≤ aPr (aW cr0_ inn0_ k10_) 7 ∧ (nI (rStp (aW cr0_ inn0_ k10_) k20_ i a_)) = (rBg (fun w => decide (zBit inn0_ (rWh (aW cr0_ inn0_ k10_) k20_ w a_) = 1)) (fun w => rStp (aW cr0_ inn0_ k10_) k20_ w a_) w_ (i + 1)).2 ∧ (nI i) = (rBg (fun w => decide (zBit inn0_ (rWh (aW cr0_ inn0_ k10_) k20_ w a_) = 1)) (fun w => rStp (aW cr0_ inn0_ k10_) k20_ w a_) w_ (i + 1)).1 from ⟨(by omega), hbs9.1, hbs9.2⟩) (show aPr (aW cr0_ inn0_ k10_) 7 - (i + 1) < aPr (aW cr0_ inn0_ k10_) 7 - i from by omega) _ _ ls G (lv_sub hl [0, 1, 2, 5, 6, 7, 8, 9, 10, 11] rfl)
              · have h_81 : ((rWh (aW cr0_ inn0_ k10_) k20_ i a_).toInt < 0 ∨ cr0_.toInt ≤ (rWh (aW cr0_ inn0_ k10_) k20_ i a_).toInt ∨ 7 ≤ (rWh (aW cr0_ inn0_ k10_) k20_ i a_).toInt ∨ zBit inn0_ (rWh (aW cr0_ inn0_ k10_) k20_ i a_) = 0) := h_81
                have hni : ¬ zBit inn0_ (rWh (aW cr0_ inn0_ k10_) k20_ i a_) = 1 := by rcases h_81 with e9 | e9 | e9 | e9 <;> first | (exfalso; omega) | exact fun q9 => zBit_o q9 e9
                refine lv_if_eq (tgt := 127) hx hb dX11_longest_116 (by decide) (fun _ => ?_) (fun q => absurd (by decide) q)
                have hbs9 := (rBg_s (c := (fun w => decide (zBit inn0_ (rWh (aW cr0_ inn0_ k10_) k20_ w a_) = 1))) (g := (fun w => rStp (aW cr0_ inn0_ k10_) k20_ w a_)) (s := w_) (fun v => Nat.lt_of_le_of_lt rStp_le (by decide)) (by omega) hbb hbw).2 (fun q8 => by first | exact hni (of_decide_eq_true q8.1) | (have q7 := q8.2; omega))
                refine lv_iinc (v := nI (i + 1)) (lv' := [(9, .int (nI (i + 1))), (11, .int 1), (10, .int (nI (rStp (aW cr0_ inn0_ k10_) k20_ i a_))), (8, .int b8), (7, .int b7), (6, .ref wa), (5, .ref l0), (0, .ref xo), (1, .int i1), (2, .int a_), (3, .int w_), (4, .int q_)]) hx hb dX11_longest_127 hl (k := 2) rfl (z_inc i 1) (by decide) (zLvf_h rfl) (fun ls hl => ?_)
                refine lv_goto (tgt := 44) hx hb dX11_longest_130 (by decide) ?_
                exact ih_44 (i + 1) b7 b8 (show (i + 1) ≤ aPr (aW cr0_ inn0_ k10_) 7 ∧ b7 = (rBg (fun w => decide (zBit inn0_ (rWh (aW cr0_ inn0_ k10_) k20_ w a_) = 1)) (fun w => rStp (aW cr0_ inn0_ k10_) k20_ w a_) w_ (i + 1)).2 ∧ b8 = (rBg (fun w => decide (zBit inn0_ (rWh (aW cr0_ inn0_ k10_) k20_ w a_) = 1)) (fun w => rStp (aW cr0_ inn0_ k10_) k20_ w a_) w_ (i + 1)).1 from ⟨(by omega), hbs9.1, hbs9.2⟩) (show aPr (aW cr0_ inn0_ k10_) 7 - (i + 1) < aPr (aW cr0_ inn0_ k10_) 7 - i from by omega) _ _ ls G (lv_sub hl [0, 3, 4, 5, 6, 7, 8, 9, 10, 11] rfl)
    · have h_13 : (a_.toInt < 0 ∨ cr0_.toInt ≤ a_.toInt ∨ 7 ≤ a_.toInt) := h_13
      refine lv_if_ne (tgt := 26) hx hb dX11_longest_21 (by decide) (fun q => absurd (by decide) q) (fun _ => ?_)
      refine lv_iconst (v := (-1)) hx hb dX11_longest_24 (by decide) ?_
      have G := G.sub (bs' := [[zO10 xo t im mk rd po co tr wa wb_ fi cd], wt, z0_, z1_, wwA, wwB]) [0, 4, 5, 1, 2, 3] rfl
      exact z_back hQz_ (z_iret C hr hlocks G (Nat.le_of_ble_eq_true rfl) (by omega) dX11_longest_25 ⟨laA, mdA, wyA, pc_A, f1A, f2A, f3A, f4A, f5A, f6A, n4A, wwA, laB, mdB, wyB, pc_B, f1B, f2B, f3B, f4B, f5B, f6B, n4B, wwB, rfl, hwwA, hmdA, hwmA, (by first | exact hNAo.symm | exact (zNA_n (by first | omega | grind)).symm), hpwA, (fun q => q), hTbA, hwwB, hmdB, hwmB, (by first | exact hNAo.symm | exact (zNA_n (by first | omega | grind)).symm), hpwB, (fun q => q), hTbB, (Or.inr (Or.inl ⟨by first | with_reducible assumption | assumption, by first | with_reducible assumption | assumption, (by have q9 := hI0_.1; unfold kLong; rw [if_neg (by omega)])⟩))⟩)
  · have h_6 : i1.toInt = 1 := h_6
    have h_7 : 1 < (fk 0).toInt := h_7
    refine lv_astore (lv' := [(5, .ref l1), (0, .ref xo), (1, .int i1), (2, .int a_), (3, .int w_), (4, .int q_)]) hx hb dX11_longest_8 hl (by decide) (zLvf_h rfl) (fun ls hl => ?_)
    refine lv_aload hx hb dX11_longest_10 (lv_at hl 0 rfl) ?_
    refine lv_ifnull hx hb dX11_longest_12 ?_
    refine lv_aload hx hb dX11_longest_15 (lv_at hl 0 rfl) ?_
    refine lv_iload_n hx hb dX11_longest_17 rfl (lv_at hl 3 rfl) ?_
    refine z_Vi (bc := [z1_]) (br := [[zO10 xo t im mk rd po co tr wa wb_ fi cd], z0_, wwA, wwB, wt]) (As := [.int a_]) (rest := []) C G (c_has l T l1 cr1_ inn1_ k11_ k21_ k31_ k41_ z1_ a_ hz1_) (kV_RX11_160 C.2.2.2.2 (Nat.le_of_ble_eq_true rfl) (Nat.le_of_ble_eq_true rfl)) [2] [2] rfl rfl (ci := 4) (qc := (RX4, TX4, 6)) rfl rfl (List.mem_flatten.mpr ⟨_, List.mem_of_getElem? (i := 0) rfl, (bLand_mem hz1_).choose_spec⟩) rfl rfl hl.1 dX11_longest_18 (Nat.le_of_ble_eq_true rfl) (by show _ + 0 ≤ 6 * (zNA (i1.toInt = 0 ∧ 0 < (fk 0).toInt ∧ 0 ≤ a_.toInt ∧ a_.toInt < cr0_.toInt ∧ a_.toInt < 7) mdA n4A (zPl cr0_ inn0_ k10_) - n4A) + 6 * (zNA (i1.toInt = 1 ∧ 1 < (fk 0).toInt ∧ 0 ≤ a_.toInt ∧ a_.toInt < cr1_.toInt ∧ a_.toInt < 7) mdB n4B (zPl cr1_ inn1_ k11_) - n4B); omega) (fun r_83 b1 H locs hw G => ?_)
    refine zAn2 hw ?_
    intro hbs9 hc_82
    clear hw
    subst hbs9
    have G : zS T A s.heap s [[zO10 xo t im mk rd po co tr wa wb_ fi cd], z0_, wwA, wwB, wt, z1_] _ _ := G
    rcases hc_82 with ⟨rfl, h_84, h_85, h_86⟩ | ⟨rfl, h_87⟩
    · have h_84 : 0 ≤ a_.toInt := h_84
      have h_85 : a_.toInt < cr1_.toInt := h_85
      have h_86 : a_.toInt < 7 := h_86
      refine lv_if_ne (tgt := 26) hx hb dX11_longest_21 (by decide) (fun _ => ?_) (fun q => absurd q (by decide))
      refine lv_aload_n hx hb dX11_longest_26 rfl (lv_at hl 1 rfl) ?_
      refine lv_iload_n hx hb dX11_longest_27 rfl (lv_at hl 2 rfl) ?_
      refine lv_aload hx hb dX11_longest_28 (lv_at hl 0 rfl) ?_
      have hNAm : zNA (i1.toInt = 1 ∧ 1 < (fk 0).toInt ∧ 0 ≤ a_.toInt ∧ a_.toInt < cr1_.toInt ∧ a_.toInt < 7) mdB n4B (zPl cr1_ inn1_ k11_) = zMk mdB n4B (zPl cr1_ inn1_ k11_) := zNA_y (by first | omega | (repeat' (first | omega | assumption | constructor)))
      have hNAo : zNA (i1.toInt = 0 ∧ 0 < (fk 0).toInt ∧ 0 ≤ a_.toInt ∧ a_.toInt < cr0_.toInt ∧ a_.toInt < 7) mdA n4A (zPl cr0_ inn0_ k10_) = n4A := zNA_n (by omega)
      have hn9 : zMk mdB n4B (zPl cr1_ inn1_ k11_) ≤ 131072 := zPw_le (zMk_pw hpwB)
      refine z_Vq (bc := [[zO10 xo t im mk rd po co tr wa wb_ fi cd], wwB, z1_]) (br := [z0_, wwA, wt]) (As := [.int i1, .ref l1]) (rest := []) C G (c_f_waysInB l T xo t im mk rd po co tr wa wb_ fi cd i1 laB mdB wyB pc_B f1B f2B f3B f4B f5B f6B n4B wwB l1 cr1_ inn1_ k11_ k21_ k31_ k41_ z1_ hwwB hz1_ hI1_ hpwB hmdB (kaOk hI1_ hLq1).1 hTbB (by omega)) (kV_RX11_235 C.2.2.2.2 (Nat.le_of_ble_eq_true rfl) (Nat.le_of_ble_eq_true rfl)) [0, 3, 5] [0, 2, 1] rfl rfl (ci := 10) (qc := (RX11, TX11, 11)) rfl rfl (List.mem_flatten.mpr ⟨_, List.mem_of_getElem? (i := 0) rfl, List.mem_cons_self⟩) rfl rfl hl.1 dX11_longest_30 (Nat.le_of_ble_eq_true rfl) (by show _ + (6 * (zMk mdB n4B (zPl cr1_ inn1_ k11_) - n4B)) ≤ 6 * (zNA (i1.toInt = 0 ∧ 0 < (fk 0).toInt ∧ 0 ≤ a_.toInt ∧ a_.toInt < cr0_.toInt ∧ a_.toInt < 7) mdA n4A (zPl cr0_ inn0_ k10_) - n4A) + 6 * (zNA (i1.toInt = 1 ∧ 1 < (fk 0).toInt ∧ 0 ≤ a_.toInt ∧ a_.toInt < cr1_.toInt ∧ a_.toInt < 7) mdB n4B (zPl cr1_ inn1_ k11_) - n4B); omega) (fun r_102 b1 H locs hw G => ?_)
      refine zEx9 hw ?_
      intro w2_88 m2_89 wy2_90 pc2_91 g1_92 g2_93 g4_94 g5_95 g6_96
      refine zCu6 ?_
      intro hbs9 h_97 h_98 h_99 h_100 h_101
      clear hw
      subst hbs9
      have G : zS T A s.heap s [z0_, wwA, wt, [zO10 xo t im mk rd po co tr wa wb_ fi cd], w2_88, z1_] _ _ := G
      subst h_97
      have hwy9 : 0 ≤ wy2_90.toInt ∧ wy2_90.toInt ≤ 16384 := by have q9 := zWy_in (inn := inn1_) hI1_; rw [h_99]; exact ⟨by omega, q9.2⟩
      have hp79 : aPr (aW cr1_ inn1_ k11_) 7 ≤ 16384 := aPr_7 hI1_
      have hwN9 : wy2_90 = nI (aPr (aW cr1_ inn1_ k11_) 7) := h_99.trans (zWy_z hI1_)
      have hwT9 : wy2_90.toInt = ((aPr (aW cr1_ inn1_ k11_) 7 : Nat) : Int) := by rw [hwN9, nI_toInt (by omega)]
      have hOk9 := (kaOk (inn := inn1_) hI1_ hLq1).1
      have hc79 := hI1_.1
      refine lv_astore (lv' := [(6, .ref wb_), (5, .ref l1), (0, .ref xo), (1, .int i1), (2, .int a_), (3, .int w_), (4, .int q_)]) hx hb dX11_longest_33 hl (by decide) (zLvf_h rfl) (fun ls hl => ?_)
      refine lv_iconst (v := (-1)) hx hb dX11_longest_35 (by decide) ?_
      refine lv_istore (lv' := [(7, .int (-1)), (6, .ref wb_), (5, .ref l1), (0, .ref xo), (1, .int i1), (2, .int a_), (3, .int w_), (4, .int q_)]) hx hb dX11_longest_36 hl (by decide) (zLvf_h rfl) (fun ls hl => ?_)
      refine lv_iconst (v := (-1)) hx hb dX11_longest_38 (by decide) ?_
      refine lv_istore (lv' := [(8, .int (-1)), (7, .int (-1)), (6, .ref wb_), (5, .ref l1), (0, .ref xo), (1, .int i1), (2, .int a_), (3, .int w_), (4, .int q_)]) hx hb dX11_longest_39 hl (by decide) (zLvf_h rfl) (fun ls hl => ?_)
      refine lv_iconst (v := 0) hx hb dX11_longest_41 (by decide) ?_
      refine lv_istore (lv' := [(9, .int 0), (8, .int (-1)), (7, .int (-1)), (6, .ref wb_), (5, .ref l1), (0, .ref xo), (1, .int i1), (2, .int a_), (3, .int w_), (4, .int q_)]) hx hb dX11_longest_42 hl (by decide) (zLvf_h rfl) (fun ls hl => ?_)
      refine zEx6 h_98 ?_
      intro a1_103 a2_104 a3_105 a4_106 a5_107 a6_108 hbs9
      clear h_98
      subst hbs9
      have G : zS T A s.heap s [z0_, wwA, wt, [zO10 xo t im mk rd po co tr wa wb_ fi cd], [zO0 wb_ m2_89 wy2_90 l1 pc2_91 a1_103 a2_104 a3_105 a4_106 a5_107 a6_108], [zAr T 0 a1_103 7 g1_92], [zAr T 0 a2_104 7 g2_93], [zAr T 0 a3_105 7 f3B], [zAr T 0 a4_106 (zMk mdB n4B (zPl cr1_ inn1_ k11_)) g4_94], [zAr T 0 a5_107 (zMk mdB n4B (zPl cr1_ inn1_ k11_)) g5_95], [zAr T 0 a6_108 (zMk mdB n4B (zPl cr1_ inn1_ k11_)) g6_96], z1_] _ _ := G.re rfl
      have hw_109 : bWays T wb_ l1 m2_89 wy2_90 pc2_91 g1_92 g2_93 f3B g4_94 g5_95 g6_96 (zMk mdB n4B (zPl cr1_ inn1_ k11_)) [zO0 wb_ m2_89 wy2_90 l1 pc2_91 a1_103 a2_104 a3_105 a4_106 a5_107 a6_108, zAr T 0 a1_103 7 g1_92, zAr T 0 a2_104 7 g2_93, zAr T 0 a3_105 7 f3B, zAr T 0 a4_106 (zMk mdB n4B (zPl cr1_ inn1_ k11_)) g4_94, zAr T 0 a5_107 (zMk mdB n4B (zPl cr1_ inn1_ k11_)) g5_95, zAr T 0 a6_108 (zMk mdB n4B (zPl cr1_ inn1_ k11_)) g6_96] := ⟨a1_103, a2_104, a3_105, a4_106, a5_107, a6_108, rfl⟩
      have G : zS T A s.heap s [z0_, wwA, wt, [zO10 xo t im mk rd po co tr wa wb_ fi cd], [zO0 wb_ m2_89 wy2_90 l1 pc2_91 a1_103 a2_104 a3_105 a4_106 a5_107 a6_108, zAr T 0 a1_103 7 g1_92, zAr T 0 a2_104 7 g2_93, zAr T 0 a3_105 7 f3B, zAr T 0 a4_106 (zMk mdB n4B (zPl cr1_ inn1_ k11_)) g4_94, zAr T 0 a5_107 (zMk mdB n4B (zPl cr1_ inn1_ k11_)) g5_95, zAr T 0 a6_108 (zMk mdB n4B (zPl cr1_ inn1_ k11_)) g6_96], z1_] _ _ := G.re rfl
      refine z_lp3 (T := T) 44 (fun (i : Nat) (b7 : Int32) (b8 : Int32) => [z0_, wwA, wt, [zO10 xo t im mk rd po co tr wa wb_ fi cd], [zO0 wb_ m2_89 wy2_90 l1 pc2_91 a1_103 a2_104 a3_105 a4_106 a5_107 a6_108, zAr T 0 a1_103 7 g1_92, zAr T 0 a2_104 7 g2_93, zAr T 0 a3_105 7 f3B, zAr T 0 a4_106 (zMk mdB n4B (zPl cr1_ inn1_ k11_)) g4_94, zAr T 0 a5_107 (zMk mdB n4B (zPl cr1_ inn1_ k11_)) g5_95, zAr T 0 a6_108 (zMk mdB n4B (zPl cr1_ inn1_ k11_)) g6_96], z1_]) (fun (i : Nat) (b7 : Int32) (b8 : Int32) => [(9, .int (nI i)), (8, .int b8), (7, .int b7), (6, .ref wb_), (5, .ref l1), (0, .ref xo), (1, .int i1), (2, .int a_), (3, .int w_), (4, .int q_)]) (fun (i : Nat) (b7 : Int32) (b8 : Int32) => i ≤ aPr (aW cr1_ inn1_ k11_) 7 ∧ b7 = (rBg (fun w => decide (zBit inn1_ (rWh (aW cr1_ inn1_ k11_) k21_ w a_) = 1)) (fun w => rStp (aW cr1_ inn1_ k11_) k21_ w a_) w_ i).2 ∧ b8 = (rBg (fun w => decide (zBit inn1_ (rWh (aW cr1_ inn1_ k11_) k21_ w a_) = 1)) (fun w => rStp (aW cr1_ inn1_ k11_) k21_ w a_) w_ i).1) (fun (i : Nat) (b7 : Int32) (b8 : Int32) => aPr (aW cr1_ inn1_ k11_) 7 - i) ?_ 0 (-1) (-1) (show 0 ≤ aPr (aW cr1_ inn1_ k11_) 7 ∧ (-1) = (rBg (fun w => decide (zBit inn1_ (rWh (aW cr1_ inn1_ k11_) k21_ w a_) = 1)) (fun w => rStp (aW cr1_ inn1_ k11_) k21_ w a_) w_ 0).2 ∧ (-1) = (rBg (fun w => decide (zBit inn1_ (rWh (aW cr1_ inn1_ k11_) k21_ w a_) = 1)) (fun w => rStp (aW cr1_ inn1_ k11_) k21_ w a_) w_ 0).1 from ⟨(Nat.zero_le _), rfl, rfl⟩) G (lv_sub hl [0, 1, 2, 3, 4, 5, 6, 7, 8, 9] rfl)
      intro i b7 b8 hI9 ih_44 H locs ls G hl
      replace hI9 : i ≤ aPr (aW cr1_ inn1_ k11_) 7 ∧ b7 = (rBg (fun w => decide (zBit inn1_ (rWh (aW cr1_ inn1_ k11_) k21_ w a_) = 1)) (fun w => rStp (aW cr1_ inn1_ k11_) k21_ w a_) w_ i).2 ∧ b8 = (rBg (fun w => decide (zBit inn1_ (rWh (aW cr1_ inn1_ k11_) k21_ w a_) = 1)) (fun w => rStp (aW cr1_ inn1_ k11_) k21_ w a_) w_ i).1 := hI9
      refine zAn3 hI9 ?_
      intro hi hbb hbw
      clear hI9
      replace G : zS T A s.heap s [z0_, wwA, wt, [zO10 xo t im mk rd po co tr wa wb_ fi cd], [zO0 wb_ m2_89 wy2_90 l1 pc2_91 a1_103 a2_104 a3_105 a4_106 a5_107 a6_108, zAr T 0 a1_103 7 g1_92, zAr T 0 a2_104 7 g2_93, zAr T 0 a3_105 7 f3B, zAr T 0 a4_106 (zMk mdB n4B (zPl cr1_ inn1_ k11_)) g4_94, zAr T 0 a5_107 (zMk mdB n4B (zPl cr1_ inn1_ k11_)) g5_95, zAr T 0 a6_108 (zMk mdB n4B (zPl cr1_ inn1_ k11_)) g6_96], z1_] _ _ := G
      replace hl : lv_has ls 12 [(9, .int (nI i)), (8, .int b8), (7, .int b7), (6, .ref wb_), (5, .ref l1), (0, .ref xo), (1, .int i1), (2, .int a_), (3, .int w_), (4, .int q_)] := hl
      refine lv_iload hx hb dX11_longest_44 (lv_at hl 0 rfl) ?_
      refine lv_aload hx hb dX11_longest_46 (lv_at hl 3 rfl) ?_
      have G : zS T A s.heap s [z0_, wwA, wt, [zO10 xo t im mk rd po co tr wa wb_ fi cd], [zO0 wb_ m2_89 wy2_90 l1 pc2_91 a1_103 a2_104 a3_105 a4_106 a5_107 a6_108], [zAr T 0 a1_103 7 g1_92], [zAr T 0 a2_104 7 g2_93], [zAr T 0 a3_105 7 f3B], [zAr T 0 a4_106 (zMk mdB n4B (zPl cr1_ inn1_ k11_)) g4_94], [zAr T 0 a5_107 (zMk mdB n4B (zPl cr1_ inn1_ k11_)) g5_95], [zAr T 0 a6_108 (zMk mdB n4B (zPl cr1_ inn1_ k11_)) g6_96], z1_] _ _ := G.re rfl
      refine z_get C G clX0 4 rfl 1 (by decide) m_fl_RX11_257 rfl dX11_longest_48 ?_
      refine lv_icmp_ge (tgt := 133) hx hb dX11_longest_51 (by decide) (fun c_110 => ?_) (fun c_110 => ?_)
      · have c_110n : wy2_90.toInt ≤ (i : Int) := by have q := (fa_le _ _).mp c_110; rw [nI_toInt (n := i) (by omega)] at q; exact q
        have hbi9 := rBg_w (c := (fun w => decide (zBit inn1_ (rWh (aW cr1_ inn1_ k11_) k21_ w a_) = 1))) (g := (fun w => rStp (aW cr1_ inn1_ k11_) k21_ w a_)) (s := w_) (fun v => Nat.lt_of_le_of_lt rStp_le (by decide)) (by omega) hbb hbw
        refine lv_iload hx hb dX11_longest_133 (lv_at hl 9 rfl) ?_
        refine lv_if_eq (tgt := 154) hx hb dX11_longest_135 (by decide) (fun c_111 => ?_) (fun c_111 => ?_)
        · have c_111n : q_.toInt = (0 : Int) := (fa_eq _ _).mp c_111
          refine lv_iload hx hb dX11_longest_154 (lv_at hl 2 rfl) ?_
          have hw_112 : bWays T wb_ l1 m2_89 wy2_90 pc2_91 g1_92 g2_93 f3B g4_94 g5_95 g6_96 (zMk mdB n4B (zPl cr1_ inn1_ k11_)) [zO0 wb_ m2_89 wy2_90 l1 pc2_91 a1_103 a2_104 a3_105 a4_106 a5_107 a6_108, zAr T 0 a1_103 7 g1_92, zAr T 0 a2_104 7 g2_93, zAr T 0 a3_105 7 f3B, zAr T 0 a4_106 (zMk mdB n4B (zPl cr1_ inn1_ k11_)) g4_94, zAr T 0 a5_107 (zMk mdB n4B (zPl cr1_ inn1_ k11_)) g5_95, zAr T 0 a6_108 (zMk mdB n4B (zPl cr1_ inn1_ k11_)) g6_96] := ⟨a1_103, a2_104, a3_105, a4_106, a5_107, a6_108, rfl⟩
          have G : zS T A s.heap s [z0_, wwA, wt, [zO10 xo t im mk rd po co tr wa wb_ fi cd], [zO0 wb_ m2_89 wy2_90 l1 pc2_91 a1_103 a2_104 a3_105 a4_106 a5_107 a6_108, zAr T 0 a1_103 7 g1_92, zAr T 0 a2_104 7 g2_93, zAr T 0 a3_105 7 f3B, zAr T 0 a4_106 (zMk mdB n4B (zPl cr1_ inn1_ k11_)) g4_94, zAr T 0 a5_107 (zMk mdB n4B (zPl cr1_ inn1_ k11_)) g5_95, zAr T 0 a6_108 (zMk mdB n4B (zPl cr1_ inn1_ k11_)) g6_96], z1_] _ _ := G.re rfl
          have G := G.sub (bs' := [[zO10 xo t im mk rd po co tr wa wb_ fi cd], wt, z0_, z1_, wwA, [zO0 wb_ m2_89 wy2_90 l1 pc2_91 a1_103 a2_104 a3_105 a4_106 a5_107 a6_108, zAr T 0 a1_103 7 g1_92, zAr T 0 a2_104 7 g2_93, zAr T 0 a3_105 7 f3B, zAr T 0 a4_106 (zMk mdB n4B (zPl cr1_ inn1_ k11_)) g4_94, zAr T 0 a5_107 (zMk mdB n4B (zPl cr1_ inn1_ k11_)) g5_95, zAr T 0 a6_108 (zMk mdB n4B (zPl cr1_ inn1_ k11_)) g6_96]]) [3, 2, 0, 5, 1, 4] rfl
          exact z_back hQz_ (z_iret C hr hlocks G (Nat.le_of_ble_eq_true rfl) (by omega) dX11_longest_156 ⟨laA, mdA, wyA, pc_A, f1A, f2A, f3A, f4A, f5A, f6A, n4A, wwA, l1, m2_89, wy2_90, pc2_91, g1_92, g2_93, f3B, g4_94, g5_95, g6_96, (zMk mdB n4B (zPl cr1_ inn1_ k11_)), ([zO0 wb_ m2_89 wy2_90 l1 pc2_91 a1_103 a2_104 a3_105 a4_106 a5_107 a6_108, zAr T 0 a1_103 7 g1_92, zAr T 0 a2_104 7 g2_93, zAr T 0 a3_105 7 f3B, zAr T 0 a4_106 (zMk mdB n4B (zPl cr1_ inn1_ k11_)) g4_94, zAr T 0 a5_107 (zMk mdB n4B (zPl cr1_ inn1_ k11_)) g5_95, zAr T 0 a6_108 (zMk mdB n4B (zPl cr1_ inn1_ k11_)) g6_96]), rfl, hwwA, hmdA, hwmA, (by first | exact hNAo.symm | exact (zNA_n (by first | omega | grind)).symm), hpwA, (fun q => q), hTbA, hw_112, (Or.inr rfl), hwy9, hNAm.symm, (zMk_pw hpwB), (fun _ => h_100), (Or.inr h_101), (Or.inr (Or.inr ⟨by first | with_reducible assumption | assumption, by first | with_reducible assumption | assumption, (by unfold kLong; rw [if_pos ⟨by omega, by omega⟩]; exact rLong_e (W := (aW cr1_ inn1_ k11_)) (L := k21_) (b := b7) (w := b8) hp79 (by rw [hbb, show i = aPr (aW cr1_ inn1_ k11_) 7 by omega]) (by rw [hbw, show i = aPr (aW cr1_ inn1_ k11_) 7 by omega]) (Or.inl ⟨by first | exact Or.inl (by first | with_reducible assumption | assumption) | exact Or.inr (by first | with_reducible assumption | assumption), rfl⟩))⟩))⟩)
        · have c_111n : ¬ q_.toInt = (0 : Int) := fun q => c_111 ((fa_eq _ _).mpr q)
          refine lv_iload hx hb dX11_longest_138 (lv_at hl 1 rfl) ?_
          refine lv_iconst (v := (-1)) hx hb dX11_longest_140 (by decide) ?_
          refine lv_icmp_eq (tgt := 154) hx hb dX11_longest_141 (by decide) (fun c_113 => ?_) (fun c_113 => ?_)
          · have c_113n : b8.toInt = (-1 : Int) := (fa_eq _ _).mp c_113
            refine lv_iload hx hb dX11_longest_154 (lv_at hl 2 rfl) ?_
            have hw_114 : bWays T wb_ l1 m2_89 wy2_90 pc2_91 g1_92 g2_93 f3B g4_94 g5_95 g6_96 (zMk mdB n4B (zPl cr1_ inn1_ k11_)) [zO0 wb_ m2_89 wy2_90 l1 pc2_91 a1_103 a2_104 a3_105 a4_106 a5_107 a6_108, zAr T 0 a1_103 7 g1_92, zAr T 0 a2_104 7 g2_93, zAr T 0 a3_105 7 f3B, zAr T 0 a4_106 (zMk mdB n4B (zPl cr1_ inn1_ k11_)) g4_94, zAr T 0 a5_107 (zMk mdB n4B (zPl cr1_ inn1_ k11_)) g5_95, zAr T 0 a6_108 (zMk mdB n4B (zPl cr1_ inn1_ k11_)) g6_96] := ⟨a1_103, a2_104, a3_105, a4_106, a5_107, a6_108, rfl⟩
            have G : zS T A s.heap s [z0_, wwA, wt, [zO10 xo t im mk rd po co tr wa wb_ fi cd], [zO0 wb_ m2_89 wy2_90 l1 pc2_91 a1_103 a2_104 a3_105 a4_106 a5_107 a6_108, zAr T 0 a1_103 7 g1_92, zAr T 0 a2_104 7 g2_93, zAr T 0 a3_105 7 f3B, zAr T 0 a4_106 (zMk mdB n4B (zPl cr1_ inn1_ k11_)) g4_94, zAr T 0 a5_107 (zMk mdB n4B (zPl cr1_ inn1_ k11_)) g5_95, zAr T 0 a6_108 (zMk mdB n4B (zPl cr1_ inn1_ k11_)) g6_96], z1_] _ _ := G.re rfl
            have G := G.sub (bs' := [[zO10 xo t im mk rd po co tr wa wb_ fi cd], wt, z0_, z1_, wwA, [zO0 wb_ m2_89 wy2_90 l1 pc2_91 a1_103 a2_104 a3_105 a4_106 a5_107 a6_108, zAr T 0 a1_103 7 g1_92, zAr T 0 a2_104 7 g2_93, zAr T 0 a3_105 7 f3B, zAr T 0 a4_106 (zMk mdB n4B (zPl cr1_ inn1_ k11_)) g4_94, zAr T 0 a5_107 (zMk mdB n4B (zPl cr1_ inn1_ k11_)) g5_95, zAr T 0 a6_108 (zMk mdB n4B (zPl cr1_ inn1_ k11_)) g6_96]]) [3, 2, 0, 5, 1, 4] rfl
            exact z_back hQz_ (z_iret C hr hlocks G (Nat.le_of_ble_eq_true rfl) (by omega) dX11_longest_156 ⟨laA, mdA, wyA, pc_A, f1A, f2A, f3A, f4A, f5A, f6A, n4A, wwA, l1, m2_89, wy2_90, pc2_91, g1_92, g2_93, f3B, g4_94, g5_95, g6_96, (zMk mdB n4B (zPl cr1_ inn1_ k11_)), ([zO0 wb_ m2_89 wy2_90 l1 pc2_91 a1_103 a2_104 a3_105 a4_106 a5_107 a6_108, zAr T 0 a1_103 7 g1_92, zAr T 0 a2_104 7 g2_93, zAr T 0 a3_105 7 f3B, zAr T 0 a4_106 (zMk mdB n4B (zPl cr1_ inn1_ k11_)) g4_94, zAr T 0 a5_107 (zMk mdB n4B (zPl cr1_ inn1_ k11_)) g5_95, zAr T 0 a6_108 (zMk mdB n4B (zPl cr1_ inn1_ k11_)) g6_96]), rfl, hwwA, hmdA, hwmA, (by first | exact hNAo.symm | exact (zNA_n (by first | omega | grind)).symm), hpwA, (fun q => q), hTbA, hw_114, (Or.inr rfl), hwy9, hNAm.symm, (zMk_pw hpwB), (fun _ => h_100), (Or.inr h_101), (Or.inr (Or.inr ⟨by first | with_reducible assumption | assumption, by first | with_reducible assumption | assumption, (by unfold kLong; rw [if_pos ⟨by omega, by omega⟩]; exact rLong_e (W := (aW cr1_ inn1_ k11_)) (L := k21_) (b := b7) (w := b8) hp79 (by rw [hbb, show i = aPr (aW cr1_ inn1_ k11_) 7 by omega]) (by rw [hbw, show i = aPr (aW cr1_ inn1_ k11_) 7 by omega]) (Or.inl ⟨by first | exact Or.inl (by first | with_reducible assumption | assumption) | exact Or.inr (by first | with_reducible assumption | assumption), rfl⟩))⟩))⟩)
          · have c_113n : ¬ b8.toInt = (-1 : Int) := fun q => c_113 ((fa_eq _ _).mpr q)
            refine lv_aload hx hb dX11_longest_144 (lv_at hl 3 rfl) ?_
            refine lv_iload hx hb dX11_longest_146 (lv_at hl 1 rfl) ?_
            have hw_115 : bWays T wb_ l1 m2_89 wy2_90 pc2_91 g1_92 g2_93 f3B g4_94 g5_95 g6_96 (zMk mdB n4B (zPl cr1_ inn1_ k11_)) [zO0 wb_ m2_89 wy2_90 l1 pc2_91 a1_103 a2_104 a3_105 a4_106 a5_107 a6_108, zAr T 0 a1_103 7 g1_92, zAr T 0 a2_104 7 g2_93, zAr T 0 a3_105 7 f3B, zAr T 0 a4_106 (zMk mdB n4B (zPl cr1_ inn1_ k11_)) g4_94, zAr T 0 a5_107 (zMk mdB n4B (zPl cr1_ inn1_ k11_)) g5_95, zAr T 0 a6_108 (zMk mdB n4B (zPl cr1_ inn1_ k11_)) g6_96] := ⟨a1_103, a2_104, a3_105, a4_106, a5_107, a6_108, rfl⟩
            have G : zS T A s.heap s [z0_, wwA, wt, [zO10 xo t im mk rd po co tr wa wb_ fi cd], [zO0 wb_ m2_89 wy2_90 l1 pc2_91 a1_103 a2_104 a3_105 a4_106 a5_107 a6_108, zAr T 0 a1_103 7 g1_92, zAr T 0 a2_104 7 g2_93, zAr T 0 a3_105 7 f3B, zAr T 0 a4_106 (zMk mdB n4B (zPl cr1_ inn1_ k11_)) g4_94, zAr T 0 a5_107 (zMk mdB n4B (zPl cr1_ inn1_ k11_)) g5_95, zAr T 0 a6_108 (zMk mdB n4B (zPl cr1_ inn1_ k11_)) g6_96], z1_] _ _ := G.re rfl
            refine z_Vi (bc := [[zO0 wb_ m2_89 wy2_90 l1 pc2_91 a1_103 a2_104 a3_105 a4_106 a5_107 a6_108, zAr T 0 a1_103 7 g1_92, zAr T 0 a2_104 7 g2_93, zAr T 0 a3_105 7 f3B, zAr T 0 a4_106 (zMk mdB n4B (zPl cr1_ inn1_ k11_)) g4_94, zAr T 0 a5_107 (zMk mdB n4B (zPl cr1_ inn1_ k11_)) g5_95, zAr T 0 a6_108 (zMk mdB n4B (zPl cr1_ inn1_ k11_)) g6_96], z1_]) (br := [z0_, wwA, wt, [zO10 xo t im mk rd po co tr wa wb_ fi cd]]) (As := [.int b8]) (rest := []) C G (c_f_number l T wb_ l1 m2_89 wy2_90 pc2_91 g1_92 g2_93 f3B g4_94 g5_95 g6_96 (zMk mdB n4B (zPl cr1_ inn1_ k11_)) ([zO0 wb_ m2_89 wy2_90 l1 pc2_91 a1_103 a2_104 a3_105 a4_106 a5_107 a6_108, zAr T 0 a1_103 7 g1_92, zAr T 0 a2_104 7 g2_93, zAr T 0 a3_105 7 f3B, zAr T 0 a4_106 (zMk mdB n4B (zPl cr1_ inn1_ k11_)) g4_94, zAr T 0 a5_107 (zMk mdB n4B (zPl cr1_ inn1_ k11_)) g5_95, zAr T 0 a6_108 (zMk mdB n4B (zPl cr1_ inn1_ k11_)) g6_96]) cr1_ inn1_ k11_ k21_ k31_ k41_ z1_ b8 hw_115 hz1_ hI1_ h_101.2.2.1 hOk9 (by rcases hbi9 with ⟨e9, _⟩ | e9 <;> first | exact absurd e9 (by first | with_reducible assumption | assumption) | exact e9.2.1)) (kV_RX11_272 C.2.2.2.2 (Nat.le_of_ble_eq_true rfl) (Nat.le_of_ble_eq_true rfl)) [4, 5] [4, 0] rfl rfl (ci := 0) (qc := (RX0, TX0, 10)) rfl rfl (List.mem_flatten.mpr ⟨_, List.mem_of_getElem? (i := 0) rfl, (bWays_mem hw_115).choose_spec⟩) rfl rfl hl.1 dX11_longest_148 (Nat.le_of_ble_eq_true rfl) (by show _ + 0 ≤ 6 * (zNA (i1.toInt = 0 ∧ 0 < (fk 0).toInt ∧ 0 ≤ a_.toInt ∧ a_.toInt < cr0_.toInt ∧ a_.toInt < 7) mdA n4A (zPl cr0_ inn0_ k10_) - n4A) + 6 * (zNA (i1.toInt = 1 ∧ 1 < (fk 0).toInt ∧ 0 ≤ a_.toInt ∧ a_.toInt < cr1_.toInt ∧ a_.toInt < 7) mdB n4B (zPl cr1_ inn1_ k11_) - n4B); omega) (fun r_117 b1 H locs hw G => ?_)
            refine zAn2 hw ?_
            intro hbs9 h_116
            clear hw
            subst hbs9
            have G : zS T A s.heap s [z0_, wwA, wt, [zO10 xo t im mk rd po co tr wa wb_ fi cd], [zO0 wb_ m2_89 wy2_90 l1 pc2_91 a1_103 a2_104 a3_105 a4_106 a5_107 a6_108, zAr T 0 a1_103 7 g1_92, zAr T 0 a2_104 7 g2_93, zAr T 0 a3_105 7 f3B, zAr T 0 a4_106 (zMk mdB n4B (zPl cr1_ inn1_ k11_)) g4_94, zAr T 0 a5_107 (zMk mdB n4B (zPl cr1_ inn1_ k11_)) g5_95, zAr T 0 a6_108 (zMk mdB n4B (zPl cr1_ inn1_ k11_)) g6_96], z1_] _ _ := G
            refine lv_goto (tgt := 156) hx hb dX11_longest_151 (by decide) ?_
            have G := G.sub (bs' := [[zO10 xo t im mk rd po co tr wa wb_ fi cd], wt, z0_, z1_, wwA, [zO0 wb_ m2_89 wy2_90 l1 pc2_91 a1_103 a2_104 a3_105 a4_106 a5_107 a6_108, zAr T 0 a1_103 7 g1_92, zAr T 0 a2_104 7 g2_93, zAr T 0 a3_105 7 f3B, zAr T 0 a4_106 (zMk mdB n4B (zPl cr1_ inn1_ k11_)) g4_94, zAr T 0 a5_107 (zMk mdB n4B (zPl cr1_ inn1_ k11_)) g5_95, zAr T 0 a6_108 (zMk mdB n4B (zPl cr1_ inn1_ k11_)) g6_96]]) [3, 2, 0, 5, 1, 4] rfl
            exact z_back hQz_ (z_iret C hr hlocks G (Nat.le_of_ble_eq_true rfl) (by omega) dX11_longest_156 ⟨laA, mdA, wyA, pc_A, f1A, f2A, f3A, f4A, f5A, f6A, n4A, wwA, l1, m2_89, wy2_90, pc2_91, g1_92, g2_93, f3B, g4_94, g5_95, g6_96, (zMk mdB n4B (zPl cr1_ inn1_ k11_)), ([zO0 wb_ m2_89 wy2_90 l1 pc2_91 a1_103 a2_104 a3_105 a4_106 a5_107 a6_108, zAr T 0 a1_103 7 g1_92, zAr T 0 a2_104 7 g2_93, zAr T 0 a3_105 7 f3B, zAr T 0 a4_106 (zMk mdB n4B (zPl cr1_ inn1_ k11_)) g4_94, zAr T 0 a5_107 (zMk mdB n4B (zPl cr1_ inn1_ k11_)) g5_95, zAr T 0 a6_108 (zMk mdB n4B (zPl cr1_ inn1_ k11_)) g6_96]), rfl, hwwA, hmdA, hwmA, (by first | exact hNAo.symm | exact (zNA_n (by first | omega | grind)).symm), hpwA, (fun q => q), hTbA, hw_115, (Or.inr rfl), hwy9, hNAm.symm, (zMk_pw hpwB), (fun _ => h_100), (Or.inr h_101), (Or.inr (Or.inr ⟨by first | with_reducible assumption | assumption, by first | with_reducible assumption | assumption, (by unfold kLong; rw [if_pos ⟨by omega, by omega⟩]; exact rLong_e (W := (aW cr1_ inn1_ k11_)) (L := k21_) (b := b7) (w := b8) hp79 (by rw [hbb, show i = aPr (aW cr1_ inn1_ k11_) 7 by omega]) (by rw [hbw, show i = aPr (aW cr1_ inn1_ k11_) 7 by omega]) (Or.inr ⟨by first | with_reducible assumption | assumption, by first | with_reducible assumption | assumption, h_116⟩))⟩))⟩)
      · have c_110n : ¬ wy2_90.toInt ≤ (i : Int) := fun q => c_110 ((fa_le _ _).mpr (by rw [nI_toInt (n := i) (by omega)]; exact q))
        have hE9 := zEnt_w (w := i) (x := a_) hI1_ hOk9 h_101 (by omega) ⟨by omega, by omega, by omega⟩
        have hB9 := zEnt_b (inn := inn1_) (w := i) (x := a_) hI1_ hLq1 (by omega) ⟨by omega, by omega, by omega⟩
        have hs99 : (rStp (aW cr1_ inn1_ k11_) k21_ i a_) ≤ 499 := rStp_le
        refine lv_aload hx hb dX11_longest_54 (lv_at hl 3 rfl) ?_
        refine lv_iload hx hb dX11_longest_56 (lv_at hl 0 rfl) ?_
        refine lv_iload_n hx hb dX11_longest_58 rfl (lv_at hl 7 rfl) ?_
        have hw_118 : bWays T wb_ l1 m2_89 wy2_90 pc2_91 g1_92 g2_93 f3B g4_94 g5_95 g6_96 (zMk mdB n4B (zPl cr1_ inn1_ k11_)) [zO0 wb_ m2_89 wy2_90 l1 pc2_91 a1_103 a2_104 a3_105 a4_106 a5_107 a6_108, zAr T 0 a1_103 7 g1_92, zAr T 0 a2_104 7 g2_93, zAr T 0 a3_105 7 f3B, zAr T 0 a4_106 (zMk mdB n4B (zPl cr1_ inn1_ k11_)) g4_94, zAr T 0 a5_107 (zMk mdB n4B (zPl cr1_ inn1_ k11_)) g5_95, zAr T 0 a6_108 (zMk mdB n4B (zPl cr1_ inn1_ k11_)) g6_96] := ⟨a1_103, a2_104, a3_105, a4_106, a5_107, a6_108, rfl⟩
        have G : zS T A s.heap s [z0_, wwA, wt, [zO10 xo t im mk rd po co tr wa wb_ fi cd], [zO0 wb_ m2_89 wy2_90 l1 pc2_91 a1_103 a2_104 a3_105 a4_106 a5_107 a6_108, zAr T 0 a1_103 7 g1_92, zAr T 0 a2_104 7 g2_93, zAr T 0 a3_105 7 f3B, zAr T 0 a4_106 (zMk mdB n4B (zPl cr1_ inn1_ k11_)) g4_94, zAr T 0 a5_107 (zMk mdB n4B (zPl cr1_ inn1_ k11_)) g5_95, zAr T 0 a6_108 (zMk mdB n4B (zPl cr1_ inn1_ k11_)) g6_96], z1_] _ _ := G.re rfl
        refine z_Vi (bc := [[zO0 wb_ m2_89 wy2_90 l1 pc2_91 a1_103 a2_104 a3_105 a4_106 a5_107 a6_108, zAr T 0 a1_103 7 g1_92, zAr T 0 a2_104 7 g2_93, zAr T 0 a3_105 7 f3B, zAr T 0 a4_106 (zMk mdB n4B (zPl cr1_ inn1_ k11_)) g4_94, zAr T 0 a5_107 (zMk mdB n4B (zPl cr1_ inn1_ k11_)) g5_95, zAr T 0 a6_108 (zMk mdB n4B (zPl cr1_ inn1_ k11_)) g6_96]]) (br := [z0_, wwA, wt, [zO10 xo t im mk rd po co tr wa wb_ fi cd], z1_]) (As := [.int (nI i), .int a_]) (rest := []) C G (c_steps l T wb_ l1 m2_89 wy2_90 pc2_91 g1_92 g2_93 f3B g4_94 g5_95 g6_96 (zMk mdB n4B (zPl cr1_ inn1_ k11_)) ([zO0 wb_ m2_89 wy2_90 l1 pc2_91 a1_103 a2_104 a3_105 a4_106 a5_107 a6_108, zAr T 0 a1_103 7 g1_92, zAr T 0 a2_104 7 g2_93, zAr T 0 a3_105 7 f3B, zAr T 0 a4_106 (zMk mdB n4B (zPl cr1_ inn1_ k11_)) g4_94, zAr T 0 a5_107 (zMk mdB n4B (zPl cr1_ inn1_ k11_)) g5_95, zAr T 0 a6_108 (zMk mdB n4B (zPl cr1_ inn1_ k11_)) g6_96]) (nI i) a_ hw_118 (by first | with_reducible assumption | with_reducible rfl | omega | assumption | rfl)) (kV_RX11_266 C.2.2.2.2 (Nat.le_of_ble_eq_true rfl) (Nat.le_of_ble_eq_true rfl)) [4] [4] rfl rfl (ci := 0) (qc := (RX0, TX0, 10)) rfl rfl (List.mem_flatten.mpr ⟨_, List.mem_of_getElem? (i := 0) rfl, (bWays_mem hw_118).choose_spec⟩) rfl rfl hl.1 dX11_longest_59 (Nat.le_of_ble_eq_true rfl) (by show _ + 0 ≤ 6 * (zNA (i1.toInt = 0 ∧ 0 < (fk 0).toInt ∧ 0 ≤ a_.toInt ∧ a_.toInt < cr0_.toInt ∧ a_.toInt < 7) mdA n4A (zPl cr0_ inn0_ k10_) - n4A) + 6 * (zNA (i1.toInt = 1 ∧ 1 < (fk 0).toInt ∧ 0 ≤ a_.toInt ∧ a_.toInt < cr1_.toInt ∧ a_.toInt < 7) mdB n4B (zPl cr1_ inn1_ k11_) - n4B); omega) (fun r_120 b1 H locs hw G => ?_)
        refine zAn2 hw ?_
        intro hbs9 h_119
        clear hw
        subst hbs9
        have G : zS T A s.heap s [z0_, wwA, wt, [zO10 xo t im mk rd po co tr wa wb_ fi cd], z1_, [zO0 wb_ m2_89 wy2_90 l1 pc2_91 a1_103 a2_104 a3_105 a4_106 a5_107 a6_108, zAr T 0 a1_103 7 g1_92, zAr T 0 a2_104 7 g2_93, zAr T 0 a3_105 7 f3B, zAr T 0 a4_106 (zMk mdB n4B (zPl cr1_ inn1_ k11_)) g4_94, zAr T 0 a5_107 (zMk mdB n4B (zPl cr1_ inn1_ k11_)) g5_95, zAr T 0 a6_108 (zMk mdB n4B (zPl cr1_ inn1_ k11_)) g6_96]] _ _ := G
        subst h_119
        refine lv_topi (fun y_121 ey_121 => ?_)
        obtain rfl : y_121 = nI (rStp (aW cr1_ inn1_ k11_) k21_ i a_) := ey_121.trans (hE9.2.1)
        refine lv_istore (lv' := [(10, .int (nI (rStp (aW cr1_ inn1_ k11_) k21_ i a_))), (9, .int (nI i)), (8, .int b8), (7, .int b7), (6, .ref wb_), (5, .ref l1), (0, .ref xo), (1, .int i1), (2, .int a_), (3, .int w_), (4, .int q_)]) hx hb dX11_longest_62 hl (by decide) (zLvf_h rfl) (fun ls hl => ?_)
        refine lv_iload hx hb dX11_longest_64 (lv_at hl 3 rfl) ?_
        refine lv_iconst (v := (-1)) hx hb dX11_longest_66 (by decide) ?_
        refine lv_icmp_eq (tgt := 91) hx hb dX11_longest_67 (by decide) (fun c_122 => ?_) (fun c_122 => ?_)
        · have c_122n : b7.toInt = (-1 : Int) := (fa_eq _ _).mp c_122
          refine lv_iconst (v := 1) hx hb dX11_longest_91 (by decide) ?_
          refine lv_goto (tgt := 96) hx hb dX11_longest_92 (by decide) ?_
          refine lv_istore (lv' := [(11, .int 1), (10, .int (nI (rStp (aW cr1_ inn1_ k11_) k21_ i a_))), (9, .int (nI i)), (8, .int b8), (7, .int b7), (6, .ref wb_), (5, .ref l1), (0, .ref xo), (1, .int i1), (2, .int a_), (3, .int w_), (4, .int q_)]) hx hb dX11_longest_96 hl (by decide) (zLvf_h rfl) (fun ls hl => ?_)
          refine lv_iload hx hb dX11_longest_98 (lv_at hl 0 rfl) ?_
          refine lv_if_eq (tgt := 127) hx hb dX11_longest_100 (by decide) (fun q => absurd q (by decide)) (fun _ => ?_)
          refine lv_aload hx hb dX11_longest_103 (lv_at hl 6 rfl) ?_
          refine lv_aload hx hb dX11_longest_105 (lv_at hl 5 rfl) ?_
          refine lv_iload hx hb dX11_longest_107 (lv_at hl 2 rfl) ?_
          refine lv_iload_n hx hb dX11_longest_109 rfl (lv_at hl 9 rfl) ?_
          refine z_Vi (bc := [[zO0 wb_ m2_89 wy2_90 l1 pc2_91 a1_103 a2_104 a3_105 a4_106 a5_107 a6_108, zAr T 0 a1_103 7 g1_92, zAr T 0 a2_104 7 g2_93, zAr T 0 a3_105 7 f3B, zAr T 0 a4_106 (zMk mdB n4B (zPl cr1_ inn1_ k11_)) g4_94, zAr T 0 a5_107 (zMk mdB n4B (zPl cr1_ inn1_ k11_)) g5_95, zAr T 0 a6_108 (zMk mdB n4B (zPl cr1_ inn1_ k11_)) g6_96]]) (br := [z0_, wwA, wt, [zO10 xo t im mk rd po co tr wa wb_ fi cd], z1_]) (As := [.int (nI i), .int a_]) (rest := [.ref l1]) C G (c_where l T wb_ l1 m2_89 wy2_90 pc2_91 g1_92 g2_93 f3B g4_94 g5_95 g6_96 (zMk mdB n4B (zPl cr1_ inn1_ k11_)) ([zO0 wb_ m2_89 wy2_90 l1 pc2_91 a1_103 a2_104 a3_105 a4_106 a5_107 a6_108, zAr T 0 a1_103 7 g1_92, zAr T 0 a2_104 7 g2_93, zAr T 0 a3_105 7 f3B, zAr T 0 a4_106 (zMk mdB n4B (zPl cr1_ inn1_ k11_)) g4_94, zAr T 0 a5_107 (zMk mdB n4B (zPl cr1_ inn1_ k11_)) g5_95, zAr T 0 a6_108 (zMk mdB n4B (zPl cr1_ inn1_ k11_)) g6_96]) (nI i) a_ hw_118 (by first | with_reducible assumption | with_reducible rfl | omega | assumption | rfl)) (kV_RX11_260 C.2.2.2.2 (Nat.le_of_ble_eq_true rfl) (Nat.le_of_ble_eq_true rfl)) [5] [5] rfl rfl (ci := 0) (qc := (RX0, TX0, 10)) rfl rfl (List.mem_flatten.mpr ⟨_, List.mem_of_getElem? (i := 0) rfl, (bWays_mem hw_118).choose_spec⟩) rfl rfl hl.1 dX11_longest_110 (Nat.le_of_ble_eq_true rfl) (by show _ + 0 ≤ 6 * (zNA (i1.toInt = 0 ∧ 0 < (fk 0).toInt ∧ 0 ≤ a_.toInt ∧ a_.toInt < cr0_.toInt ∧ a_.toInt < 7) mdA n4A (zPl cr0_ inn0_ k10_) - n4A) + 6 * (zNA (i1.toInt = 1 ∧ 1 < (fk 0).toInt ∧ 0 ≤ a_.toInt ∧ a_.toInt < cr1_.toInt ∧ a_.toInt < 7) mdB n4B (zPl cr1_ inn1_ k11_) - n4B); omega) (fun r_124 b1 H locs hw G => ?_)
          refine zAn2 hw ?_
          intro hbs9 h_123
          clear hw
          subst hbs9
          have G : zS T A s.heap s [z0_, wwA, wt, [zO10 xo t im mk rd po co tr wa wb_ fi cd], z1_, [zO0 wb_ m2_89 wy2_90 l1 pc2_91 a1_103 a2_104 a3_105 a4_106 a5_107 a6_108, zAr T 0 a1_103 7 g1_92, zAr T 0 a2_104 7 g2_93, zAr T 0 a3_105 7 f3B, zAr T 0 a4_106 (zMk mdB n4B (zPl cr1_ inn1_ k11_)) g4_94, zAr T 0 a5_107 (zMk mdB n4B (zPl cr1_ inn1_ k11_)) g5_95, zAr T 0 a6_108 (zMk mdB n4B (zPl cr1_ inn1_ k11_)) g6_96]] _ _ := G
          subst h_123
          refine lv_topi (fun y_125 ey_125 => ?_)
          obtain rfl : y_125 = (rWh (aW cr1_ inn1_ k11_) k21_ i a_) := ey_125.trans (hE9.1)
          refine z_Vi (bc := [z1_]) (br := [z0_, wwA, wt, [zO10 xo t im mk rd po co tr wa wb_ fi cd], [zO0 wb_ m2_89 wy2_90 l1 pc2_91 a1_103 a2_104 a3_105 a4_106 a5_107 a6_108, zAr T 0 a1_103 7 g1_92, zAr T 0 a2_104 7 g2_93, zAr T 0 a3_105 7 f3B, zAr T 0 a4_106 (zMk mdB n4B (zPl cr1_ inn1_ k11_)) g4_94, zAr T 0 a5_107 (zMk mdB n4B (zPl cr1_ inn1_ k11_)) g5_95, zAr T 0 a6_108 (zMk mdB n4B (zPl cr1_ inn1_ k11_)) g6_96]]) (As := [.int (rWh (aW cr1_ inn1_ k11_) k21_ i a_)]) (rest := []) C G (c_isInn l T l1 cr1_ inn1_ k11_ k21_ k31_ k41_ z1_ (rWh (aW cr1_ inn1_ k11_) k21_ i a_) hz1_) (kV_RX11_174 C.2.2.2.2 (Nat.le_of_ble_eq_true rfl) (Nat.le_of_ble_eq_true rfl)) [4] [4] rfl rfl (ci := 4) (qc := (RX4, TX4, 6)) rfl rfl (List.mem_flatten.mpr ⟨_, List.mem_of_getElem? (i := 0) rfl, (bLand_mem hz1_).choose_spec⟩) rfl rfl hl.1 dX11_longest_113 (Nat.le_of_ble_eq_true rfl) (by show _ + 0 ≤ 6 * (zNA (i1.toInt = 0 ∧ 0 < (fk 0).toInt ∧ 0 ≤ a_.toInt ∧ a_.toInt < cr0_.toInt ∧ a_.toInt < 7) mdA n4A (zPl cr0_ inn0_ k10_) - n4A) + 6 * (zNA (i1.toInt = 1 ∧ 1 < (fk 0).toInt ∧ 0 ≤ a_.toInt ∧ a_.toInt < cr1_.toInt ∧ a_.toInt < 7) mdB n4B (zPl cr1_ inn1_ k11_) - n4B); omega) (fun r_127 b1 H locs hw G => ?_)
          refine zAn2 hw ?_
          intro hbs9 hc_126
          clear hw
          subst hbs9
          have G : zS T A s.heap s [z0_, wwA, wt, [zO10 xo t im mk rd po co tr wa wb_ fi cd], [zO0 wb_ m2_89 wy2_90 l1 pc2_91 a1_103 a2_104 a3_105 a4_106 a5_107 a6_108, zAr T 0 a1_103 7 g1_92, zAr T 0 a2_104 7 g2_93, zAr T 0 a3_105 7 f3B, zAr T 0 a4_106 (zMk mdB n4B (zPl cr1_ inn1_ k11_)) g4_94, zAr T 0 a5_107 (zMk mdB n4B (zPl cr1_ inn1_ k11_)) g5_95, zAr T 0 a6_108 (zMk mdB n4B (zPl cr1_ inn1_ k11_)) g6_96], z1_] _ _ := G
          rcases hc_126 with ⟨rfl, h_128, h_129, h_130, h_131⟩ | ⟨rfl, h_132⟩
          · have h_128 : 0 ≤ (rWh (aW cr1_ inn1_ k11_) k21_ i a_).toInt := h_128
            have h_129 : (rWh (aW cr1_ inn1_ k11_) k21_ i a_).toInt < cr1_.toInt := h_129
            have h_130 : (rWh (aW cr1_ inn1_ k11_) k21_ i a_).toInt < 7 := h_130
            have h_131 : ¬ zBit inn1_ (rWh (aW cr1_ inn1_ k11_) k21_ i a_) = 0 := h_131
            have hyi := zBit_p h_131
            refine lv_if_eq (tgt := 127) hx hb dX11_longest_116 (by decide) (fun q => absurd q (by decide)) (fun _ => ?_)
            refine lv_iload hx hb dX11_longest_119 (lv_at hl 1 rfl) ?_
            refine lv_istore (lv' := [(7, .int (nI (rStp (aW cr1_ inn1_ k11_) k21_ i a_))), (11, .int 1), (10, .int (nI (rStp (aW cr1_ inn1_ k11_) k21_ i a_))), (9, .int (nI i)), (8, .int b8), (6, .ref wb_), (5, .ref l1), (0, .ref xo), (1, .int i1), (2, .int a_), (3, .int w_), (4, .int q_)]) hx hb dX11_longest_121 hl (by decide) (zLvf_h rfl) (fun ls hl => ?_)
            refine lv_iload hx hb dX11_longest_123 (lv_at hl 3 rfl) ?_
            refine lv_istore (lv' := [(8, .int (nI i)), (7, .int (nI (rStp (aW cr1_ inn1_ k11_) k21_ i a_))), (11, .int 1), (10, .int (nI (rStp (aW cr1_ inn1_ k11_) k21_ i a_))), (9, .int (nI i)), (6, .ref wb_), (5, .ref l1), (0, .ref xo), (1, .int i1), (2, .int a_), (3, .int w_), (4, .int q_)]) hx hb dX11_longest_125 hl (by decide) (zLvf_h rfl) (fun ls hl => ?_)
            have hbs9 := (rBg_s (c := (fun w => decide (zBit inn1_ (rWh (aW cr1_ inn1_ k11_) k21_ w a_) = 1))) (g := (fun w => rStp (aW cr1_ inn1_ k11_) k21_ w a_)) (s := w_) (fun v => Nat.lt_of_le_of_lt rStp_le (by decide)) (by omega) hbb hbw).1 (decide_eq_true hyi) (by omega)
            refine lv_iinc (v := nI (i + 1)) (lv' := [(9, .int (nI (i + 1))), (8, .int (nI i)), (7, .int (nI (rStp (aW cr1_ inn1_ k11_) k21_ i a_))), (11, .int 1), (10, .int (nI (rStp (aW cr1_ inn1_ k11_) k21_ i a_))), (6, .ref wb_), (5, .ref l1), (0, .ref xo), (1, .int i1), (2, .int a_), (3, .int w_), (4, .int q_)]) hx hb dX11_longest_127 hl (k := 4) rfl (z_inc i 1) (by decide) (zLvf_h rfl) (fun ls hl => ?_)
            refine lv_goto (tgt := 44) hx hb dX11_longest_130 (by decide) ?_
            exact ih_44 (i + 1) (nI (rStp (aW cr1_ inn1_ k11_) k21_ i a_)) (nI i) (show (i + 1) ≤ aPr (aW cr1_ inn1_ k11_) 7 ∧ (nI (rStp (aW cr1_ inn1_ k11_) k21_ i a_)) = (rBg (fun w => decide (zBit inn1_ (rWh (aW cr1_ inn1_ k11_) k21_ w a_) = 1)) (fun w => rStp (aW cr1_ inn1_ k11_) k21_ w a_) w_ (i + 1)).2 ∧ (nI i) = (rBg (fun w => decide (zBit inn1_ (rWh (aW cr1_ inn1_ k11_) k21_ w a_) = 1)) (fun w => rStp (aW cr1_ inn1_ k11_) k21_ w a_) w_ (i + 1)).1 from ⟨(by omega), hbs9.1, hbs9.2⟩) (show aPr (aW cr1_ inn1_ k11_) 7 - (i + 1) < aPr (aW cr1_ inn1_ k11_) 7 - i from by omega) _ _ ls G (lv_sub hl [0, 1, 2, 5, 6, 7, 8, 9, 10, 11] rfl)
          · have h_132 : ((rWh (aW cr1_ inn1_ k11_) k21_ i a_).toInt < 0 ∨ cr1_.toInt ≤ (rWh (aW cr1_ inn1_ k11_) k21_ i a_).toInt ∨ 7 ≤ (rWh (aW cr1_ inn1_ k11_) k21_ i a_).toInt ∨ zBit inn1_ (rWh (aW cr1_ inn1_ k11_) k21_ i a_) = 0) := h_132
            have hni : ¬ zBit inn1_ (rWh (aW cr1_ inn1_ k11_) k21_ i a_) = 1 := by rcases h_132 with e9 | e9 | e9 | e9 <;> first | (exfalso; omega) | exact fun q9 => zBit_o q9 e9
            refine lv_if_eq (tgt := 127) hx hb dX11_longest_116 (by decide) (fun _ => ?_) (fun q => absurd (by decide) q)
            have hbs9 := (rBg_s (c := (fun w => decide (zBit inn1_ (rWh (aW cr1_ inn1_ k11_) k21_ w a_) = 1))) (g := (fun w => rStp (aW cr1_ inn1_ k11_) k21_ w a_)) (s := w_) (fun v => Nat.lt_of_le_of_lt rStp_le (by decide)) (by omega) hbb hbw).2 (fun q8 => by first | exact hni (of_decide_eq_true q8.1) | (have q7 := q8.2; omega))
            refine lv_iinc (v := nI (i + 1)) (lv' := [(9, .int (nI (i + 1))), (11, .int 1), (10, .int (nI (rStp (aW cr1_ inn1_ k11_) k21_ i a_))), (8, .int b8), (7, .int b7), (6, .ref wb_), (5, .ref l1), (0, .ref xo), (1, .int i1), (2, .int a_), (3, .int w_), (4, .int q_)]) hx hb dX11_longest_127 hl (k := 2) rfl (z_inc i 1) (by decide) (zLvf_h rfl) (fun ls hl => ?_)
            refine lv_goto (tgt := 44) hx hb dX11_longest_130 (by decide) ?_
            exact ih_44 (i + 1) b7 b8 (show (i + 1) ≤ aPr (aW cr1_ inn1_ k11_) 7 ∧ b7 = (rBg (fun w => decide (zBit inn1_ (rWh (aW cr1_ inn1_ k11_) k21_ w a_) = 1)) (fun w => rStp (aW cr1_ inn1_ k11_) k21_ w a_) w_ (i + 1)).2 ∧ b8 = (rBg (fun w => decide (zBit inn1_ (rWh (aW cr1_ inn1_ k11_) k21_ w a_) = 1)) (fun w => rStp (aW cr1_ inn1_ k11_) k21_ w a_) w_ (i + 1)).1 from ⟨(by omega), hbs9.1, hbs9.2⟩) (show aPr (aW cr1_ inn1_ k11_) 7 - (i + 1) < aPr (aW cr1_ inn1_ k11_) 7 - i from by omega) _ _ ls G (lv_sub hl [0, 3, 4, 5, 6, 7, 8, 9, 10, 11] rfl)
        · have c_122n : ¬ b7.toInt = (-1 : Int) := fun q => c_122 ((fa_eq _ _).mpr q)
          refine lv_iload_n hx hb dX11_longest_70 rfl (lv_at hl 9 rfl) ?_
          refine lv_if_eq (tgt := 84) hx hb dX11_longest_71 (by decide) (fun c_133 => ?_) (fun c_133 => ?_)
          · have c_133n : w_.toInt = (0 : Int) := (fa_eq _ _).mp c_133
            refine lv_iload hx hb dX11_longest_84 (lv_at hl 0 rfl) ?_
            refine lv_iload hx hb dX11_longest_86 (lv_at hl 3 rfl) ?_
            refine lv_icmp_le (tgt := 95) hx hb dX11_longest_88 (by decide) (fun c_134 => ?_) (fun c_134 => ?_)
            · have c_134n : ((rStp (aW cr1_ inn1_ k11_) k21_ i a_) : Int) ≤ b7.toInt := by have q := (fa_le _ _).mp c_134; rw [nI_toInt (n := rStp (aW cr1_ inn1_ k11_) k21_ i a_) (by omega)] at q; exact q
              refine lv_iconst (v := 0) hx hb dX11_longest_95 (by decide) ?_
              refine lv_istore (lv' := [(11, .int 0), (10, .int (nI (rStp (aW cr1_ inn1_ k11_) k21_ i a_))), (9, .int (nI i)), (8, .int b8), (7, .int b7), (6, .ref wb_), (5, .ref l1), (0, .ref xo), (1, .int i1), (2, .int a_), (3, .int w_), (4, .int q_)]) hx hb dX11_longest_96 hl (by decide) (zLvf_h rfl) (fun ls hl => ?_)
              refine lv_iload hx hb dX11_longest_98 (lv_at hl 0 rfl) ?_
              refine lv_if_eq (tgt := 127) hx hb dX11_longest_100 (by decide) (fun _ => ?_) (fun q => absurd (by decide) q)
              have hbs9 := (rBg_s (c := (fun w => decide (zBit inn1_ (rWh (aW cr1_ inn1_ k11_) k21_ w a_) = 1))) (g := (fun w => rStp (aW cr1_ inn1_ k11_) k21_ w a_)) (s := w_) (fun v => Nat.lt_of_le_of_lt rStp_le (by decide)) (by omega) hbb hbw).2 (fun q8 => by first | exact hni (of_decide_eq_true q8.1) | (have q7 := q8.2; omega))
              refine lv_iinc (v := nI (i + 1)) (lv' := [(9, .int (nI (i + 1))), (11, .int 0), (10, .int (nI (rStp (aW cr1_ inn1_ k11_) k21_ i a_))), (8, .int b8), (7, .int b7), (6, .ref wb_), (5, .ref l1), (0, .ref xo), (1, .int i1), (2, .int a_), (3, .int w_), (4, .int q_)]) hx hb dX11_longest_127 hl (k := 2) rfl (z_inc i 1) (by decide) (zLvf_h rfl) (fun ls hl => ?_)
              refine lv_goto (tgt := 44) hx hb dX11_longest_130 (by decide) ?_
              have G := G.sub (bs' := [z0_, wwA, wt, [zO10 xo t im mk rd po co tr wa wb_ fi cd], [zO0 wb_ m2_89 wy2_90 l1 pc2_91 a1_103 a2_104 a3_105 a4_106 a5_107 a6_108, zAr T 0 a1_103 7 g1_92, zAr T 0 a2_104 7 g2_93, zAr T 0 a3_105 7 f3B, zAr T 0 a4_106 (zMk mdB n4B (zPl cr1_ inn1_ k11_)) g4_94, zAr T 0 a5_107 (zMk mdB n4B (zPl cr1_ inn1_ k11_)) g5_95, zAr T 0 a6_108 (zMk mdB n4B (zPl cr1_ inn1_ k11_)) g6_96], z1_]) [0, 1, 2, 3, 5, 4] rfl
              exact ih_44 (i + 1) b7 b8 (show (i + 1) ≤ aPr (aW cr1_ inn1_ k11_) 7 ∧ b7 = (rBg (fun w => decide (zBit inn1_ (rWh (aW cr1_ inn1_ k11_) k21_ w a_) = 1)) (fun w => rStp (aW cr1_ inn1_ k11_) k21_ w a_) w_ (i + 1)).2 ∧ b8 = (rBg (fun w => decide (zBit inn1_ (rWh (aW cr1_ inn1_ k11_) k21_ w a_) = 1)) (fun w => rStp (aW cr1_ inn1_ k11_) k21_ w a_) w_ (i + 1)).1 from ⟨(by omega), hbs9.1, hbs9.2⟩) (show aPr (aW cr1_ inn1_ k11_) 7 - (i + 1) < aPr (aW cr1_ inn1_ k11_) 7 - i from by omega) _ _ ls G (lv_sub hl [0, 3, 4, 5, 6, 7, 8, 9, 10, 11] rfl)
            · have c_134n : ¬ ((rStp (aW cr1_ inn1_ k11_) k21_ i a_) : Int) ≤ b7.toInt := fun q => c_134 ((fa_le _ _).mpr (by rw [nI_toInt (n := rStp (aW cr1_ inn1_ k11_) k21_ i a_) (by omega)]; exact q))
              refine lv_iconst (v := 1) hx hb dX11_longest_91 (by decide) ?_
              refine lv_goto (tgt := 96) hx hb dX11_longest_92 (by decide) ?_
              refine lv_istore (lv' := [(11, .int 1), (10, .int (nI (rStp (aW cr1_ inn1_ k11_) k21_ i a_))), (9, .int (nI i)), (8, .int b8), (7, .int b7), (6, .ref wb_), (5, .ref l1), (0, .ref xo), (1, .int i1), (2, .int a_), (3, .int w_), (4, .int q_)]) hx hb dX11_longest_96 hl (by decide) (zLvf_h rfl) (fun ls hl => ?_)
              refine lv_iload hx hb dX11_longest_98 (lv_at hl 0 rfl) ?_
              refine lv_if_eq (tgt := 127) hx hb dX11_longest_100 (by decide) (fun q => absurd q (by decide)) (fun _ => ?_)
              refine lv_aload hx hb dX11_longest_103 (lv_at hl 6 rfl) ?_
              refine lv_aload hx hb dX11_longest_105 (lv_at hl 5 rfl) ?_
              refine lv_iload hx hb dX11_longest_107 (lv_at hl 2 rfl) ?_
              refine lv_iload_n hx hb dX11_longest_109 rfl (lv_at hl 9 rfl) ?_
              refine z_Vi (bc := [[zO0 wb_ m2_89 wy2_90 l1 pc2_91 a1_103 a2_104 a3_105 a4_106 a5_107 a6_108, zAr T 0 a1_103 7 g1_92, zAr T 0 a2_104 7 g2_93, zAr T 0 a3_105 7 f3B, zAr T 0 a4_106 (zMk mdB n4B (zPl cr1_ inn1_ k11_)) g4_94, zAr T 0 a5_107 (zMk mdB n4B (zPl cr1_ inn1_ k11_)) g5_95, zAr T 0 a6_108 (zMk mdB n4B (zPl cr1_ inn1_ k11_)) g6_96]]) (br := [z0_, wwA, wt, [zO10 xo t im mk rd po co tr wa wb_ fi cd], z1_]) (As := [.int (nI i), .int a_]) (rest := [.ref l1]) C G (c_where l T wb_ l1 m2_89 wy2_90 pc2_91 g1_92 g2_93 f3B g4_94 g5_95 g6_96 (zMk mdB n4B (zPl cr1_ inn1_ k11_)) ([zO0 wb_ m2_89 wy2_90 l1 pc2_91 a1_103 a2_104 a3_105 a4_106 a5_107 a6_108, zAr T 0 a1_103 7 g1_92, zAr T 0 a2_104 7 g2_93, zAr T 0 a3_105 7 f3B, zAr T 0 a4_106 (zMk mdB n4B (zPl cr1_ inn1_ k11_)) g4_94, zAr T 0 a5_107 (zMk mdB n4B (zPl cr1_ inn1_ k11_)) g5_95, zAr T 0 a6_108 (zMk mdB n4B (zPl cr1_ inn1_ k11_)) g6_96]) (nI i) a_ hw_118 (by first | with_reducible assumption | with_reducible rfl | omega | assumption | rfl)) (kV_RX11_260 C.2.2.2.2 (Nat.le_of_ble_eq_true rfl) (Nat.le_of_ble_eq_true rfl)) [5] [5] rfl rfl (ci := 0) (qc := (RX0, TX0, 10)) rfl rfl (List.mem_flatten.mpr ⟨_, List.mem_of_getElem? (i := 0) rfl, (bWays_mem hw_118).choose_spec⟩) rfl rfl hl.1 dX11_longest_110 (Nat.le_of_ble_eq_true rfl) (by show _ + 0 ≤ 6 * (zNA (i1.toInt = 0 ∧ 0 < (fk 0).toInt ∧ 0 ≤ a_.toInt ∧ a_.toInt < cr0_.toInt ∧ a_.toInt < 7) mdA n4A (zPl cr0_ inn0_ k10_) - n4A) + 6 * (zNA (i1.toInt = 1 ∧ 1 < (fk 0).toInt ∧ 0 ≤ a_.toInt ∧ a_.toInt < cr1_.toInt ∧ a_.toInt < 7) mdB n4B (zPl cr1_ inn1_ k11_) - n4B); omega) (fun r_136 b1 H locs hw G => ?_)
              refine zAn2 hw ?_
              intro hbs9 h_135
              clear hw
              subst hbs9
              have G : zS T A s.heap s [z0_, wwA, wt, [zO10 xo t im mk rd po co tr wa wb_ fi cd], z1_, [zO0 wb_ m2_89 wy2_90 l1 pc2_91 a1_103 a2_104 a3_105 a4_106 a5_107 a6_108, zAr T 0 a1_103 7 g1_92, zAr T 0 a2_104 7 g2_93, zAr T 0 a3_105 7 f3B, zAr T 0 a4_106 (zMk mdB n4B (zPl cr1_ inn1_ k11_)) g4_94, zAr T 0 a5_107 (zMk mdB n4B (zPl cr1_ inn1_ k11_)) g5_95, zAr T 0 a6_108 (zMk mdB n4B (zPl cr1_ inn1_ k11_)) g6_96]] _ _ := G
              subst h_135
              refine lv_topi (fun y_137 ey_137 => ?_)
              obtain rfl : y_137 = (rWh (aW cr1_ inn1_ k11_) k21_ i a_) := ey_137.trans (hE9.1)
              refine z_Vi (bc := [z1_]) (br := [z0_, wwA, wt, [zO10 xo t im mk rd po co tr wa wb_ fi cd], [zO0 wb_ m2_89 wy2_90 l1 pc2_91 a1_103 a2_104 a3_105 a4_106 a5_107 a6_108, zAr T 0 a1_103 7 g1_92, zAr T 0 a2_104 7 g2_93, zAr T 0 a3_105 7 f3B, zAr T 0 a4_106 (zMk mdB n4B (zPl cr1_ inn1_ k11_)) g4_94, zAr T 0 a5_107 (zMk mdB n4B (zPl cr1_ inn1_ k11_)) g5_95, zAr T 0 a6_108 (zMk mdB n4B (zPl cr1_ inn1_ k11_)) g6_96]]) (As := [.int (rWh (aW cr1_ inn1_ k11_) k21_ i a_)]) (rest := []) C G (c_isInn l T l1 cr1_ inn1_ k11_ k21_ k31_ k41_ z1_ (rWh (aW cr1_ inn1_ k11_) k21_ i a_) hz1_) (kV_RX11_174 C.2.2.2.2 (Nat.le_of_ble_eq_true rfl) (Nat.le_of_ble_eq_true rfl)) [4] [4] rfl rfl (ci := 4) (qc := (RX4, TX4, 6)) rfl rfl (List.mem_flatten.mpr ⟨_, List.mem_of_getElem? (i := 0) rfl, (bLand_mem hz1_).choose_spec⟩) rfl rfl hl.1 dX11_longest_113 (Nat.le_of_ble_eq_true rfl) (by show _ + 0 ≤ 6 * (zNA (i1.toInt = 0 ∧ 0 < (fk 0).toInt ∧ 0 ≤ a_.toInt ∧ a_.toInt < cr0_.toInt ∧ a_.toInt < 7) mdA n4A (zPl cr0_ inn0_ k10_) - n4A) + 6 * (zNA (i1.toInt = 1 ∧ 1 < (fk 0).toInt ∧ 0 ≤ a_.toInt ∧ a_.toInt < cr1_.toInt ∧ a_.toInt < 7) mdB n4B (zPl cr1_ inn1_ k11_) - n4B); omega) (fun r_139 b1 H locs hw G => ?_)
              refine zAn2 hw ?_
              intro hbs9 hc_138
              clear hw
              subst hbs9
              have G : zS T A s.heap s [z0_, wwA, wt, [zO10 xo t im mk rd po co tr wa wb_ fi cd], [zO0 wb_ m2_89 wy2_90 l1 pc2_91 a1_103 a2_104 a3_105 a4_106 a5_107 a6_108, zAr T 0 a1_103 7 g1_92, zAr T 0 a2_104 7 g2_93, zAr T 0 a3_105 7 f3B, zAr T 0 a4_106 (zMk mdB n4B (zPl cr1_ inn1_ k11_)) g4_94, zAr T 0 a5_107 (zMk mdB n4B (zPl cr1_ inn1_ k11_)) g5_95, zAr T 0 a6_108 (zMk mdB n4B (zPl cr1_ inn1_ k11_)) g6_96], z1_] _ _ := G
              rcases hc_138 with ⟨rfl, h_140, h_141, h_142, h_143⟩ | ⟨rfl, h_144⟩
              · have h_140 : 0 ≤ (rWh (aW cr1_ inn1_ k11_) k21_ i a_).toInt := h_140
                have h_141 : (rWh (aW cr1_ inn1_ k11_) k21_ i a_).toInt < cr1_.toInt := h_141
                have h_142 : (rWh (aW cr1_ inn1_ k11_) k21_ i a_).toInt < 7 := h_142
                have h_143 : ¬ zBit inn1_ (rWh (aW cr1_ inn1_ k11_) k21_ i a_) = 0 := h_143
                have hyi := zBit_p h_143
                refine lv_if_eq (tgt := 127) hx hb dX11_longest_116 (by decide) (fun q => absurd q (by decide)) (fun _ => ?_)
                refine lv_iload hx hb dX11_longest_119 (lv_at hl 1 rfl) ?_
                refine lv_istore (lv' := [(7, .int (nI (rStp (aW cr1_ inn1_ k11_) k21_ i a_))), (11, .int 1), (10, .int (nI (rStp (aW cr1_ inn1_ k11_) k21_ i a_))), (9, .int (nI i)), (8, .int b8), (6, .ref wb_), (5, .ref l1), (0, .ref xo), (1, .int i1), (2, .int a_), (3, .int w_), (4, .int q_)]) hx hb dX11_longest_121 hl (by decide) (zLvf_h rfl) (fun ls hl => ?_)
                refine lv_iload hx hb dX11_longest_123 (lv_at hl 3 rfl) ?_
                refine lv_istore (lv' := [(8, .int (nI i)), (7, .int (nI (rStp (aW cr1_ inn1_ k11_) k21_ i a_))), (11, .int 1), (10, .int (nI (rStp (aW cr1_ inn1_ k11_) k21_ i a_))), (9, .int (nI i)), (6, .ref wb_), (5, .ref l1), (0, .ref xo), (1, .int i1), (2, .int a_), (3, .int w_), (4, .int q_)]) hx hb dX11_longest_125 hl (by decide) (zLvf_h rfl) (fun ls hl => ?_)
                have hbs9 := (rBg_s (c := (fun w => decide (zBit inn1_ (rWh (aW cr1_ inn1_ k11_) k21_ w a_) = 1))) (g := (fun w => rStp (aW cr1_ inn1_ k11_) k21_ w a_)) (s := w_) (fun v => Nat.lt_of_le_of_lt rStp_le (by decide)) (by omega) hbb hbw).1 (decide_eq_true hyi) (by omega)
                refine lv_iinc (v := nI (i + 1)) (lv' := [(9, .int (nI (i + 1))), (8, .int (nI i)), (7, .int (nI (rStp (aW cr1_ inn1_ k11_) k21_ i a_))), (11, .int 1), (10, .int (nI (rStp (aW cr1_ inn1_ k11_) k21_ i a_))), (6, .ref wb_), (5, .ref l1), (0, .ref xo), (1, .int i1), (2, .int a_), (3, .int w_), (4, .int q_)]) hx hb dX11_longest_127 hl (k := 4) rfl (z_inc i 1) (by decide) (zLvf_h rfl) (fun ls hl => ?_)
                refine lv_goto (tgt := 44) hx hb dX11_longest_130 (by decide) ?_
                exact ih_44 (i + 1) (nI (rStp (aW cr1_ inn1_ k11_) k21_ i a_)) (nI i) (show (i + 1) ≤ aPr (aW cr1_ inn1_ k11_) 7 ∧ (nI (rStp (aW cr1_ inn1_ k11_) k21_ i a_)) = (rBg (fun w => decide (zBit inn1_ (rWh (aW cr1_ inn1_ k11_) k21_ w a_) = 1)) (fun w => rStp (aW cr1_ inn1_ k11_) k21_ w a_) w_ (i + 1)).2 ∧ (nI i) = (rBg (fun w => decide (zBit inn1_ (rWh (aW cr1_ inn1_ k11_) k21_ w a_) = 1)) (fun w => rStp (aW cr1_ inn1_ k11_) k21_ w a_) w_ (i + 1)).1 from ⟨(by omega), hbs9.1, hbs9.2⟩) (show aPr (aW cr1_ inn1_ k11_) 7 - (i + 1) < aPr (aW cr1_ inn1_ k11_) 7 - i from by omega) _ _ ls G (lv_sub hl [0, 1, 2, 5, 6, 7, 8, 9, 10, 11] rfl)
              · have h_144 : ((rWh (aW cr1_ inn1_ k11_) k21_ i a_).toInt < 0 ∨ cr1_.toInt ≤ (rWh (aW cr1_ inn1_ k11_) k21_ i a_).toInt ∨ 7 ≤ (rWh (aW cr1_ inn1_ k11_) k21_ i a_).toInt ∨ zBit inn1_ (rWh (aW cr1_ inn1_ k11_) k21_ i a_) = 0) := h_144
                have hni : ¬ zBit inn1_ (rWh (aW cr1_ inn1_ k11_) k21_ i a_) = 1 := by rcases h_144 with e9 | e9 | e9 | e9 <;> first | (exfalso; omega) | exact fun q9 => zBit_o q9 e9
                refine lv_if_eq (tgt := 127) hx hb dX11_longest_116 (by decide) (fun _ => ?_) (fun q => absurd (by decide) q)
                have hbs9 := (rBg_s (c := (fun w => decide (zBit inn1_ (rWh (aW cr1_ inn1_ k11_) k21_ w a_) = 1))) (g := (fun w => rStp (aW cr1_ inn1_ k11_) k21_ w a_)) (s := w_) (fun v => Nat.lt_of_le_of_lt rStp_le (by decide)) (by omega) hbb hbw).2 (fun q8 => by first | exact hni (of_decide_eq_true q8.1) | (have q7 := q8.2; omega))
                refine lv_iinc (v := nI (i + 1)) (lv' := [(9, .int (nI (i + 1))), (11, .int 1), (10, .int (nI (rStp (aW cr1_ inn1_ k11_) k21_ i a_))), (8, .int b8), (7, .int b7), (6, .ref wb_), (5, .ref l1), (0, .ref xo), (1, .int i1), (2, .int a_), (3, .int w_), (4, .int q_)]) hx hb dX11_longest_127 hl (k := 2) rfl (z_inc i 1) (by decide) (zLvf_h rfl) (fun ls hl => ?_)
                refine lv_goto (tgt := 44) hx hb dX11_longest_130 (by decide) ?_
                exact ih_44 (i + 1) b7 b8 (show (i + 1) ≤ aPr (aW cr1_ inn1_ k11_) 7 ∧ b7 = (rBg (fun w => decide (zBit inn1_ (rWh (aW cr1_ inn1_ k11_) k21_ w a_) = 1)) (fun w => rStp (aW cr1_ inn1_ k11_) k21_ w a_) w_ (i + 1)).2 ∧ b8 = (rBg (fun w => decide (zBit inn1_ (rWh (aW cr1_ inn1_ k11_) k21_ w a_) = 1)) (fun w => rStp (aW cr1_ inn1_ k11_) k21_ w a_) w_ (i + 1)).1 from ⟨(by omega), hbs9.1, hbs9.2⟩) (show aPr (aW cr1_ inn1_ k11_) 7 - (i + 1) < aPr (aW cr1_ inn1_ k11_) 7 - i from by omega) _ _ ls G (lv_sub hl [0, 3, 4, 5, 6, 7, 8, 9, 10, 11] rfl)
          · have c_133n : ¬ w_.toInt = (0 : Int) := fun q => c_133 ((fa_eq _ _).mpr q)
            refine lv_iload hx hb dX11_longest_74 (lv_at hl 0 rfl) ?_
            refine lv_iload hx hb dX11_longest_76 (lv_at hl 3 rfl) ?_
            refine lv_icmp_ge (tgt := 95) hx hb dX11_longest_78 (by decide) (fun c_145 => ?_) (fun c_145 => ?_)
            · have c_145n : b7.toInt ≤ ((rStp (aW cr1_ inn1_ k11_) k21_ i a_) : Int) := by have q := (fa_le _ _).mp c_145; rw [nI_toInt (n := rStp (aW cr1_ inn1_ k11_) k21_ i a_) (by omega)] at q; exact q
              refine lv_iconst (v := 0) hx hb dX11_longest_95 (by decide) ?_
              refine lv_istore (lv' := [(11, .int 0), (10, .int (nI (rStp (aW cr1_ inn1_ k11_) k21_ i a_))), (9, .int (nI i)), (8, .int b8), (7, .int b7), (6, .ref wb_), (5, .ref l1), (0, .ref xo), (1, .int i1), (2, .int a_), (3, .int w_), (4, .int q_)]) hx hb dX11_longest_96 hl (by decide) (zLvf_h rfl) (fun ls hl => ?_)
              refine lv_iload hx hb dX11_longest_98 (lv_at hl 0 rfl) ?_
              refine lv_if_eq (tgt := 127) hx hb dX11_longest_100 (by decide) (fun _ => ?_) (fun q => absurd (by decide) q)
              have hbs9 := (rBg_s (c := (fun w => decide (zBit inn1_ (rWh (aW cr1_ inn1_ k11_) k21_ w a_) = 1))) (g := (fun w => rStp (aW cr1_ inn1_ k11_) k21_ w a_)) (s := w_) (fun v => Nat.lt_of_le_of_lt rStp_le (by decide)) (by omega) hbb hbw).2 (fun q8 => by first | exact hni (of_decide_eq_true q8.1) | (have q7 := q8.2; omega))
              refine lv_iinc (v := nI (i + 1)) (lv' := [(9, .int (nI (i + 1))), (11, .int 0), (10, .int (nI (rStp (aW cr1_ inn1_ k11_) k21_ i a_))), (8, .int b8), (7, .int b7), (6, .ref wb_), (5, .ref l1), (0, .ref xo), (1, .int i1), (2, .int a_), (3, .int w_), (4, .int q_)]) hx hb dX11_longest_127 hl (k := 2) rfl (z_inc i 1) (by decide) (zLvf_h rfl) (fun ls hl => ?_)
              refine lv_goto (tgt := 44) hx hb dX11_longest_130 (by decide) ?_
              have G := G.sub (bs' := [z0_, wwA, wt, [zO10 xo t im mk rd po co tr wa wb_ fi cd], [zO0 wb_ m2_89 wy2_90 l1 pc2_91 a1_103 a2_104 a3_105 a4_106 a5_107 a6_108, zAr T 0 a1_103 7 g1_92, zAr T 0 a2_104 7 g2_93, zAr T 0 a3_105 7 f3B, zAr T 0 a4_106 (zMk mdB n4B (zPl cr1_ inn1_ k11_)) g4_94, zAr T 0 a5_107 (zMk mdB n4B (zPl cr1_ inn1_ k11_)) g5_95, zAr T 0 a6_108 (zMk mdB n4B (zPl cr1_ inn1_ k11_)) g6_96], z1_]) [0, 1, 2, 3, 5, 4] rfl
              exact ih_44 (i + 1) b7 b8 (show (i + 1) ≤ aPr (aW cr1_ inn1_ k11_) 7 ∧ b7 = (rBg (fun w => decide (zBit inn1_ (rWh (aW cr1_ inn1_ k11_) k21_ w a_) = 1)) (fun w => rStp (aW cr1_ inn1_ k11_) k21_ w a_) w_ (i + 1)).2 ∧ b8 = (rBg (fun w => decide (zBit inn1_ (rWh (aW cr1_ inn1_ k11_) k21_ w a_) = 1)) (fun w => rStp (aW cr1_ inn1_ k11_) k21_ w a_) w_ (i + 1)).1 from ⟨(by omega), hbs9.1, hbs9.2⟩) (show aPr (aW cr1_ inn1_ k11_) 7 - (i + 1) < aPr (aW cr1_ inn1_ k11_) 7 - i from by omega) _ _ ls G (lv_sub hl [0, 3, 4, 5, 6, 7, 8, 9, 10, 11] rfl)
            · have c_145n : ¬ b7.toInt ≤ ((rStp (aW cr1_ inn1_ k11_) k21_ i a_) : Int) := fun q => c_145 ((fa_le _ _).mpr (by rw [nI_toInt (n := rStp (aW cr1_ inn1_ k11_) k21_ i a_) (by omega)]; exact q))
              refine lv_goto (tgt := 91) hx hb dX11_longest_81 (by decide) ?_
              refine lv_iconst (v := 1) hx hb dX11_longest_91 (by decide) ?_
              refine lv_goto (tgt := 96) hx hb dX11_longest_92 (by decide) ?_
              refine lv_istore (lv' := [(11, .int 1), (10, .int (nI (rStp (aW cr1_ inn1_ k11_) k21_ i a_))), (9, .int (nI i)), (8, .int b8), (7, .int b7), (6, .ref wb_), (5, .ref l1), (0, .ref xo), (1, .int i1), (2, .int a_), (3, .int w_), (4, .int q_)]) hx hb dX11_longest_96 hl (by decide) (zLvf_h rfl) (fun ls hl => ?_)
              refine lv_iload hx hb dX11_longest_98 (lv_at hl 0 rfl) ?_
              refine lv_if_eq (tgt := 127) hx hb dX11_longest_100 (by decide) (fun q => absurd q (by decide)) (fun _ => ?_)
              refine lv_aload hx hb dX11_longest_103 (lv_at hl 6 rfl) ?_
              refine lv_aload hx hb dX11_longest_105 (lv_at hl 5 rfl) ?_
              refine lv_iload hx hb dX11_longest_107 (lv_at hl 2 rfl) ?_
              refine lv_iload_n hx hb dX11_longest_109 rfl (lv_at hl 9 rfl) ?_
              refine z_Vi (bc := [[zO0 wb_ m2_89 wy2_90 l1 pc2_91 a1_103 a2_104 a3_105 a4_106 a5_107 a6_108, zAr T 0 a1_103 7 g1_92, zAr T 0 a2_104 7 g2_93, zAr T 0 a3_105 7 f3B, zAr T 0 a4_106 (zMk mdB n4B (zPl cr1_ inn1_ k11_)) g4_94, zAr T 0 a5_107 (zMk mdB n4B (zPl cr1_ inn1_ k11_)) g5_95, zAr T 0 a6_108 (zMk mdB n4B (zPl cr1_ inn1_ k11_)) g6_96]]) (br := [z0_, wwA, wt, [zO10 xo t im mk rd po co tr wa wb_ fi cd], z1_]) (As := [.int (nI i), .int a_]) (rest := [.ref l1]) C G (c_where l T wb_ l1 m2_89 wy2_90 pc2_91 g1_92 g2_93 f3B g4_94 g5_95 g6_96 (zMk mdB n4B (zPl cr1_ inn1_ k11_)) ([zO0 wb_ m2_89 wy2_90 l1 pc2_91 a1_103 a2_104 a3_105 a4_106 a5_107 a6_108, zAr T 0 a1_103 7 g1_92, zAr T 0 a2_104 7 g2_93, zAr T 0 a3_105 7 f3B, zAr T 0 a4_106 (zMk mdB n4B (zPl cr1_ inn1_ k11_)) g4_94, zAr T 0 a5_107 (zMk mdB n4B (zPl cr1_ inn1_ k11_)) g5_95, zAr T 0 a6_108 (zMk mdB n4B (zPl cr1_ inn1_ k11_)) g6_96]) (nI i) a_ hw_118 (by first | with_reducible assumption | with_reducible rfl | omega | assumption | rfl)) (kV_RX11_260 C.2.2.2.2 (Nat.le_of_ble_eq_true rfl) (Nat.le_of_ble_eq_true rfl)) [5] [5] rfl rfl (ci := 0) (qc := (RX0, TX0, 10)) rfl rfl (List.mem_flatten.mpr ⟨_, List.mem_of_getElem? (i := 0) rfl, (bWays_mem hw_118).choose_spec⟩) rfl rfl hl.1 dX11_longest_110 (Nat.le_of_ble_eq_true rfl) (by show _ + 0 ≤ 6 * (zNA (i1.toInt = 0 ∧ 0 < (fk 0).toInt ∧ 0 ≤ a_.toInt ∧ a_.toInt < cr0_.toInt ∧ a_.toInt < 7) mdA n4A (zPl cr0_ inn0_ k10_) - n4A) + 6 * (zNA (i1.toInt = 1 ∧ 1 < (fk 0).toInt ∧ 0 ≤ a_.toInt ∧ a_.toInt < cr1_.toInt ∧ a_.toInt < 7) mdB n4B (zPl cr1_ inn1_ k11_) - n4B); omega) (fun r_147 b1 H locs hw G => ?_)
              refine zAn2 hw ?_
              intro hbs9 h_146
              clear hw
              subst hbs9
              have G : zS T A s.heap s [z0_, wwA, wt, [zO10 xo t im mk rd po co tr wa wb_ fi cd], z1_, [zO0 wb_ m2_89 wy2_90 l1 pc2_91 a1_103 a2_104 a3_105 a4_106 a5_107 a6_108, zAr T 0 a1_103 7 g1_92, zAr T 0 a2_104 7 g2_93, zAr T 0 a3_105 7 f3B, zAr T 0 a4_106 (zMk mdB n4B (zPl cr1_ inn1_ k11_)) g4_94, zAr T 0 a5_107 (zMk mdB n4B (zPl cr1_ inn1_ k11_)) g5_95, zAr T 0 a6_108 (zMk mdB n4B (zPl cr1_ inn1_ k11_)) g6_96]] _ _ := G
              subst h_146
              refine lv_topi (fun y_148 ey_148 => ?_)
              obtain rfl : y_148 = (rWh (aW cr1_ inn1_ k11_) k21_ i a_) := ey_148.trans (hE9.1)
              refine z_Vi (bc := [z1_]) (br := [z0_, wwA, wt, [zO10 xo t im mk rd po co tr wa wb_ fi cd], [zO0 wb_ m2_89 wy2_90 l1 pc2_91 a1_103 a2_104 a3_105 a4_106 a5_107 a6_108, zAr T 0 a1_103 7 g1_92, zAr T 0 a2_104 7 g2_93, zAr T 0 a3_105 7 f3B, zAr T 0 a4_106 (zMk mdB n4B (zPl cr1_ inn1_ k11_)) g4_94, zAr T 0 a5_107 (zMk mdB n4B (zPl cr1_ inn1_ k11_)) g5_95, zAr T 0 a6_108 (zMk mdB n4B (zPl cr1_ inn1_ k11_)) g6_96]]) (As := [.int (rWh (aW cr1_ inn1_ k11_) k21_ i a_)]) (rest := []) C G (c_isInn l T l1 cr1_ inn1_ k11_ k21_ k31_ k41_ z1_ (rWh (aW cr1_ inn1_ k11_) k21_ i a_) hz1_) (kV_RX11_174 C.2.2.2.2 (Nat.le_of_ble_eq_true rfl) (Nat.le_of_ble_eq_true rfl)) [4] [4] rfl rfl (ci := 4) (qc := (RX4, TX4, 6)) rfl rfl (List.mem_flatten.mpr ⟨_, List.mem_of_getElem? (i := 0) rfl, (bLand_mem hz1_).choose_spec⟩) rfl rfl hl.1 dX11_longest_113 (Nat.le_of_ble_eq_true rfl) (by show _ + 0 ≤ 6 * (zNA (i1.toInt = 0 ∧ 0 < (fk 0).toInt ∧ 0 ≤ a_.toInt ∧ a_.toInt < cr0_.toInt ∧ a_.toInt < 7) mdA n4A (zPl cr0_ inn0_ k10_) - n4A) + 6 * (zNA (i1.toInt = 1 ∧ 1 < (fk 0).toInt ∧ 0 ≤ a_.toInt ∧ a_.toInt < cr1_.toInt ∧ a_.toInt < 7) mdB n4B (zPl cr1_ inn1_ k11_) - n4B); omega) (fun r_150 b1 H locs hw G => ?_)
              refine zAn2 hw ?_
              intro hbs9 hc_149
              clear hw
              subst hbs9
              have G : zS T A s.heap s [z0_, wwA, wt, [zO10 xo t im mk rd po co tr wa wb_ fi cd], [zO0 wb_ m2_89 wy2_90 l1 pc2_91 a1_103 a2_104 a3_105 a4_106 a5_107 a6_108, zAr T 0 a1_103 7 g1_92, zAr T 0 a2_104 7 g2_93, zAr T 0 a3_105 7 f3B, zAr T 0 a4_106 (zMk mdB n4B (zPl cr1_ inn1_ k11_)) g4_94, zAr T 0 a5_107 (zMk mdB n4B (zPl cr1_ inn1_ k11_)) g5_95, zAr T 0 a6_108 (zMk mdB n4B (zPl cr1_ inn1_ k11_)) g6_96], z1_] _ _ := G
              rcases hc_149 with ⟨rfl, h_151, h_152, h_153, h_154⟩ | ⟨rfl, h_155⟩
              · have h_151 : 0 ≤ (rWh (aW cr1_ inn1_ k11_) k21_ i a_).toInt := h_151
                have h_152 : (rWh (aW cr1_ inn1_ k11_) k21_ i a_).toInt < cr1_.toInt := h_152
                have h_153 : (rWh (aW cr1_ inn1_ k11_) k21_ i a_).toInt < 7 := h_153
                have h_154 : ¬ zBit inn1_ (rWh (aW cr1_ inn1_ k11_) k21_ i a_) = 0 := h_154
                have hyi := zBit_p h_154
                refine lv_if_eq (tgt := 127) hx hb dX11_longest_116 (by decide) (fun q => absurd q (by decide)) (fun _ => ?_)
                refine lv_iload hx hb dX11_longest_119 (lv_at hl 1 rfl) ?_
                refine lv_istore (lv' := [(7, .int (nI (rStp (aW cr1_ inn1_ k11_) k21_ i a_))), (11, .int 1), (10, .int (nI (rStp (aW cr1_ inn1_ k11_) k21_ i a_))), (9, .int (nI i)), (8, .int b8), (6, .ref wb_), (5, .ref l1), (0, .ref xo), (1, .int i1), (2, .int a_), (3, .int w_), (4, .int q_)]) hx hb dX11_longest_121 hl (by decide) (zLvf_h rfl) (fun ls hl => ?_)
                refine lv_iload hx hb dX11_longest_123 (lv_at hl 3 rfl) ?_
                refine lv_istore (lv' := [(8, .int (nI i)), (7, .int (nI (rStp (aW cr1_ inn1_ k11_) k21_ i a_))), (11, .int 1), (10, .int (nI (rStp (aW cr1_ inn1_ k11_) k21_ i a_))), (9, .int (nI i)), (6, .ref wb_), (5, .ref l1), (0, .ref xo), (1, .int i1), (2, .int a_), (3, .int w_), (4, .int q_)]) hx hb dX11_longest_125 hl (by decide) (zLvf_h rfl) (fun ls hl => ?_)
                have hbs9 := (rBg_s (c := (fun w => decide (zBit inn1_ (rWh (aW cr1_ inn1_ k11_) k21_ w a_) = 1))) (g := (fun w => rStp (aW cr1_ inn1_ k11_) k21_ w a_)) (s := w_) (fun v => Nat.lt_of_le_of_lt rStp_le (by decide)) (by omega) hbb hbw).1 (decide_eq_true hyi) (by omega)
                refine lv_iinc (v := nI (i + 1)) (lv' := [(9, .int (nI (i + 1))), (8, .int (nI i)), (7, .int (nI (rStp (aW cr1_ inn1_ k11_) k21_ i a_))), (11, .int 1), (10, .int (nI (rStp (aW cr1_ inn1_ k11_) k21_ i a_))), (6, .ref wb_), (5, .ref l1), (0, .ref xo), (1, .int i1), (2, .int a_), (3, .int w_), (4, .int q_)]) hx hb dX11_longest_127 hl (k := 4) rfl (z_inc i 1) (by decide) (zLvf_h rfl) (fun ls hl => ?_)
                refine lv_goto (tgt := 44) hx hb dX11_longest_130 (by decide) ?_
                exact ih_44 (i + 1) (nI (rStp (aW cr1_ inn1_ k11_) k21_ i a_)) (nI i) (show (i + 1) ≤ aPr (aW cr1_ inn1_ k11_) 7 ∧ (nI (rStp (aW cr1_ inn1_ k11_) k21_ i a_)) = (rBg (fun w => decide (zBit inn1_ (rWh (aW cr1_ inn1_ k11_) k21_ w a_) = 1)) (fun w => rStp (aW cr1_ inn1_ k11_) k21_ w a_) w_ (i + 1)).2 ∧ (nI i) = (rBg (fun w => decide (zBit inn1_ (rWh (aW cr1_ inn1_ k11_) k21_ w a_) = 1)) (fun w => rStp (aW cr1_ inn1_ k11_) k21_ w a_) w_ (i + 1)).1 from ⟨(by omega), hbs9.1, hbs9.2⟩) (show aPr (aW cr1_ inn1_ k11_) 7 - (i + 1) < aPr (aW cr1_ inn1_ k11_) 7 - i from by omega) _ _ ls G (lv_sub hl [0, 1, 2, 5, 6, 7, 8, 9, 10, 11] rfl)
              · have h_155 : ((rWh (aW cr1_ inn1_ k11_) k21_ i a_).toInt < 0 ∨ cr1_.toInt ≤ (rWh (aW cr1_ inn1_ k11_) k21_ i a_).toInt ∨ 7 ≤ (rWh (aW cr1_ inn1_ k11_) k21_ i a_).toInt ∨ zBit inn1_ (rWh (aW cr1_ inn1_ k11_) k21_ i a_) = 0) := h_155
                have hni : ¬ zBit inn1_ (rWh (aW cr1_ inn1_ k11_) k21_ i a_) = 1 := by rcases h_155 with e9 | e9 | e9 | e9 <;> first | (exfalso; omega) | exact fun q9 => zBit_o q9 e9
                refine lv_if_eq (tgt := 127) hx hb dX11_longest_116 (by decide) (fun _ => ?_) (fun q => absurd (by decide) q)
                have hbs9 := (rBg_s (c := (fun w => decide (zBit inn1_ (rWh (aW cr1_ inn1_ k11_) k21_ w a_) = 1))) (g := (fun w => rStp (aW cr1_ inn1_ k11_) k21_ w a_)) (s := w_) (fun v => Nat.lt_of_le_of_lt rStp_le (by decide)) (by omega) hbb hbw).2 (fun q8 => by first | exact hni (of_decide_eq_true q8.1) | (have q7 := q8.2; omega))
                refine lv_iinc (v := nI (i + 1)) (lv' := [(9, .int (nI (i + 1))), (11, .int 1), (10, .int (nI (rStp (aW cr1_ inn1_ k11_) k21_ i a_))), (8, .int b8), (7, .int b7), (6, .ref wb_), (5, .ref l1), (0, .ref xo), (1, .int i1), (2, .int a_), (3, .int w_), (4, .int q_)]) hx hb dX11_longest_127 hl (k := 2) rfl (z_inc i 1) (by decide) (zLvf_h rfl) (fun ls hl => ?_)
                refine lv_goto (tgt := 44) hx hb dX11_longest_130 (by decide) ?_
                exact ih_44 (i + 1) b7 b8 (show (i + 1) ≤ aPr (aW cr1_ inn1_ k11_) 7 ∧ b7 = (rBg (fun w => decide (zBit inn1_ (rWh (aW cr1_ inn1_ k11_) k21_ w a_) = 1)) (fun w => rStp (aW cr1_ inn1_ k11_) k21_ w a_) w_ (i + 1)).2 ∧ b8 = (rBg (fun w => decide (zBit inn1_ (rWh (aW cr1_ inn1_ k11_) k21_ w a_) = 1)) (fun w => rStp (aW cr1_ inn1_ k11_) k21_ w a_) w_ (i + 1)).1 from ⟨(by omega), hbs9.1, hbs9.2⟩) (show aPr (aW cr1_ inn1_ k11_) 7 - (i + 1) < aPr (aW cr1_ inn1_ k11_) 7 - i from by omega) _ _ ls G (lv_sub hl [0, 3, 4, 5, 6, 7, 8, 9, 10, 11] rfl)
    · have h_87 : (a_.toInt < 0 ∨ cr1_.toInt ≤ a_.toInt ∨ 7 ≤ a_.toInt) := h_87
      refine lv_if_ne (tgt := 26) hx hb dX11_longest_21 (by decide) (fun q => absurd (by decide) q) (fun _ => ?_)
      refine lv_iconst (v := (-1)) hx hb dX11_longest_24 (by decide) ?_
      have G := G.sub (bs' := [[zO10 xo t im mk rd po co tr wa wb_ fi cd], wt, z0_, z1_, wwA, wwB]) [0, 4, 1, 5, 2, 3] rfl
      exact z_back hQz_ (z_iret C hr hlocks G (Nat.le_of_ble_eq_true rfl) (by omega) dX11_longest_25 ⟨laA, mdA, wyA, pc_A, f1A, f2A, f3A, f4A, f5A, f6A, n4A, wwA, laB, mdB, wyB, pc_B, f1B, f2B, f3B, f4B, f5B, f6B, n4B, wwB, rfl, hwwA, hmdA, hwmA, (by first | exact hNAo.symm | exact (zNA_n (by first | omega | grind)).symm), hpwA, (fun q => q), hTbA, hwwB, hmdB, hwmB, (by first | exact hNAo.symm | exact (zNA_n (by first | omega | grind)).symm), hpwB, (fun q => q), hTbB, (Or.inr (Or.inr ⟨by first | with_reducible assumption | assumption, by first | with_reducible assumption | assumption, (by have q9 := hI1_.1; unfold kLong; rw [if_neg (by omega)])⟩))⟩)

/-- posts behind so many walks from there; where the next one comes; how many of the first ones come to that inn -/
def zPk (S W L : Nat → Int32) (c : Int32) (P : Nat → Int32) : Nat → (Nat → Int32)
  | 0 => P
  | k + 1 => (zRunN S W L 499 (zPk S W L c P k) c 0).1
def zAk (S W L : Nat → Int32) (c : Int32) (P : Nat → Int32) (k : Nat) : Int32 := (zRunN S W L 499 (zPk S W L c P k) c 0).2.1
def zSh (S W L : Nat → Int32) (c : Int32) (P : Nat → Int32) (n : Int32) : Nat → Int32
  | 0 => 0
  | k + 1 => if zAk S W L c P k = n then zSh S W L c P n k + 1 else zSh S W L c P n k
section ZPK
variable {S W L S' W' L' P P' : Nat → Int32} {c : Int32}
theorem zPk_I (hI : zP3 P W) : ∀ k, zP3 (zPk S W L c P k) W
  | 0 => hI
  | k + 1 => zRunN_I _ _ _ _ (zPk_I hI k)
theorem zPk_cg (h2 : ∀ j, j < 7 → S j = S' j) (h3 : ∀ j, j < 7 → W j = W' j) (hl : zLs W L L') (hI : zP3 P W) (h1 : ∀ j, j < 7 → P j = P' j) : ∀ k j, j < 7 → zPk S W L c P k j = zPk S' W' L' c P' k j
  | 0 => h1
  | k + 1 => (zRunN_cg h2 h3 hl 499 _ _ c 0 (zPk_I hI k) (zPk_cg h2 h3 hl hI h1 k)).1
theorem zAk_cg (h2 : ∀ j, j < 7 → S j = S' j) (h3 : ∀ j, j < 7 → W j = W' j) (hl : zLs W L L') (hI : zP3 P W) (h1 : ∀ j, j < 7 → P j = P' j) (k : Nat) : zAk S W L c P k = zAk S' W' L' c P' k := congrArg (fun q => q.1) (zRunN_cg h2 h3 hl 499 _ _ c 0 (zPk_I hI k) (zPk_cg h2 h3 hl hI h1 k)).2
theorem zSh_cg {n : Int32} (h2 : ∀ j, j < 7 → S j = S' j) (h3 : ∀ j, j < 7 → W j = W' j) (hl : zLs W L L') (hI : zP3 P W) (h1 : ∀ j, j < 7 → P j = P' j) : ∀ k, zSh S W L c P n k = zSh S' W' L' c P' n k
  | 0 => rfl
  | k + 1 => by
    unfold zSh
    rw [zAk_cg h2 h3 hl hI h1 k, zSh_cg h2 h3 hl hI h1 k]
end ZPK
abbrev zS0 : Nat → Int32 := fun _ => 0
def kW (cr inn : Int32) (k1 : Nat → Int32) (j : Nat) : Int32 := zWays cr inn k1 (nI j)
def pW (f : Nat → Int32) (z : Int32) : Nat → Int32 := zWo f z (f (z.toInt.toNat + 1))
theorem zLs_rf {W L : Nat → Int32} : zLs W L L := fun _ _ _ _ _ => rfl
/-- the class's rows of a land walk as the record's -/
theorem zLnd_w {cr inn z : Int32} {k1 k2 k3 k4 f : Nat → Int32} {B : Nat} (h : zLnd cr inn k1 k2 k3 k4 (fun j => f (B + j))) (hF : zLF (fun j => f (B + j))) (hz : z.toInt.toNat = B) : (∀ j, j < 7 → kW cr inn k1 j = pW f z j) ∧ zLs (kW cr inn k1) k2 (zLo f z) ∧ (∀ j, j < 7 → k3 j = zPo f z j) ∧ zP3 k3 (kW cr inn k1) ∧ cr = f z.toInt.toNat ∧ inn = f (z.toInt.toNat + 1) := by
  obtain ⟨ha, hab, hi, hd, hx, hr⟩ := h
  obtain ⟨hf0, hf1, hf2⟩ := hF
  have ha : cr = f B := ha
  have hab : 0 ≤ (f B).toInt ∧ (f B).toInt ≤ 7 := hab
  have hi : inn = f (B + 1) := hi
  have hd : ∀ j : Nat, j < 7 → k1 j = f (B + (2 + j)) ∧ k3 j = f (B + (9 + j)) ∧ k4 j = f (B + (16 + j)) := hd
  have hx : ∀ j : Nat, j < 7 → (f B).toInt ≤ (j : Int) → k1 j = 0 := hx
  have hr : ∀ j r : Nat, j < 7 → r < 4 → (r : Int) < (k1 j).toInt → k2 (4 * j + r) = f (B + (23 + 4 * j + r)) := hr
  have hf1 : ∀ c : Nat, c < 7 → (0 ≤ (f (B + (2 + c))).toInt ∧ (f (B + (2 + c))).toInt ≤ 4) ∧ (0 ≤ (f (B + (9 + c))).toInt ∧ (f (B + (9 + c))).toInt ≤ 3) ∧ 0 ≤ (f (B + (16 + c))).toInt ∧ (f (B + (16 + c))).toInt ≤ 9 := hf1
  have hw : ∀ j : Nat, j < 7 → kW cr inn k1 j = if zBit inn (nI j) = 1 then 0 else k1 j := fun j hj => by
    have t := nI_toInt (n := j) (by omega)
    have t2 := nI_clamp (n := j) (by omega)
    have hcr : cr.toInt = (f B).toInt := by rw [ha]
    unfold kW zWays
    by_cases b : zBit inn (nI j) = 1
    · rw [if_pos b, if_neg (fun q => zBit_o b q.2.2.2)]
    · rw [if_neg b]
      by_cases q : (j : Int) < (f B).toInt
      · rw [if_pos ⟨by omega, by omega, by omega, zBit_n b⟩, t2]
      · rw [if_neg (fun q2 => by omega), hx j hj (by omega)]
  have hp : ∀ j, j < 7 → kW cr inn k1 j = pW f z j := fun j hj => by
    rw [hw j hj]
    unfold pW zWo zRo
    rw [hz, ← hi, (hd j hj).1]
  have hk0 : (0 : Int32).toInt = 0 := rfl
  have hk : ∀ j, j < 7 → 0 ≤ (kW cr inn k1 j).toInt ∧ (kW cr inn k1 j).toInt ≤ (k1 j).toInt ∧ (k1 j).toInt ≤ 4 := fun j hj => by
    have q := (hf1 j hj).1
    rw [hw j hj, (hd j hj).1]
    split
    · rw [hk0]; exact ⟨by omega, q.1, q.2⟩
    · exact ⟨q.1, by omega, q.2⟩
  refine ⟨hp, fun j r hj hr4 hq => ?_, fun j hj => ?_, fun j hj => ⟨⟨(hk j hj).1, by have := hk j hj; omega⟩, ?_⟩, by rw [hz]; exact ha, by rw [hz]; exact hi⟩
  · rw [hr j r hj hr4 (by have := hk j hj; omega)]
    unfold zLo
    rw [hz]
    exact congrArg f (by omega)
  · unfold zPo
    rw [hz]
    exact (hd j hj).2.1
  · rw [(hd j hj).2.1]
    have q := (hf1 j hj).2.1
    exact ⟨q.1, by omega⟩
def kCome (cr inn : Int32) (k1 k2 k3 : Nat → Int32) (a k : Int32) : Int32 := if (0 ≤ a.toInt ∧ a.toInt < cr.toInt) ∧ 1 ≤ k.toInt ∧ k.toInt ≤ 99 then zAk zS0 (kW cr inn k1) k2 a k3 (k.toInt.toNat - 1) else -1
def pCome (f : Nat → Int32) (z a k : Int32) : Int32 := if (0 ≤ a.toInt ∧ a.toInt < (f z.toInt.toNat).toInt) ∧ 1 ≤ k.toInt ∧ k.toInt ≤ 99 then zAk zS0 (pW f z) (zLo f z) a (zPo f z) (k.toInt.toNat - 1) else -1
theorem kCome_e {cr inn z a k : Int32} {k1 k2 k3 k4 f : Nat → Int32} {B : Nat} (h : zLnd cr inn k1 k2 k3 k4 (fun j => f (B + j))) (hF : zLF (fun j => f (B + j))) (hz : z.toInt.toNat = B) : kCome cr inn k1 k2 k3 a k = pCome f z a k := by
  obtain ⟨a1, a2, a3, a4, a5, -⟩ := zLnd_w h hF hz
  unfold kCome pCome
  rw [← a5]
  by_cases q : (0 ≤ a.toInt ∧ a.toInt < cr.toInt) ∧ 1 ≤ k.toInt ∧ k.toInt ≤ 99
  · rw [if_pos q, if_pos q]
    exact zAk_cg (fun _ _ => rfl) a1 a2 a4 a3 _
  · rw [if_neg q, if_neg q]
set_option maxHeartbeats 4000000 in
set_option maxRecDepth 100000 in
/-- c_f_come -/
theorem c_f_come (l : Launch) (T : zTy) (xo : Nat) (t : Nat) (im : Nat) (mk : Nat) (rd : Nat) (po : Nat) (co : Nat) (tr : Nat) (wa : Nat) (wb_ : Nat) (fi : Nat) (cd : Nat) (l0 : Nat) (l1 : Nat) (d0 : Nat) (d1 : Nat) (g0 : Nat) (g1 : Nat) (ln : Int32) (fl : Int32) (pl : Int32) (ft : Nat → Int32) (fk : Nat → Int32) (wt : va_W) (cr0_ : Int32) (inn0_ : Int32) (k10_ : Nat → Int32) (k20_ : Nat → Int32) (k30_ : Nat → Int32) (k40_ : Nat → Int32) (z0_ : va_W) (cr1_ : Int32) (inn1_ : Int32) (k11_ : Nat → Int32) (k21_ : Nat → Int32) (k31_ : Nat → Int32) (k41_ : Nat → Int32) (z1_ : va_W) (lp : Nat) (f1 : Nat → Int32) (f2 : Nat → Int32) (f3 : Nat → Int32) (st : Int32) (wh : Int32) (wp : va_W) (i1 : Int32) (a_ : Int32) (k_ : Int32) (ht : bTold T t l0 l1 d0 d1 g0 g1 ln fl pl ft fk wt) (hK : zKT fk) (hz0_ : bLand T l0 cr0_ inn0_ k10_ k20_ k30_ k40_ z0_) (hI0_ : zLI cr0_ k10_ k30_) (hz1_ : bLand T l1 cr1_ inn1_ k11_ k21_ k31_ k41_ z1_) (hI1_ : zLI cr1_ k11_ k31_) (hp : bPosts T po lp f1 f2 f3 st wh wp) : zMi l T yX11_come cX11_come 6 (some .int) 5 0 0 [.ref xo, .int i1, .int a_, .int k_] [[(xo, .inr (10, [.ref t, .ref im, .ref mk, .ref rd, .ref po, .ref co, .ref tr, .ref wa, .ref wb_, .ref fi, .ref cd]))], wt, z0_, z1_, wp] (fun (r : Int32) bs => ∃ (lp_2 : Nat) (f1_2 : Nat → Int32) (f2_2 : Nat → Int32) (f3_2 : Nat → Int32) (st_2 : Int32) (wh_2 : Int32) (wp_2 : va_W), bs = [[(xo, .inr (10, [.ref t, .ref im, .ref mk, .ref rd, .ref po, .ref co, .ref tr, .ref wa, .ref wb_, .ref fi, .ref cd]))], wt, z0_, z1_, wp_2] ∧ bPosts T po lp_2 f1_2 f2_2 f3_2 st_2 wh_2 wp_2 ∧ ((i1.toInt < 0 ∨ (fk 0).toInt ≤ i1.toInt ∨ 2 ≤ i1.toInt) ∧ r = -1 ∨ i1.toInt = 0 ∧ 0 < (fk 0).toInt ∧ r = kCome cr0_ inn0_ k10_ k20_ k30_ a_ k_ ∨ i1.toInt = 1 ∧ 1 < (fk 0).toInt ∧ r = kCome cr1_ inn1_ k11_ k21_ k31_ a_ k_)) := by
  refine zMi_of (own := RX11) (by decide) rfl (Nat.le_of_ble_eq_true rfl) ?_
  intro p e s m args below meth c A ls C hr hlocks hnm hAe G hl
  have hx := C.1
  have hb := C.2.1
  have hl : lv_has ls 6 [(0, .ref xo), (1, .int i1), (2, .int a_), (3, .int k_)] := hl
  refine lv_aload_n hx hb dX11_come_0 rfl (lv_at hl 0 rfl) ?_
  refine z_get C G clX11 0 rfl 0 (by decide) m_fl_RX11_10 rfl dX11_come_1 ?_
  refine lv_iload_n hx hb dX11_come_4 rfl (lv_at hl 1 rfl) ?_
  refine z_Vq (bc := [wt]) (br := [[(xo, .inr (10, [.ref t, .ref im, .ref mk, .ref rd, .ref po, .ref co, .ref tr, .ref wa, .ref wb_, .ref fi, .ref cd]))], z0_, z1_, wp]) (As := [.int i1]) (rest := []) C G (c_landAt l T t l0 l1 d0 d1 g0 g1 ln fl pl ft fk wt i1 ht) (kV_RX11_121 C.2.2.2.2 (Nat.le_of_ble_eq_true rfl) (Nat.le_of_ble_eq_true rfl)) [1] [0, 2, 3, 4] rfl rfl (ci := 8) (qc := (RX9, TX9, 8)) rfl rfl (List.mem_flatten.mpr ⟨_, List.mem_of_getElem? (i := 0) rfl, (bTold_mem ht).choose_spec⟩) rfl rfl hl.1 dX11_come_5 (Nat.le_of_ble_eq_true rfl) (Nat.le_of_ble_eq_true rfl) (fun r_2 b1 H locs hw G => ?_)
  obtain ⟨rfl, hc_1⟩ := hw
  have G : zS T A s.heap s [[(xo, .inr (10, [.ref t, .ref im, .ref mk, .ref rd, .ref po, .ref co, .ref tr, .ref wa, .ref wb_, .ref fi, .ref cd]))], z0_, z1_, wp, wt] _ _ := G
  rcases hc_1 with ⟨rfl, h_3⟩ | ⟨rfl, h_4, h_5⟩ | ⟨rfl, h_6, h_7⟩
  · have h_3 : (i1.toInt < 0 ∨ (fk 0).toInt ≤ i1.toInt ∨ 2 ≤ i1.toInt) := h_3
    refine lv_astoreN (lv' := [(4, .null), (0, .ref xo), (1, .int i1), (2, .int a_), (3, .int k_)]) hx hb dX11_come_8 hl (by decide) rfl (fun ls hl => ?_)
    refine lv_aloadN hx hb dX11_come_10 (lv_at hl 0 rfl) ?_
    refine lv_ifnullN (tgt := 35) hx hb dX11_come_12 (by decide) ?_
    refine lv_iconst (v := (-1)) hx hb dX11_come_35 (by decide) ?_
    have G := G.sub (bs' := [[(xo, .inr (10, [.ref t, .ref im, .ref mk, .ref rd, .ref po, .ref co, .ref tr, .ref wa, .ref wb_, .ref fi, .ref cd]))], wt, z0_, z1_, wp]) [0, 4, 1, 2, 3] rfl
    exact z_iret C hr hlocks G (Nat.le_of_ble_eq_true rfl) (Nat.le_of_ble_eq_true rfl) dX11_come_36 ⟨lp, f1, f2, f3, st, wh, wp, rfl, hp, (Or.inl ⟨by assumption, rfl⟩)⟩
  · have h_4 : i1.toInt = 0 := h_4
    have h_5 : 0 < (fk 0).toInt := h_5
    refine lv_astore (lv' := [(4, .ref l0), (0, .ref xo), (1, .int i1), (2, .int a_), (3, .int k_)]) hx hb dX11_come_8 hl (by decide) rfl (fun ls hl => ?_)
    refine lv_aload hx hb dX11_come_10 (lv_at hl 0 rfl) ?_
    refine lv_ifnull hx hb dX11_come_12 ?_
    refine lv_aload hx hb dX11_come_15 (lv_at hl 0 rfl) ?_
    refine lv_iload_n hx hb dX11_come_17 rfl (lv_at hl 3 rfl) ?_
    refine z_Vi (bc := [z0_]) (br := [[(xo, .inr (10, [.ref t, .ref im, .ref mk, .ref rd, .ref po, .ref co, .ref tr, .ref wa, .ref wb_, .ref fi, .ref cd]))], z1_, wp, wt]) (As := [.int a_]) (rest := []) C G (c_has l T l0 cr0_ inn0_ k10_ k20_ k30_ k40_ z0_ a_ hz0_) (kV_RX11_160 C.2.2.2.2 (Nat.le_of_ble_eq_true rfl) (Nat.le_of_ble_eq_true rfl)) [1] [0, 2, 3, 4] rfl rfl (ci := 4) (qc := (RX4, TX4, 6)) rfl rfl (List.mem_flatten.mpr ⟨_, List.mem_of_getElem? (i := 0) rfl, (bLand_mem hz0_).choose_spec⟩) rfl rfl hl.1 dX11_come_18 (Nat.le_of_ble_eq_true rfl) (Nat.le_of_ble_eq_true rfl) (fun r_9 b1 H locs hw G => ?_)
    obtain ⟨rfl, hc_8⟩ := hw
    have G : zS T A s.heap s [[(xo, .inr (10, [.ref t, .ref im, .ref mk, .ref rd, .ref po, .ref co, .ref tr, .ref wa, .ref wb_, .ref fi, .ref cd]))], z1_, wp, wt, z0_] _ _ := G
    rcases hc_8 with ⟨rfl, h_10, h_11, h_12⟩ | ⟨rfl, h_13⟩
    · have h_10 : 0 ≤ a_.toInt := h_10
      have h_11 : a_.toInt < cr0_.toInt := h_11
      have h_12 : a_.toInt < 7 := h_12
      refine lv_if_eq (tgt := 35) hx hb dX11_come_21 (by decide) (fun q => absurd q (by decide)) (fun _ => ?_)
      refine lv_iload_n hx hb dX11_come_24 rfl (lv_at hl 4 rfl) ?_
      refine lv_iconst (v := 1) hx hb dX11_come_25 (by decide) ?_
      refine lv_icmp_lt (tgt := 35) hx hb dX11_come_26 (by decide) (fun c_14 => ?_) (fun c_14 => ?_)
      · have c_14n : k_.toInt < (1 : Int) := (fa_lt _ _).mp c_14
        refine lv_iconst (v := (-1)) hx hb dX11_come_35 (by decide) ?_
        have G := G.sub (bs' := [[(xo, .inr (10, [.ref t, .ref im, .ref mk, .ref rd, .ref po, .ref co, .ref tr, .ref wa, .ref wb_, .ref fi, .ref cd]))], wt, z0_, z1_, wp]) [0, 3, 4, 1, 2] rfl
        exact z_iret C hr hlocks G (Nat.le_of_ble_eq_true rfl) (Nat.le_of_ble_eq_true rfl) dX11_come_36 ⟨lp, f1, f2, f3, st, wh, wp, rfl, hp, (Or.inr (Or.inl ⟨by assumption, by assumption, (by have q9 := hI0_.1; unfold kCome; rw [if_neg (by omega)])⟩))⟩
      · have c_14n : ¬ k_.toInt < (1 : Int) := fun q => c_14 ((fa_lt _ _).mpr q)
        refine lv_iload_n hx hb dX11_come_29 rfl (lv_at hl 4 rfl) ?_
        refine lv_bipush (v := 99) hx hb dX11_come_30 (by decide) ?_
        refine lv_icmp_le (tgt := 37) hx hb dX11_come_32 (by decide) (fun c_15 => ?_) (fun c_15 => ?_)
        · have c_15n : k_.toInt ≤ (99 : Int) := (fa_le _ _).mp c_15
          refine lv_aload_n hx hb dX11_come_37 rfl (lv_at hl 1 rfl) ?_
          refine z_get C G clX11 0 rfl 4 (by decide) m_fl_RX11_34 rfl dX11_come_38 ?_
          refine lv_aload hx hb dX11_come_41 (lv_at hl 0 rfl) ?_
          refine z_Vv (bc := [wp, z0_]) (br := [[(xo, .inr (10, [.ref t, .ref im, .ref mk, .ref rd, .ref po, .ref co, .ref tr, .ref wa, .ref wb_, .ref fi, .ref cd]))], z1_, wt]) (As := [.ref l0]) (rest := []) C G (c_Posts_begin l T po lp f1 f2 f3 st wh wp l0 cr0_ inn0_ k10_ k20_ k30_ k40_ z0_ hp hz0_) (kV_RX11_205 C.2.2.2.2 (Nat.le_of_ble_eq_true rfl) (Nat.le_of_ble_eq_true rfl)) [2, 4] [0, 1, 3] rfl rfl (ci := 6) (qc := (RX6, TX6, 6)) rfl rfl (List.mem_flatten.mpr ⟨_, List.mem_of_getElem? (i := 0) rfl, (bPosts_mem hp).choose_spec⟩) rfl rfl hl.1 dX11_come_43 (Nat.le_of_ble_eq_true rfl) (Nat.le_of_ble_eq_true rfl) (fun b1 H locs hw G => ?_)
          obtain ⟨w2_16, g1_17, g2_18, g3_19, rfl, h_20, h_21, h_22, h_23⟩ := hw
          have G : zS T A s.heap s [[(xo, .inr (10, [.ref t, .ref im, .ref mk, .ref rd, .ref po, .ref co, .ref tr, .ref wa, .ref wb_, .ref fi, .ref cd]))], z1_, wt, w2_16, z0_] _ _ := G
          have hQ : zP3 g1_17 g3_19 := z_P3 hI0_ h_21 h_23
          refine lv_iconst (v := 0) hx hb dX11_come_46 (by decide) ?_
          refine lv_istore (lv' := [(5, .int 0), (4, .ref l0), (0, .ref xo), (1, .int i1), (2, .int a_), (3, .int k_)]) hx hb dX11_come_47 hl (by decide) rfl (fun ls hl => ?_)
          refine z_loop (T := T) (α := Nat × va_W × (Nat → Int32) × Int32 × Int32) 49 (fun (i, wp3, x1, sx, wx) => [[(xo, .inr (10, [.ref t, .ref im, .ref mk, .ref rd, .ref po, .ref co, .ref tr, .ref wa, .ref wb_, .ref fi, .ref cd]))], z1_, wt, wp3, z0_]) (fun (i, wp3, x1, sx, wx) => [(5, .int (nI i)), (4, .ref l0), (0, .ref xo), (1, .int i1), (2, .int a_), (3, .int k_)]) (fun (i, wp3, x1, sx, wx) => bPosts T po l0 x1 g2_18 g3_19 sx wx wp3 ∧ i ≤ 99 ∧ zP3 x1 g3_19 ∧ x1 = zPk g2_18 g3_19 k20_ a_ g1_17 i ∧ (i : Int) ≤ k_.toInt ∧ (i = 0 ∨ wx = zAk g2_18 g3_19 k20_ a_ g1_17 (i - 1))) (fun (i, wp3, x1, sx, wx) => 99 - i) ?_ (0, w2_16, g1_17, 0, 0) (show bPosts T po l0 g1_17 g2_18 g3_19 0 0 w2_16 ∧ 0 ≤ 99 ∧ zP3 g1_17 g3_19 ∧ g1_17 = zPk g2_18 g3_19 k20_ a_ g1_17 0 ∧ (0 : Int) ≤ k_.toInt ∧ (0 = 0 ∨ 0 = zAk g2_18 g3_19 k20_ a_ g1_17 (0 - 1)) from ⟨h_20, by omega, hQ, rfl, by omega, (Or.inl rfl)⟩) G (lv_sub hl [0, 1, 2, 3, 4, 5] rfl)
          rintro ⟨i, wp3, x1, sx, wx⟩ ⟨hp3, hi, hQx, hZ1, hik, hZ2⟩ ih_49 H locs ls G hl
          replace hp3 : bPosts T po l0 x1 g2_18 g3_19 sx wx wp3 := hp3
          replace hi : i ≤ 99 := hi
          replace hQx : zP3 x1 g3_19 := hQx
          replace hZ1 : x1 = zPk g2_18 g3_19 k20_ a_ g1_17 i := hZ1
          replace hik : (i : Int) ≤ k_.toInt := hik
          replace hZ2 : (i = 0 ∨ wx = zAk g2_18 g3_19 k20_ a_ g1_17 (i - 1)) := hZ2
          replace G : zS T A s.heap s [[(xo, .inr (10, [.ref t, .ref im, .ref mk, .ref rd, .ref po, .ref co, .ref tr, .ref wa, .ref wb_, .ref fi, .ref cd]))], z1_, wt, wp3, z0_] _ _ := G
          replace hl : lv_has ls 6 [(5, .int (nI i)), (4, .ref l0), (0, .ref xo), (1, .int i1), (2, .int a_), (3, .int k_)] := hl
          refine lv_iload hx hb dX11_come_49 (lv_at hl 0 rfl) ?_
          refine lv_iload_n hx hb dX11_come_51 rfl (lv_at hl 5 rfl) ?_
          refine lv_icmp_ge (tgt := 69) hx hb dX11_come_52 (by decide) (fun c_25 => ?_) (fun c_25 => ?_)
          · have c_25n : k_.toInt ≤ (i : Int) := by have q := (fa_le _ _).mp c_25; rw [nI_toInt (n := i) (by omega)] at q; exact q
            refine lv_aload_n hx hb dX11_come_69 rfl (lv_at hl 2 rfl) ?_
            refine z_get C G clX11 0 rfl 4 (by decide) m_fl_RX11_34 rfl dX11_come_70 ?_
            obtain ⟨a1_26, a2_27, a3_28, rfl⟩ := hp3
            have G : zS T A s.heap s [[(xo, .inr (10, [.ref t, .ref im, .ref mk, .ref rd, .ref po, .ref co, .ref tr, .ref wa, .ref wb_, .ref fi, .ref cd]))], z1_, wt, [(po, .inr (6, [.ref l0, .ref a1_26, .ref a2_27, .int sx, .int wx, .ref a3_28]))], [(a1_26, .inl (T.2 0, 7, .inl x1))], [(a2_27, .inl (T.2 0, 7, .inl g2_18))], [(a3_28, .inl (T.2 0, 7, .inl g3_19))], z0_] _ _ := G.re rfl
            refine z_get C G clX6 3 rfl 4 (by decide) m_fl_RX11_211 rfl dX11_come_73 ?_
            have hw_29 : bPosts T po l0 x1 g2_18 g3_19 sx wx [(po, .inr (6, [.ref l0, .ref a1_26, .ref a2_27, .int sx, .int wx, .ref a3_28])), (a1_26, .inl (T.2 0, 7, .inl x1)), (a2_27, .inl (T.2 0, 7, .inl g2_18)), (a3_28, .inl (T.2 0, 7, .inl g3_19))] := ⟨a1_26, a2_27, a3_28, rfl⟩
            have G : zS T A s.heap s [[(xo, .inr (10, [.ref t, .ref im, .ref mk, .ref rd, .ref po, .ref co, .ref tr, .ref wa, .ref wb_, .ref fi, .ref cd]))], z1_, wt, [(po, .inr (6, [.ref l0, .ref a1_26, .ref a2_27, .int sx, .int wx, .ref a3_28])), (a1_26, .inl (T.2 0, 7, .inl x1)), (a2_27, .inl (T.2 0, 7, .inl g2_18)), (a3_28, .inl (T.2 0, 7, .inl g3_19))], z0_] _ _ := G.re rfl
            have G := G.sub (bs' := [[(xo, .inr (10, [.ref t, .ref im, .ref mk, .ref rd, .ref po, .ref co, .ref tr, .ref wa, .ref wb_, .ref fi, .ref cd]))], wt, z0_, z1_, [(po, .inr (6, [.ref l0, .ref a1_26, .ref a2_27, .int sx, .int wx, .ref a3_28])), (a1_26, .inl (T.2 0, 7, .inl x1)), (a2_27, .inl (T.2 0, 7, .inl g2_18)), (a3_28, .inl (T.2 0, 7, .inl g3_19))]]) [0, 2, 4, 1, 3] rfl
            exact z_iret C hr hlocks G (Nat.le_of_ble_eq_true rfl) (Nat.le_of_ble_eq_true rfl) dX11_come_76 ⟨l0, x1, g2_18, g3_19, sx, wx, ([(po, .inr (6, [.ref l0, .ref a1_26, .ref a2_27, .int sx, .int wx, .ref a3_28])), (a1_26, .inl (T.2 0, 7, .inl x1)), (a2_27, .inl (T.2 0, 7, .inl g2_18)), (a3_28, .inl (T.2 0, 7, .inl g3_19))]), rfl, hw_29, (Or.inr (Or.inl ⟨by assumption, by assumption, (by have q9 := hI0_.1; unfold kCome; rw [if_pos ⟨⟨by omega, by omega⟩, by omega, by omega⟩]; rcases hZ2 with e9 | e9 <;> first | (exfalso; omega) | (rw [e9, show k_.toInt.toNat - 1 = i - 1 by omega]; exact zAk_cg (h_22) (h_23) zLs_rf hQ (h_21) _))⟩))⟩
          · have c_25n : ¬ k_.toInt ≤ (i : Int) := fun q => c_25 ((fa_le _ _).mpr (by rw [nI_toInt (n := i) (by omega)]; exact q))
            refine lv_aload_n hx hb dX11_come_55 rfl (lv_at hl 2 rfl) ?_
            refine z_get C G clX11 0 rfl 4 (by decide) m_fl_RX11_34 rfl dX11_come_56 ?_
            refine lv_iload_n hx hb dX11_come_59 rfl (lv_at hl 4 rfl) ?_
            refine z_Vv (bc := [wp3, z0_]) (br := [[(xo, .inr (10, [.ref t, .ref im, .ref mk, .ref rd, .ref po, .ref co, .ref tr, .ref wa, .ref wb_, .ref fi, .ref cd]))], z1_, wt]) (As := [.int a_]) (rest := []) C G (c_Posts_run l T po l0 x1 g2_18 g3_19 sx wx wp3 cr0_ inn0_ k10_ k20_ k30_ k40_ z0_ a_ hp3 hz0_ (by first | assumption | omega | rfl)) (kV_RX11_208 C.2.2.2.2 (Nat.le_of_ble_eq_true rfl) (Nat.le_of_ble_eq_true rfl)) [3, 4] [0, 1, 2] rfl rfl (ci := 6) (qc := (RX6, TX6, 6)) rfl rfl (List.mem_flatten.mpr ⟨_, List.mem_of_getElem? (i := 0) rfl, (bPosts_mem hp3).choose_spec⟩) rfl rfl hl.1 dX11_come_60 (Nat.le_of_ble_eq_true rfl) (Nat.le_of_ble_eq_true rfl) (fun b1 H locs hw G => ?_)
            obtain ⟨w2_30, g1_31, s2_32, x2_33, rfl, h_34, h_35, h_36, h_37⟩ := hw
            have G : zS T A s.heap s [[(xo, .inr (10, [.ref t, .ref im, .ref mk, .ref rd, .ref po, .ref co, .ref tr, .ref wa, .ref wb_, .ref fi, .ref cd]))], z1_, wt, w2_30, z0_] _ _ := G
            have hQ2 : zP3 g1_31 g3_19 := by rw [h_35]; exact zRunN_I _ _ _ _ hQx
            refine lv_iinc (v := nI (i + 1)) (lv' := [(5, .int (nI (i + 1))), (4, .ref l0), (0, .ref xo), (1, .int i1), (2, .int a_), (3, .int k_)]) hx hb dX11_come_63 hl (k := 0) rfl (z_inc i 1) (by decide) rfl (fun ls hl => ?_)
            refine lv_goto (tgt := 49) hx hb dX11_come_66 (by decide) ?_
            exact ih_49 ((i + 1), w2_30, g1_31, s2_32, x2_33) (show bPosts T po l0 g1_31 g2_18 g3_19 s2_32 x2_33 w2_30 ∧ (i + 1) ≤ 99 ∧ zP3 g1_31 g3_19 ∧ g1_31 = zPk g2_18 g3_19 k20_ a_ g1_17 (i + 1) ∧ ((i + 1) : Int) ≤ k_.toInt ∧ ((i + 1) = 0 ∨ x2_33 = zAk g2_18 g3_19 k20_ a_ g1_17 ((i + 1) - 1)) from ⟨h_34, by omega, hQ2, (by rw [h_35, hZ1]; rfl), by omega, (Or.inr (by rw [h_37, hZ1]; rfl))⟩) (show 99 - (i + 1) < 99 - i from by omega) _ _ ls G (lv_sub hl [0, 1, 2, 3, 4, 5] rfl)
        · have c_15n : ¬ k_.toInt ≤ (99 : Int) := fun q => c_15 ((fa_le _ _).mpr q)
          refine lv_iconst (v := (-1)) hx hb dX11_come_35 (by decide) ?_
          have G := G.sub (bs' := [[(xo, .inr (10, [.ref t, .ref im, .ref mk, .ref rd, .ref po, .ref co, .ref tr, .ref wa, .ref wb_, .ref fi, .ref cd]))], wt, z0_, z1_, wp]) [0, 3, 4, 1, 2] rfl
          exact z_iret C hr hlocks G (Nat.le_of_ble_eq_true rfl) (Nat.le_of_ble_eq_true rfl) dX11_come_36 ⟨lp, f1, f2, f3, st, wh, wp, rfl, hp, (Or.inr (Or.inl ⟨by assumption, by assumption, (by have q9 := hI0_.1; unfold kCome; rw [if_neg (by omega)])⟩))⟩
    · have h_13 : (a_.toInt < 0 ∨ cr0_.toInt ≤ a_.toInt ∨ 7 ≤ a_.toInt) := h_13
      refine lv_if_eq (tgt := 35) hx hb dX11_come_21 (by decide) (fun _ => ?_) (fun q => absurd (by decide) q)
      refine lv_iconst (v := (-1)) hx hb dX11_come_35 (by decide) ?_
      have G := G.sub (bs' := [[(xo, .inr (10, [.ref t, .ref im, .ref mk, .ref rd, .ref po, .ref co, .ref tr, .ref wa, .ref wb_, .ref fi, .ref cd]))], wt, z0_, z1_, wp]) [0, 3, 4, 1, 2] rfl
      exact z_iret C hr hlocks G (Nat.le_of_ble_eq_true rfl) (Nat.le_of_ble_eq_true rfl) dX11_come_36 ⟨lp, f1, f2, f3, st, wh, wp, rfl, hp, (Or.inr (Or.inl ⟨by assumption, by assumption, (by have q9 := hI0_.1; unfold kCome; rw [if_neg (by omega)])⟩))⟩
  · have h_6 : i1.toInt = 1 := h_6
    have h_7 : 1 < (fk 0).toInt := h_7
    refine lv_astore (lv' := [(4, .ref l1), (0, .ref xo), (1, .int i1), (2, .int a_), (3, .int k_)]) hx hb dX11_come_8 hl (by decide) rfl (fun ls hl => ?_)
    refine lv_aload hx hb dX11_come_10 (lv_at hl 0 rfl) ?_
    refine lv_ifnull hx hb dX11_come_12 ?_
    refine lv_aload hx hb dX11_come_15 (lv_at hl 0 rfl) ?_
    refine lv_iload_n hx hb dX11_come_17 rfl (lv_at hl 3 rfl) ?_
    refine z_Vi (bc := [z1_]) (br := [[(xo, .inr (10, [.ref t, .ref im, .ref mk, .ref rd, .ref po, .ref co, .ref tr, .ref wa, .ref wb_, .ref fi, .ref cd]))], z0_, wp, wt]) (As := [.int a_]) (rest := []) C G (c_has l T l1 cr1_ inn1_ k11_ k21_ k31_ k41_ z1_ a_ hz1_) (kV_RX11_160 C.2.2.2.2 (Nat.le_of_ble_eq_true rfl) (Nat.le_of_ble_eq_true rfl)) [2] [0, 1, 3, 4] rfl rfl (ci := 4) (qc := (RX4, TX4, 6)) rfl rfl (List.mem_flatten.mpr ⟨_, List.mem_of_getElem? (i := 0) rfl, (bLand_mem hz1_).choose_spec⟩) rfl rfl hl.1 dX11_come_18 (Nat.le_of_ble_eq_true rfl) (Nat.le_of_ble_eq_true rfl) (fun r_40 b1 H locs hw G => ?_)
    obtain ⟨rfl, hc_39⟩ := hw
    have G : zS T A s.heap s [[(xo, .inr (10, [.ref t, .ref im, .ref mk, .ref rd, .ref po, .ref co, .ref tr, .ref wa, .ref wb_, .ref fi, .ref cd]))], z0_, wp, wt, z1_] _ _ := G
    rcases hc_39 with ⟨rfl, h_41, h_42, h_43⟩ | ⟨rfl, h_44⟩
    · have h_41 : 0 ≤ a_.toInt := h_41
      have h_42 : a_.toInt < cr1_.toInt := h_42
      have h_43 : a_.toInt < 7 := h_43
      refine lv_if_eq (tgt := 35) hx hb dX11_come_21 (by decide) (fun q => absurd q (by decide)) (fun _ => ?_)
      refine lv_iload_n hx hb dX11_come_24 rfl (lv_at hl 4 rfl) ?_
      refine lv_iconst (v := 1) hx hb dX11_come_25 (by decide) ?_
      refine lv_icmp_lt (tgt := 35) hx hb dX11_come_26 (by decide) (fun c_45 => ?_) (fun c_45 => ?_)
      · have c_45n : k_.toInt < (1 : Int) := (fa_lt _ _).mp c_45
        refine lv_iconst (v := (-1)) hx hb dX11_come_35 (by decide) ?_
        have G := G.sub (bs' := [[(xo, .inr (10, [.ref t, .ref im, .ref mk, .ref rd, .ref po, .ref co, .ref tr, .ref wa, .ref wb_, .ref fi, .ref cd]))], wt, z0_, z1_, wp]) [0, 3, 1, 4, 2] rfl
        exact z_iret C hr hlocks G (Nat.le_of_ble_eq_true rfl) (Nat.le_of_ble_eq_true rfl) dX11_come_36 ⟨lp, f1, f2, f3, st, wh, wp, rfl, hp, (Or.inr (Or.inr ⟨by assumption, by assumption, (by have q9 := hI1_.1; unfold kCome; rw [if_neg (by omega)])⟩))⟩
      · have c_45n : ¬ k_.toInt < (1 : Int) := fun q => c_45 ((fa_lt _ _).mpr q)
        refine lv_iload_n hx hb dX11_come_29 rfl (lv_at hl 4 rfl) ?_
        refine lv_bipush (v := 99) hx hb dX11_come_30 (by decide) ?_
        refine lv_icmp_le (tgt := 37) hx hb dX11_come_32 (by decide) (fun c_46 => ?_) (fun c_46 => ?_)
        · have c_46n : k_.toInt ≤ (99 : Int) := (fa_le _ _).mp c_46
          refine lv_aload_n hx hb dX11_come_37 rfl (lv_at hl 1 rfl) ?_
          refine z_get C G clX11 0 rfl 4 (by decide) m_fl_RX11_34 rfl dX11_come_38 ?_
          refine lv_aload hx hb dX11_come_41 (lv_at hl 0 rfl) ?_
          refine z_Vv (bc := [wp, z1_]) (br := [[(xo, .inr (10, [.ref t, .ref im, .ref mk, .ref rd, .ref po, .ref co, .ref tr, .ref wa, .ref wb_, .ref fi, .ref cd]))], z0_, wt]) (As := [.ref l1]) (rest := []) C G (c_Posts_begin l T po lp f1 f2 f3 st wh wp l1 cr1_ inn1_ k11_ k21_ k31_ k41_ z1_ hp hz1_) (kV_RX11_205 C.2.2.2.2 (Nat.le_of_ble_eq_true rfl) (Nat.le_of_ble_eq_true rfl)) [2, 4] [0, 1, 3] rfl rfl (ci := 6) (qc := (RX6, TX6, 6)) rfl rfl (List.mem_flatten.mpr ⟨_, List.mem_of_getElem? (i := 0) rfl, (bPosts_mem hp).choose_spec⟩) rfl rfl hl.1 dX11_come_43 (Nat.le_of_ble_eq_true rfl) (Nat.le_of_ble_eq_true rfl) (fun b1 H locs hw G => ?_)
          obtain ⟨w2_47, g1_48, g2_49, g3_50, rfl, h_51, h_52, h_53, h_54⟩ := hw
          have G : zS T A s.heap s [[(xo, .inr (10, [.ref t, .ref im, .ref mk, .ref rd, .ref po, .ref co, .ref tr, .ref wa, .ref wb_, .ref fi, .ref cd]))], z0_, wt, w2_47, z1_] _ _ := G
          have hQ : zP3 g1_48 g3_50 := z_P3 hI1_ h_52 h_54
          refine lv_iconst (v := 0) hx hb dX11_come_46 (by decide) ?_
          refine lv_istore (lv' := [(5, .int 0), (4, .ref l1), (0, .ref xo), (1, .int i1), (2, .int a_), (3, .int k_)]) hx hb dX11_come_47 hl (by decide) rfl (fun ls hl => ?_)
          refine z_loop (T := T) (α := Nat × va_W × (Nat → Int32) × Int32 × Int32) 49 (fun (i, wp3, x1, sx, wx) => [[(xo, .inr (10, [.ref t, .ref im, .ref mk, .ref rd, .ref po, .ref co, .ref tr, .ref wa, .ref wb_, .ref fi, .ref cd]))], z0_, wt, wp3, z1_]) (fun (i, wp3, x1, sx, wx) => [(5, .int (nI i)), (4, .ref l1), (0, .ref xo), (1, .int i1), (2, .int a_), (3, .int k_)]) (fun (i, wp3, x1, sx, wx) => bPosts T po l1 x1 g2_49 g3_50 sx wx wp3 ∧ i ≤ 99 ∧ zP3 x1 g3_50 ∧ x1 = zPk g2_49 g3_50 k21_ a_ g1_48 i ∧ (i : Int) ≤ k_.toInt ∧ (i = 0 ∨ wx = zAk g2_49 g3_50 k21_ a_ g1_48 (i - 1))) (fun (i, wp3, x1, sx, wx) => 99 - i) ?_ (0, w2_47, g1_48, 0, 0) (show bPosts T po l1 g1_48 g2_49 g3_50 0 0 w2_47 ∧ 0 ≤ 99 ∧ zP3 g1_48 g3_50 ∧ g1_48 = zPk g2_49 g3_50 k21_ a_ g1_48 0 ∧ (0 : Int) ≤ k_.toInt ∧ (0 = 0 ∨ 0 = zAk g2_49 g3_50 k21_ a_ g1_48 (0 - 1)) from ⟨h_51, by omega, hQ, rfl, by omega, (Or.inl rfl)⟩) G (lv_sub hl [0, 1, 2, 3, 4, 5] rfl)
          rintro ⟨i, wp3, x1, sx, wx⟩ ⟨hp3, hi, hQx, hZ1, hik, hZ2⟩ ih_49 H locs ls G hl
          replace hp3 : bPosts T po l1 x1 g2_49 g3_50 sx wx wp3 := hp3
          replace hi : i ≤ 99 := hi
          replace hQx : zP3 x1 g3_50 := hQx
          replace hZ1 : x1 = zPk g2_49 g3_50 k21_ a_ g1_48 i := hZ1
          replace hik : (i : Int) ≤ k_.toInt := hik
          replace hZ2 : (i = 0 ∨ wx = zAk g2_49 g3_50 k21_ a_ g1_48 (i - 1)) := hZ2
          replace G : zS T A s.heap s [[(xo, .inr (10, [.ref t, .ref im, .ref mk, .ref rd, .ref po, .ref co, .ref tr, .ref wa, .ref wb_, .ref fi, .ref cd]))], z0_, wt, wp3, z1_] _ _ := G
          replace hl : lv_has ls 6 [(5, .int (nI i)), (4, .ref l1), (0, .ref xo), (1, .int i1), (2, .int a_), (3, .int k_)] := hl
          refine lv_iload hx hb dX11_come_49 (lv_at hl 0 rfl) ?_
          refine lv_iload_n hx hb dX11_come_51 rfl (lv_at hl 5 rfl) ?_
          refine lv_icmp_ge (tgt := 69) hx hb dX11_come_52 (by decide) (fun c_56 => ?_) (fun c_56 => ?_)
          · have c_56n : k_.toInt ≤ (i : Int) := by have q := (fa_le _ _).mp c_56; rw [nI_toInt (n := i) (by omega)] at q; exact q
            refine lv_aload_n hx hb dX11_come_69 rfl (lv_at hl 2 rfl) ?_
            refine z_get C G clX11 0 rfl 4 (by decide) m_fl_RX11_34 rfl dX11_come_70 ?_
            obtain ⟨a1_57, a2_58, a3_59, rfl⟩ := hp3
            have G : zS T A s.heap s [[(xo, .inr (10, [.ref t, .ref im, .ref mk, .ref rd, .ref po, .ref co, .ref tr, .ref wa, .ref wb_, .ref fi, .ref cd]))], z0_, wt, [(po, .inr (6, [.ref l1, .ref a1_57, .ref a2_58, .int sx, .int wx, .ref a3_59]))], [(a1_57, .inl (T.2 0, 7, .inl x1))], [(a2_58, .inl (T.2 0, 7, .inl g2_49))], [(a3_59, .inl (T.2 0, 7, .inl g3_50))], z1_] _ _ := G.re rfl
            refine z_get C G clX6 3 rfl 4 (by decide) m_fl_RX11_211 rfl dX11_come_73 ?_
            have hw_60 : bPosts T po l1 x1 g2_49 g3_50 sx wx [(po, .inr (6, [.ref l1, .ref a1_57, .ref a2_58, .int sx, .int wx, .ref a3_59])), (a1_57, .inl (T.2 0, 7, .inl x1)), (a2_58, .inl (T.2 0, 7, .inl g2_49)), (a3_59, .inl (T.2 0, 7, .inl g3_50))] := ⟨a1_57, a2_58, a3_59, rfl⟩
            have G : zS T A s.heap s [[(xo, .inr (10, [.ref t, .ref im, .ref mk, .ref rd, .ref po, .ref co, .ref tr, .ref wa, .ref wb_, .ref fi, .ref cd]))], z0_, wt, [(po, .inr (6, [.ref l1, .ref a1_57, .ref a2_58, .int sx, .int wx, .ref a3_59])), (a1_57, .inl (T.2 0, 7, .inl x1)), (a2_58, .inl (T.2 0, 7, .inl g2_49)), (a3_59, .inl (T.2 0, 7, .inl g3_50))], z1_] _ _ := G.re rfl
            have G := G.sub (bs' := [[(xo, .inr (10, [.ref t, .ref im, .ref mk, .ref rd, .ref po, .ref co, .ref tr, .ref wa, .ref wb_, .ref fi, .ref cd]))], wt, z0_, z1_, [(po, .inr (6, [.ref l1, .ref a1_57, .ref a2_58, .int sx, .int wx, .ref a3_59])), (a1_57, .inl (T.2 0, 7, .inl x1)), (a2_58, .inl (T.2 0, 7, .inl g2_49)), (a3_59, .inl (T.2 0, 7, .inl g3_50))]]) [0, 2, 1, 4, 3] rfl
            exact z_iret C hr hlocks G (Nat.le_of_ble_eq_true rfl) (Nat.le_of_ble_eq_true rfl) dX11_come_76 ⟨l1, x1, g2_49, g3_50, sx, wx, ([(po, .inr (6, [.ref l1, .ref a1_57, .ref a2_58, .int sx, .int wx, .ref a3_59])), (a1_57, .inl (T.2 0, 7, .inl x1)), (a2_58, .inl (T.2 0, 7, .inl g2_49)), (a3_59, .inl (T.2 0, 7, .inl g3_50))]), rfl, hw_60, (Or.inr (Or.inr ⟨by assumption, by assumption, (by have q9 := hI1_.1; unfold kCome; rw [if_pos ⟨⟨by omega, by omega⟩, by omega, by omega⟩]; rcases hZ2 with e9 | e9 <;> first | (exfalso; omega) | (rw [e9, show k_.toInt.toNat - 1 = i - 1 by omega]; exact zAk_cg (h_53) (h_54) zLs_rf hQ (h_52) _))⟩))⟩
          · have c_56n : ¬ k_.toInt ≤ (i : Int) := fun q => c_56 ((fa_le _ _).mpr (by rw [nI_toInt (n := i) (by omega)]; exact q))
            refine lv_aload_n hx hb dX11_come_55 rfl (lv_at hl 2 rfl) ?_
            refine z_get C G clX11 0 rfl 4 (by decide) m_fl_RX11_34 rfl dX11_come_56 ?_
            refine lv_iload_n hx hb dX11_come_59 rfl (lv_at hl 4 rfl) ?_
            refine z_Vv (bc := [wp3, z1_]) (br := [[(xo, .inr (10, [.ref t, .ref im, .ref mk, .ref rd, .ref po, .ref co, .ref tr, .ref wa, .ref wb_, .ref fi, .ref cd]))], z0_, wt]) (As := [.int a_]) (rest := []) C G (c_Posts_run l T po l1 x1 g2_49 g3_50 sx wx wp3 cr1_ inn1_ k11_ k21_ k31_ k41_ z1_ a_ hp3 hz1_ (by first | assumption | omega | rfl)) (kV_RX11_208 C.2.2.2.2 (Nat.le_of_ble_eq_true rfl) (Nat.le_of_ble_eq_true rfl)) [3, 4] [0, 1, 2] rfl rfl (ci := 6) (qc := (RX6, TX6, 6)) rfl rfl (List.mem_flatten.mpr ⟨_, List.mem_of_getElem? (i := 0) rfl, (bPosts_mem hp3).choose_spec⟩) rfl rfl hl.1 dX11_come_60 (Nat.le_of_ble_eq_true rfl) (Nat.le_of_ble_eq_true rfl) (fun b1 H locs hw G => ?_)
            obtain ⟨w2_61, g1_62, s2_63, x2_64, rfl, h_65, h_66, h_67, h_68⟩ := hw
            have G : zS T A s.heap s [[(xo, .inr (10, [.ref t, .ref im, .ref mk, .ref rd, .ref po, .ref co, .ref tr, .ref wa, .ref wb_, .ref fi, .ref cd]))], z0_, wt, w2_61, z1_] _ _ := G
            have hQ2 : zP3 g1_62 g3_50 := by rw [h_66]; exact zRunN_I _ _ _ _ hQx
            refine lv_iinc (v := nI (i + 1)) (lv' := [(5, .int (nI (i + 1))), (4, .ref l1), (0, .ref xo), (1, .int i1), (2, .int a_), (3, .int k_)]) hx hb dX11_come_63 hl (k := 0) rfl (z_inc i 1) (by decide) rfl (fun ls hl => ?_)
            refine lv_goto (tgt := 49) hx hb dX11_come_66 (by decide) ?_
            exact ih_49 ((i + 1), w2_61, g1_62, s2_63, x2_64) (show bPosts T po l1 g1_62 g2_49 g3_50 s2_63 x2_64 w2_61 ∧ (i + 1) ≤ 99 ∧ zP3 g1_62 g3_50 ∧ g1_62 = zPk g2_49 g3_50 k21_ a_ g1_48 (i + 1) ∧ ((i + 1) : Int) ≤ k_.toInt ∧ ((i + 1) = 0 ∨ x2_64 = zAk g2_49 g3_50 k21_ a_ g1_48 ((i + 1) - 1)) from ⟨h_65, by omega, hQ2, (by rw [h_66, hZ1]; rfl), by omega, (Or.inr (by rw [h_68, hZ1]; rfl))⟩) (show 99 - (i + 1) < 99 - i from by omega) _ _ ls G (lv_sub hl [0, 1, 2, 3, 4, 5] rfl)
        · have c_46n : ¬ k_.toInt ≤ (99 : Int) := fun q => c_46 ((fa_le _ _).mpr q)
          refine lv_iconst (v := (-1)) hx hb dX11_come_35 (by decide) ?_
          have G := G.sub (bs' := [[(xo, .inr (10, [.ref t, .ref im, .ref mk, .ref rd, .ref po, .ref co, .ref tr, .ref wa, .ref wb_, .ref fi, .ref cd]))], wt, z0_, z1_, wp]) [0, 3, 1, 4, 2] rfl
          exact z_iret C hr hlocks G (Nat.le_of_ble_eq_true rfl) (Nat.le_of_ble_eq_true rfl) dX11_come_36 ⟨lp, f1, f2, f3, st, wh, wp, rfl, hp, (Or.inr (Or.inr ⟨by assumption, by assumption, (by have q9 := hI1_.1; unfold kCome; rw [if_neg (by omega)])⟩))⟩
    · have h_44 : (a_.toInt < 0 ∨ cr1_.toInt ≤ a_.toInt ∨ 7 ≤ a_.toInt) := h_44
      refine lv_if_eq (tgt := 35) hx hb dX11_come_21 (by decide) (fun _ => ?_) (fun q => absurd (by decide) q)
      refine lv_iconst (v := (-1)) hx hb dX11_come_35 (by decide) ?_
      have G := G.sub (bs' := [[(xo, .inr (10, [.ref t, .ref im, .ref mk, .ref rd, .ref po, .ref co, .ref tr, .ref wa, .ref wb_, .ref fi, .ref cd]))], wt, z0_, z1_, wp]) [0, 3, 1, 4, 2] rfl
      exact z_iret C hr hlocks G (Nat.le_of_ble_eq_true rfl) (Nat.le_of_ble_eq_true rfl) dX11_come_36 ⟨lp, f1, f2, f3, st, wh, wp, rfl, hp, (Or.inr (Or.inr ⟨by assumption, by assumption, (by have q9 := hI1_.1; unfold kCome; rw [if_neg (by omega)])⟩))⟩

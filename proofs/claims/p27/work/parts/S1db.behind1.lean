/-- posts behind so many walks from there; where the next one comes; how many of the first ones come to that inn -/
def zPk (S W L : Nat → Int32) (c : Int32) (P : Nat → Int32) : Nat → (Nat → Int32)
  | 0 => P
  | k + 1 => (zRunN S W L 499 (zPk S W L c P k) c 0).1
def zAk (S W L : Nat → Int32) (c : Int32) (P : Nat → Int32) (k : Nat) : Int32 := (zRunN S W L 499 (zPk S W L c P k) c 0).2.1
def zSh (S W L : Nat → Int32) (c : Int32) (P : Nat → Int32) (n : Int32) : Nat → Int32
  | 0 => 0
  | k + 1 => if zAk S W L c P k = n then zSh S W L c P n k + 1 else zSh S W L c P n k
section ZPK
variable {S W L S' W' L' P P' : Nat → Int32} {c : Int32}
theorem zPk_I (hI : zP3 P W) : ∀ k, zP3 (zPk S W L c P k) W
  | 0 => hI
  | k + 1 => zRunN_I _ _ _ _ (zPk_I hI k)
theorem zPk_cg (h2 : ∀ j, j < 7 → S j = S' j) (h3 : ∀ j, j < 7 → W j = W' j) (hl : zLs W L L') (hI : zP3 P W) (h1 : ∀ j, j < 7 → P j = P' j) : ∀ k j, j < 7 → zPk S W L c P k j = zPk S' W' L' c P' k j
  | 0 => h1
  | k + 1 => (zRunN_cg h2 h3 hl 499 _ _ c 0 (zPk_I hI k) (zPk_cg h2 h3 hl hI h1 k)).1
theorem zAk_cg (h2 : ∀ j, j < 7 → S j = S' j) (h3 : ∀ j, j < 7 → W j = W' j) (hl : zLs W L L') (hI : zP3 P W) (h1 : ∀ j, j < 7 → P j = P' j) (k : Nat) : zAk S W L c P k = zAk S' W' L' c P' k := congrArg (fun q => q.1) (zRunN_cg h2 h3 hl 499 _ _ c 0 (zPk_I hI k) (zPk_cg h2 h3 hl hI h1 k)).2
theorem zSh_cg {n : Int32} (h2 : ∀ j, j < 7 → S j = S' j) (h3 : ∀ j, j < 7 → W j = W' j) (hl : zLs W L L') (hI : zP3 P W) (h1 : ∀ j, j < 7 → P j = P' j) : ∀ k, zSh S W L c P n k = zSh S' W' L' c P' n k
  | 0 => rfl
  | k + 1 => by
    unfold zSh
    rw [zAk_cg h2 h3 hl hI h1 k, zSh_cg h2 h3 hl hI h1 k]
end ZPK
abbrev zS0 : Nat → Int32 := fun _ => 0
def kW (cr inn : Int32) (k1 : Nat → Int32) (j : Nat) : Int32 := zWays cr inn k1 (nI j)
def pW (f : Nat → Int32) (z : Int32) : Nat → Int32 := zWo f z (f (z.toInt.toNat + 1))
theorem zLs_rf {W L : Nat → Int32} : zLs W L L := fun _ _ _ _ _ => rfl
/-- the class's rows of a land walk as the record's -/
theorem zLnd_w {cr inn z : Int32} {k1 k2 k3 k4 f : Nat → Int32} {B : Nat} (h : zLnd cr inn k1 k2 k3 k4 (fun j => f (B + j))) (hF : zLF (fun j => f (B + j))) (hz : z.toInt.toNat = B) : (∀ j, j < 7 → kW cr inn k1 j = pW f z j) ∧ zLs (kW cr inn k1) k2 (zLo f z) ∧ (∀ j, j < 7 → k3 j = zPo f z j) ∧ zP3 k3 (kW cr inn k1) ∧ cr = f z.toInt.toNat ∧ inn = f (z.toInt.toNat + 1) := by
  obtain ⟨ha, hab, hi, hd, hx, hr⟩ := h
  obtain ⟨hf0, hf1, hf2⟩ := hF
  have ha : cr = f B := ha
  have hab : 0 ≤ (f B).toInt ∧ (f B).toInt ≤ 7 := hab
  have hi : inn = f (B + 1) := hi
  have hd : ∀ j : Nat, j < 7 → k1 j = f (B + (2 + j)) ∧ k3 j = f (B + (9 + j)) ∧ k4 j = f (B + (16 + j)) := hd
  have hx : ∀ j : Nat, j < 7 → (f B).toInt ≤ (j : Int) → k1 j = 0 := hx
  have hr : ∀ j r : Nat, j < 7 → r < 4 → (r : Int) < (k1 j).toInt → k2 (4 * j + r) = f (B + (23 + 4 * j + r)) := hr
  have hf1 : ∀ c : Nat, c < 7 → (0 ≤ (f (B + (2 + c))).toInt ∧ (f (B + (2 + c))).toInt ≤ 4) ∧ (0 ≤ (f (B + (9 + c))).toInt ∧ (f (B + (9 + c))).toInt ≤ 3) ∧ 0 ≤ (f (B + (16 + c))).toInt ∧ (f (B + (16 + c))).toInt ≤ 9 := hf1
  have hw : ∀ j : Nat, j < 7 → kW cr inn k1 j = if zBit inn (nI j) = 1 then 0 else k1 j := fun j hj => by
    have t := nI_toInt (n := j) (by omega)
    have t2 := nI_clamp (n := j) (by omega)
    have hcr : cr.toInt = (f B).toInt := by rw [ha]
    unfold kW zWays
    by_cases b : zBit inn (nI j) = 1
    · rw [if_pos b, if_neg (fun q => zBit_o b q.2.2.2)]
    · rw [if_neg b]
      by_cases q : (j : Int) < (f B).toInt
      · rw [if_pos ⟨by omega, by omega, by omega, zBit_n b⟩, t2]
      · rw [if_neg (fun q2 => by omega), hx j hj (by omega)]
  have hp : ∀ j, j < 7 → kW cr inn k1 j = pW f z j := fun j hj => by
    rw [hw j hj]
    unfold pW zWo zRo
    rw [hz, ← hi, (hd j hj).1]
  have hk0 : (0 : Int32).toInt = 0 := rfl
  have hk : ∀ j, j < 7 → 0 ≤ (kW cr inn k1 j).toInt ∧ (kW cr inn k1 j).toInt ≤ (k1 j).toInt ∧ (k1 j).toInt ≤ 4 := fun j hj => by
    have q := (hf1 j hj).1
    rw [hw j hj, (hd j hj).1]
    split
    · rw [hk0]; exact ⟨by omega, q.1, q.2⟩
    · exact ⟨q.1, by omega, q.2⟩
  refine ⟨hp, fun j r hj hr4 hq => ?_, fun j hj => ?_, fun j hj => ⟨⟨(hk j hj).1, by have := hk j hj; omega⟩, ?_⟩, by rw [hz]; exact ha, by rw [hz]; exact hi⟩
  · rw [hr j r hj hr4 (by have := hk j hj; omega)]
    unfold zLo
    rw [hz]
    exact congrArg f (by omega)
  · unfold zPo
    rw [hz]
    exact (hd j hj).2.1
  · rw [(hd j hj).2.1]
    have q := (hf1 j hj).2.1
    exact ⟨q.1, by omega⟩
def kShare (cr inn : Int32) (k1 k2 k3 : Nat → Int32) (a k n : Int32) : Int32 := if (0 ≤ a.toInt ∧ a.toInt < cr.toInt) ∧ (0 ≤ n.toInt ∧ n.toInt < cr.toInt) ∧ zBit inn n = 1 ∧ 0 ≤ k.toInt ∧ k.toInt ≤ 99 then zSh zS0 (kW cr inn k1) k2 a k3 n k.toInt.toNat else -1
def pShare (f : Nat → Int32) (z a k n : Int32) : Int32 := if (0 ≤ a.toInt ∧ a.toInt < (f z.toInt.toNat).toInt) ∧ (0 ≤ n.toInt ∧ n.toInt < (f z.toInt.toNat).toInt) ∧ zBit (f (z.toInt.toNat + 1)) n = 1 ∧ 0 ≤ k.toInt ∧ k.toInt ≤ 99 then zSh zS0 (pW f z) (zLo f z) a (zPo f z) n k.toInt.toNat else -1
theorem kShare_e {cr inn z a k n : Int32} {k1 k2 k3 k4 f : Nat → Int32} {B : Nat} (h : zLnd cr inn k1 k2 k3 k4 (fun j => f (B + j))) (hF : zLF (fun j => f (B + j))) (hz : z.toInt.toNat = B) : kShare cr inn k1 k2 k3 a k n = pShare f z a k n := by
  obtain ⟨a1, a2, a3, a4, a5, a6⟩ := zLnd_w h hF hz
  unfold kShare pShare
  rw [← a5, ← a6]
  by_cases q : (0 ≤ a.toInt ∧ a.toInt < cr.toInt) ∧ (0 ≤ n.toInt ∧ n.toInt < cr.toInt) ∧ zBit inn n = 1 ∧ 0 ≤ k.toInt ∧ k.toInt ≤ 99
  · rw [if_pos q, if_pos q]
    exact zSh_cg (fun _ _ => rfl) a1 a2 a4 a3 _
  · rw [if_neg q, if_neg q]
set_option maxHeartbeats 4000000 in
set_option maxRecDepth 100000 in
/-- c_f_share -/
theorem c_f_share (l : Launch) (T : zTy) (xo : Nat) (t : Nat) (im : Nat) (mk : Nat) (rd : Nat) (po : Nat) (co : Nat) (tr : Nat) (wa : Nat) (wb_ : Nat) (fi : Nat) (cd : Nat) (l0 : Nat) (l1 : Nat) (d0 : Nat) (d1 : Nat) (g0 : Nat) (g1 : Nat) (ln : Int32) (fl : Int32) (pl : Int32) (ft : Nat → Int32) (fk : Nat → Int32) (wt : va_W) (cr0_ : Int32) (inn0_ : Int32) (k10_ : Nat → Int32) (k20_ : Nat → Int32) (k30_ : Nat → Int32) (k40_ : Nat → Int32) (z0_ : va_W) (cr1_ : Int32) (inn1_ : Int32) (k11_ : Nat → Int32) (k21_ : Nat → Int32) (k31_ : Nat → Int32) (k41_ : Nat → Int32) (z1_ : va_W) (lp : Nat) (f1 : Nat → Int32) (f2 : Nat → Int32) (f3 : Nat → Int32) (st : Int32) (wh : Int32) (wp : va_W) (i1 : Int32) (a_ : Int32) (k_ : Int32) (n : Int32) (ht : bTold T t l0 l1 d0 d1 g0 g1 ln fl pl ft fk wt) (hK : zKT fk) (hz0_ : bLand T l0 cr0_ inn0_ k10_ k20_ k30_ k40_ z0_) (hI0_ : zLI cr0_ k10_ k30_) (hz1_ : bLand T l1 cr1_ inn1_ k11_ k21_ k31_ k41_ z1_) (hI1_ : zLI cr1_ k11_ k31_) (hp : bPosts T po lp f1 f2 f3 st wh wp) : zMi l T yX11_share cX11_share 8 (some .int) 5 0 0 [.ref xo, .int i1, .int a_, .int k_, .int n] [[(xo, .inr (10, [.ref t, .ref im, .ref mk, .ref rd, .ref po, .ref co, .ref tr, .ref wa, .ref wb_, .ref fi, .ref cd]))], wt, z0_, z1_, wp] (fun (r : Int32) bs => ∃ (lp_2 : Nat) (f1_2 : Nat → Int32) (f2_2 : Nat → Int32) (f3_2 : Nat → Int32) (st_2 : Int32) (wh_2 : Int32) (wp_2 : va_W), bs = [[(xo, .inr (10, [.ref t, .ref im, .ref mk, .ref rd, .ref po, .ref co, .ref tr, .ref wa, .ref wb_, .ref fi, .ref cd]))], wt, z0_, z1_, wp_2] ∧ bPosts T po lp_2 f1_2 f2_2 f3_2 st_2 wh_2 wp_2 ∧ ((i1.toInt < 0 ∨ (fk 0).toInt ≤ i1.toInt ∨ 2 ≤ i1.toInt) ∧ r = -1 ∨ i1.toInt = 0 ∧ 0 < (fk 0).toInt ∧ r = kShare cr0_ inn0_ k10_ k20_ k30_ a_ k_ n ∨ i1.toInt = 1 ∧ 1 < (fk 0).toInt ∧ r = kShare cr1_ inn1_ k11_ k21_ k31_ a_ k_ n)) := by
  refine zMi_of (own := RX11) (by decide) rfl (Nat.le_of_ble_eq_true rfl) ?_
  intro p e s m args below meth c A ls C hr hlocks hnm hAe G hl
  have hx := C.1
  have hb := C.2.1
  have hl : lv_has ls 8 [(0, .ref xo), (1, .int i1), (2, .int a_), (3, .int k_), (4, .int n)] := hl
  refine lv_aload_n hx hb dX11_share_0 rfl (lv_at hl 0 rfl) ?_
  refine z_get C G clX11 0 rfl 0 (by decide) m_fl_RX11_10 rfl dX11_share_1 ?_
  refine lv_iload_n hx hb dX11_share_4 rfl (lv_at hl 1 rfl) ?_
  refine z_Vq (bc := [wt]) (br := [[(xo, .inr (10, [.ref t, .ref im, .ref mk, .ref rd, .ref po, .ref co, .ref tr, .ref wa, .ref wb_, .ref fi, .ref cd]))], z0_, z1_, wp]) (As := [.int i1]) (rest := []) C G (c_landAt l T t l0 l1 d0 d1 g0 g1 ln fl pl ft fk wt i1 ht) (kV_RX11_121 C.2.2.2.2 (Nat.le_of_ble_eq_true rfl) (Nat.le_of_ble_eq_true rfl)) [1] [0, 2, 3, 4] rfl rfl (ci := 8) (qc := (RX9, TX9, 8)) rfl rfl (List.mem_flatten.mpr ⟨_, List.mem_of_getElem? (i := 0) rfl, (bTold_mem ht).choose_spec⟩) rfl rfl hl.1 dX11_share_5 (Nat.le_of_ble_eq_true rfl) (Nat.le_of_ble_eq_true rfl) (fun r_2 b1 H locs hw G => ?_)
  obtain ⟨rfl, hc_1⟩ := hw
  have G : zS T A s.heap s [[(xo, .inr (10, [.ref t, .ref im, .ref mk, .ref rd, .ref po, .ref co, .ref tr, .ref wa, .ref wb_, .ref fi, .ref cd]))], z0_, z1_, wp, wt] _ _ := G
  rcases hc_1 with ⟨rfl, h_3⟩ | ⟨rfl, h_4, h_5⟩ | ⟨rfl, h_6, h_7⟩
  · have h_3 : (i1.toInt < 0 ∨ (fk 0).toInt ≤ i1.toInt ∨ 2 ≤ i1.toInt) := h_3
    refine lv_astoreN (lv' := [(5, .null), (0, .ref xo), (1, .int i1), (2, .int a_), (3, .int k_), (4, .int n)]) hx hb dX11_share_8 hl (by decide) rfl (fun ls hl => ?_)
    refine lv_aloadN hx hb dX11_share_10 (lv_at hl 0 rfl) ?_
    refine lv_ifnullN (tgt := 44) hx hb dX11_share_12 (by decide) ?_
    refine lv_iconst (v := (-1)) hx hb dX11_share_44 (by decide) ?_
    have G := G.sub (bs' := [[(xo, .inr (10, [.ref t, .ref im, .ref mk, .ref rd, .ref po, .ref co, .ref tr, .ref wa, .ref wb_, .ref fi, .ref cd]))], wt, z0_, z1_, wp]) [0, 4, 1, 2, 3] rfl
    exact z_iret C hr hlocks G (Nat.le_of_ble_eq_true rfl) (Nat.le_of_ble_eq_true rfl) dX11_share_45 ⟨lp, f1, f2, f3, st, wh, wp, rfl, hp, (Or.inl ⟨by assumption, rfl⟩)⟩
  · have h_4 : i1.toInt = 0 := h_4
    have h_5 : 0 < (fk 0).toInt := h_5
    refine lv_astore (lv' := [(5, .ref l0), (0, .ref xo), (1, .int i1), (2, .int a_), (3, .int k_), (4, .int n)]) hx hb dX11_share_8 hl (by decide) rfl (fun ls hl => ?_)
    refine lv_aload hx hb dX11_share_10 (lv_at hl 0 rfl) ?_
    refine lv_ifnull hx hb dX11_share_12 ?_
    refine lv_aload hx hb dX11_share_15 (lv_at hl 0 rfl) ?_
    refine lv_iload_n hx hb dX11_share_17 rfl (lv_at hl 3 rfl) ?_
    refine z_Vi (bc := [z0_]) (br := [[(xo, .inr (10, [.ref t, .ref im, .ref mk, .ref rd, .ref po, .ref co, .ref tr, .ref wa, .ref wb_, .ref fi, .ref cd]))], z1_, wp, wt]) (As := [.int a_]) (rest := []) C G (c_has l T l0 cr0_ inn0_ k10_ k20_ k30_ k40_ z0_ a_ hz0_) (kV_RX11_160 C.2.2.2.2 (Nat.le_of_ble_eq_true rfl) (Nat.le_of_ble_eq_true rfl)) [1] [0, 2, 3, 4] rfl rfl (ci := 4) (qc := (RX4, TX4, 6)) rfl rfl (List.mem_flatten.mpr ⟨_, List.mem_of_getElem? (i := 0) rfl, (bLand_mem hz0_).choose_spec⟩) rfl rfl hl.1 dX11_share_18 (Nat.le_of_ble_eq_true rfl) (Nat.le_of_ble_eq_true rfl) (fun r_9 b1 H locs hw G => ?_)
    obtain ⟨rfl, hc_8⟩ := hw
    have G : zS T A s.heap s [[(xo, .inr (10, [.ref t, .ref im, .ref mk, .ref rd, .ref po, .ref co, .ref tr, .ref wa, .ref wb_, .ref fi, .ref cd]))], z1_, wp, wt, z0_] _ _ := G
    rcases hc_8 with ⟨rfl, h_10, h_11, h_12⟩ | ⟨rfl, h_13⟩
    · have h_10 : 0 ≤ a_.toInt := h_10
      have h_11 : a_.toInt < cr0_.toInt := h_11
      have h_12 : a_.toInt < 7 := h_12
      refine lv_if_eq (tgt := 44) hx hb dX11_share_21 (by decide) (fun q => absurd q (by decide)) (fun _ => ?_)
      refine lv_aload hx hb dX11_share_24 (lv_at hl 0 rfl) ?_
      refine lv_iload hx hb dX11_share_26 (lv_at hl 5 rfl) ?_
      refine z_Vi (bc := [z0_]) (br := [[(xo, .inr (10, [.ref t, .ref im, .ref mk, .ref rd, .ref po, .ref co, .ref tr, .ref wa, .ref wb_, .ref fi, .ref cd]))], z1_, wp, wt]) (As := [.int n]) (rest := []) C G (c_isInn l T l0 cr0_ inn0_ k10_ k20_ k30_ k40_ z0_ n hz0_) (kV_RX11_174 C.2.2.2.2 (Nat.le_of_ble_eq_true rfl) (Nat.le_of_ble_eq_true rfl)) [4] [0, 1, 2, 3] rfl rfl (ci := 4) (qc := (RX4, TX4, 6)) rfl rfl (List.mem_flatten.mpr ⟨_, List.mem_of_getElem? (i := 0) rfl, (bLand_mem hz0_).choose_spec⟩) rfl rfl hl.1 dX11_share_28 (Nat.le_of_ble_eq_true rfl) (Nat.le_of_ble_eq_true rfl) (fun r_15 b1 H locs hw G => ?_)
      obtain ⟨rfl, hc_14⟩ := hw
      have G : zS T A s.heap s [[(xo, .inr (10, [.ref t, .ref im, .ref mk, .ref rd, .ref po, .ref co, .ref tr, .ref wa, .ref wb_, .ref fi, .ref cd]))], z1_, wp, wt, z0_] _ _ := G
      rcases hc_14 with ⟨rfl, h_16, h_17, h_18, h_19⟩ | ⟨rfl, h_20⟩
      · have h_16 : 0 ≤ n.toInt := h_16
        have h_17 : n.toInt < cr0_.toInt := h_17
        have h_18 : n.toInt < 7 := h_18
        have h_19 : ¬ zBit inn0_ n = 0 := h_19
        refine lv_if_eq (tgt := 44) hx hb dX11_share_31 (by decide) (fun q => absurd q (by decide)) (fun _ => ?_)
        refine lv_iload_n hx hb dX11_share_34 rfl (lv_at hl 4 rfl) ?_
        refine lv_if_lt (tgt := 44) hx hb dX11_share_35 (by decide) (fun c_21 => ?_) (fun c_21 => ?_)
        · have c_21n : k_.toInt < (0 : Int) := (fa_lt _ _).mp c_21
          refine lv_iconst (v := (-1)) hx hb dX11_share_44 (by decide) ?_
          have G := G.sub (bs' := [[(xo, .inr (10, [.ref t, .ref im, .ref mk, .ref rd, .ref po, .ref co, .ref tr, .ref wa, .ref wb_, .ref fi, .ref cd]))], wt, z0_, z1_, wp]) [0, 3, 4, 1, 2] rfl
          exact z_iret C hr hlocks G (Nat.le_of_ble_eq_true rfl) (Nat.le_of_ble_eq_true rfl) dX11_share_45 ⟨lp, f1, f2, f3, st, wh, wp, rfl, hp, (Or.inr (Or.inl ⟨by assumption, by assumption, (by have q9 := hI0_.1; unfold kShare; rw [if_neg (fun q8 => by first | omega | (rcases hni with e9 | e9 | e9 | e9 <;> first | omega | exact zBit_o q8.2.2.1 e9))])⟩))⟩
        · have c_21n : ¬ k_.toInt < (0 : Int) := fun q => c_21 ((fa_lt _ _).mpr q)
          refine lv_iload_n hx hb dX11_share_38 rfl (lv_at hl 4 rfl) ?_
          refine lv_bipush (v := 99) hx hb dX11_share_39 (by decide) ?_
          refine lv_icmp_le (tgt := 46) hx hb dX11_share_41 (by decide) (fun c_22 => ?_) (fun c_22 => ?_)
          · have c_22n : k_.toInt ≤ (99 : Int) := (fa_le _ _).mp c_22
            refine lv_iconst (v := 0) hx hb dX11_share_46 (by decide) ?_
            refine lv_istore (lv' := [(6, .int 0), (5, .ref l0), (0, .ref xo), (1, .int i1), (2, .int a_), (3, .int k_), (4, .int n)]) hx hb dX11_share_47 hl (by decide) rfl (fun ls hl => ?_)
            refine lv_aload_n hx hb dX11_share_49 rfl (lv_at hl 2 rfl) ?_
            refine z_get C G clX11 0 rfl 4 (by decide) m_fl_RX11_34 rfl dX11_share_50 ?_
            refine lv_aload hx hb dX11_share_53 (lv_at hl 1 rfl) ?_
            refine z_Vv (bc := [wp, z0_]) (br := [[(xo, .inr (10, [.ref t, .ref im, .ref mk, .ref rd, .ref po, .ref co, .ref tr, .ref wa, .ref wb_, .ref fi, .ref cd]))], z1_, wt]) (As := [.ref l0]) (rest := []) C G (c_Posts_begin l T po lp f1 f2 f3 st wh wp l0 cr0_ inn0_ k10_ k20_ k30_ k40_ z0_ hp hz0_) (kV_RX11_205 C.2.2.2.2 (Nat.le_of_ble_eq_true rfl) (Nat.le_of_ble_eq_true rfl)) [2, 4] [0, 1, 3] rfl rfl (ci := 6) (qc := (RX6, TX6, 6)) rfl rfl (List.mem_flatten.mpr ⟨_, List.mem_of_getElem? (i := 0) rfl, (bPosts_mem hp).choose_spec⟩) rfl rfl hl.1 dX11_share_55 (Nat.le_of_ble_eq_true rfl) (Nat.le_of_ble_eq_true rfl) (fun b1 H locs hw G => ?_)
            obtain ⟨w2_23, g1_24, g2_25, g3_26, rfl, h_27, h_28, h_29, h_30⟩ := hw
            have G : zS T A s.heap s [[(xo, .inr (10, [.ref t, .ref im, .ref mk, .ref rd, .ref po, .ref co, .ref tr, .ref wa, .ref wb_, .ref fi, .ref cd]))], z1_, wt, w2_23, z0_] _ _ := G
            have hQ : zP3 g1_24 g3_26 := z_P3 hI0_ h_28 h_30
            refine lv_iconst (v := 0) hx hb dX11_share_58 (by decide) ?_
            refine lv_istore (lv' := [(7, .int 0), (6, .int 0), (5, .ref l0), (0, .ref xo), (1, .int i1), (2, .int a_), (3, .int k_), (4, .int n)]) hx hb dX11_share_59 hl (by decide) rfl (fun ls hl => ?_)
            refine z_loop (T := T) (α := Nat × va_W × (Nat → Int32) × Int32 × Int32 × Int32) 61 (fun (i, wp3, x1, sx, wx, u6) => [[(xo, .inr (10, [.ref t, .ref im, .ref mk, .ref rd, .ref po, .ref co, .ref tr, .ref wa, .ref wb_, .ref fi, .ref cd]))], z1_, wt, wp3, z0_]) (fun (i, wp3, x1, sx, wx, u6) => [(7, .int (nI i)), (6, .int u6), (5, .ref l0), (0, .ref xo), (1, .int i1), (2, .int a_), (3, .int k_), (4, .int n)]) (fun (i, wp3, x1, sx, wx, u6) => bPosts T po l0 x1 g2_25 g3_26 sx wx wp3 ∧ i ≤ 99 ∧ zP3 x1 g3_26 ∧ x1 = zPk g2_25 g3_26 k20_ a_ g1_24 i ∧ (i : Int) ≤ k_.toInt ∧ u6 = zSh g2_25 g3_26 k20_ a_ g1_24 n i) (fun (i, wp3, x1, sx, wx, u6) => 99 - i) ?_ (0, w2_23, g1_24, 0, 0, 0) (show bPosts T po l0 g1_24 g2_25 g3_26 0 0 w2_23 ∧ 0 ≤ 99 ∧ zP3 g1_24 g3_26 ∧ g1_24 = zPk g2_25 g3_26 k20_ a_ g1_24 0 ∧ (0 : Int) ≤ k_.toInt ∧ 0 = zSh g2_25 g3_26 k20_ a_ g1_24 n 0 from ⟨h_27, by omega, hQ, rfl, by omega, rfl⟩) G (lv_sub hl [0, 1, 2, 3, 4, 5, 6, 7] rfl)
            rintro ⟨i, wp3, x1, sx, wx, u6⟩ ⟨hp3, hi, hQx, hZ1, hik, hU⟩ ih_61 H locs ls G hl
            replace hp3 : bPosts T po l0 x1 g2_25 g3_26 sx wx wp3 := hp3
            replace hi : i ≤ 99 := hi
            replace hQx : zP3 x1 g3_26 := hQx
            replace hZ1 : x1 = zPk g2_25 g3_26 k20_ a_ g1_24 i := hZ1
            replace hik : (i : Int) ≤ k_.toInt := hik
            replace hU : u6 = zSh g2_25 g3_26 k20_ a_ g1_24 n i := hU
            replace G : zS T A s.heap s [[(xo, .inr (10, [.ref t, .ref im, .ref mk, .ref rd, .ref po, .ref co, .ref tr, .ref wa, .ref wb_, .ref fi, .ref cd]))], z1_, wt, wp3, z0_] _ _ := G
            replace hl : lv_has ls 8 [(7, .int (nI i)), (6, .int u6), (5, .ref l0), (0, .ref xo), (1, .int i1), (2, .int a_), (3, .int k_), (4, .int n)] := hl
            refine lv_iload hx hb dX11_share_61 (lv_at hl 0 rfl) ?_
            refine lv_iload_n hx hb dX11_share_63 rfl (lv_at hl 6 rfl) ?_
            refine lv_icmp_ge (tgt := 96) hx hb dX11_share_64 (by decide) (fun c_32 => ?_) (fun c_32 => ?_)
            · have c_32n : k_.toInt ≤ (i : Int) := by have q := (fa_le _ _).mp c_32; rw [nI_toInt (n := i) (by omega)] at q; exact q
              refine lv_iload hx hb dX11_share_96 (lv_at hl 1 rfl) ?_
              have G := G.sub (bs' := [[(xo, .inr (10, [.ref t, .ref im, .ref mk, .ref rd, .ref po, .ref co, .ref tr, .ref wa, .ref wb_, .ref fi, .ref cd]))], wt, z0_, z1_, wp3]) [0, 2, 4, 1, 3] rfl
              exact z_iret C hr hlocks G (Nat.le_of_ble_eq_true rfl) (Nat.le_of_ble_eq_true rfl) dX11_share_98 ⟨l0, x1, g2_25, g3_26, sx, wx, wp3, rfl, hp3, (Or.inr (Or.inl ⟨by assumption, by assumption, (by have q9 := hI0_.1; unfold kShare; rw [if_pos ⟨⟨by omega, by omega⟩, ⟨by omega, by omega⟩, zBit_p (by assumption), by omega, by omega⟩, hU, show k_.toInt.toNat = i by omega]; exact zSh_cg (h_29) (h_30) zLs_rf hQ (h_28) _)⟩))⟩
            · have c_32n : ¬ k_.toInt ≤ (i : Int) := fun q => c_32 ((fa_le _ _).mpr (by rw [nI_toInt (n := i) (by omega)]; exact q))
              refine lv_aload_n hx hb dX11_share_67 rfl (lv_at hl 3 rfl) ?_
              refine z_get C G clX11 0 rfl 4 (by decide) m_fl_RX11_34 rfl dX11_share_68 ?_
              refine lv_iload_n hx hb dX11_share_71 rfl (lv_at hl 5 rfl) ?_
              refine z_Vv (bc := [wp3, z0_]) (br := [[(xo, .inr (10, [.ref t, .ref im, .ref mk, .ref rd, .ref po, .ref co, .ref tr, .ref wa, .ref wb_, .ref fi, .ref cd]))], z1_, wt]) (As := [.int a_]) (rest := []) C G (c_Posts_run l T po l0 x1 g2_25 g3_26 sx wx wp3 cr0_ inn0_ k10_ k20_ k30_ k40_ z0_ a_ hp3 hz0_ (by first | assumption | omega | rfl)) (kV_RX11_208 C.2.2.2.2 (Nat.le_of_ble_eq_true rfl) (Nat.le_of_ble_eq_true rfl)) [3, 4] [0, 1, 2] rfl rfl (ci := 6) (qc := (RX6, TX6, 6)) rfl rfl (List.mem_flatten.mpr ⟨_, List.mem_of_getElem? (i := 0) rfl, (bPosts_mem hp3).choose_spec⟩) rfl rfl hl.1 dX11_share_72 (Nat.le_of_ble_eq_true rfl) (Nat.le_of_ble_eq_true rfl) (fun b1 H locs hw G => ?_)
              obtain ⟨w2_33, g1_34, s2_35, x2_36, rfl, h_37, h_38, h_39, h_40⟩ := hw
              have G : zS T A s.heap s [[(xo, .inr (10, [.ref t, .ref im, .ref mk, .ref rd, .ref po, .ref co, .ref tr, .ref wa, .ref wb_, .ref fi, .ref cd]))], z1_, wt, w2_33, z0_] _ _ := G
              have hQ2 : zP3 g1_34 g3_26 := by rw [h_38]; exact zRunN_I _ _ _ _ hQx
              have hZ2n : x2_36 = zAk g2_25 g3_26 k20_ a_ g1_24 i := by rw [h_40, hZ1]; rfl
              refine lv_aload_n hx hb dX11_share_75 rfl (lv_at hl 3 rfl) ?_
              refine z_get C G clX11 0 rfl 4 (by decide) m_fl_RX11_34 rfl dX11_share_76 ?_
              obtain ⟨a1_42, a2_43, a3_44, rfl⟩ := h_37
              have G : zS T A s.heap s [[(xo, .inr (10, [.ref t, .ref im, .ref mk, .ref rd, .ref po, .ref co, .ref tr, .ref wa, .ref wb_, .ref fi, .ref cd]))], z1_, wt, [(po, .inr (6, [.ref l0, .ref a1_42, .ref a2_43, .int s2_35, .int x2_36, .ref a3_44]))], [(a1_42, .inl (T.2 0, 7, .inl g1_34))], [(a2_43, .inl (T.2 0, 7, .inl g2_25))], [(a3_44, .inl (T.2 0, 7, .inl g3_26))], z0_] _ _ := G.re rfl
              refine z_get C G clX6 3 rfl 4 (by decide) m_fl_RX11_211 rfl dX11_share_79 ?_
              refine lv_iload hx hb dX11_share_82 (lv_at hl 7 rfl) ?_
              refine lv_icmp_ne (tgt := 90) hx hb dX11_share_84 (by decide) (fun c_45 => ?_) (fun c_45 => ?_)
              · have c_45n : ¬ x2_36.toInt = n.toInt := fun q => c_45 ((fa_eq _ _).mpr q)
                refine lv_iinc (v := nI (i + 1)) (lv' := [(7, .int (nI (i + 1))), (6, .int u6), (5, .ref l0), (0, .ref xo), (1, .int i1), (2, .int a_), (3, .int k_), (4, .int n)]) hx hb dX11_share_90 hl (k := 0) rfl (z_inc i 1) (by decide) rfl (fun ls hl => ?_)
                refine lv_goto (tgt := 61) hx hb dX11_share_93 (by decide) ?_
                have hw_46 : bPosts T po l0 g1_34 g2_25 g3_26 s2_35 x2_36 [(po, .inr (6, [.ref l0, .ref a1_42, .ref a2_43, .int s2_35, .int x2_36, .ref a3_44])), (a1_42, .inl (T.2 0, 7, .inl g1_34)), (a2_43, .inl (T.2 0, 7, .inl g2_25)), (a3_44, .inl (T.2 0, 7, .inl g3_26))] := ⟨a1_42, a2_43, a3_44, rfl⟩
                have G : zS T A s.heap s [[(xo, .inr (10, [.ref t, .ref im, .ref mk, .ref rd, .ref po, .ref co, .ref tr, .ref wa, .ref wb_, .ref fi, .ref cd]))], z1_, wt, [(po, .inr (6, [.ref l0, .ref a1_42, .ref a2_43, .int s2_35, .int x2_36, .ref a3_44])), (a1_42, .inl (T.2 0, 7, .inl g1_34)), (a2_43, .inl (T.2 0, 7, .inl g2_25)), (a3_44, .inl (T.2 0, 7, .inl g3_26))], z0_] _ _ := G.re rfl
                exact ih_61 ((i + 1), ([(po, .inr (6, [.ref l0, .ref a1_42, .ref a2_43, .int s2_35, .int x2_36, .ref a3_44])), (a1_42, .inl (T.2 0, 7, .inl g1_34)), (a2_43, .inl (T.2 0, 7, .inl g2_25)), (a3_44, .inl (T.2 0, 7, .inl g3_26))]), g1_34, s2_35, x2_36, u6) (show bPosts T po l0 g1_34 g2_25 g3_26 s2_35 x2_36 ([(po, .inr (6, [.ref l0, .ref a1_42, .ref a2_43, .int s2_35, .int x2_36, .ref a3_44])), (a1_42, .inl (T.2 0, 7, .inl g1_34)), (a2_43, .inl (T.2 0, 7, .inl g2_25)), (a3_44, .inl (T.2 0, 7, .inl g3_26))]) ∧ (i + 1) ≤ 99 ∧ zP3 g1_34 g3_26 ∧ g1_34 = zPk g2_25 g3_26 k20_ a_ g1_24 (i + 1) ∧ ((i + 1) : Int) ≤ k_.toInt ∧ u6 = zSh g2_25 g3_26 k20_ a_ g1_24 n (i + 1) from ⟨hw_46, by omega, hQ2, (by rw [h_38, hZ1]; rfl), by omega, (by rw [zSh, ← hZ2n, if_neg (by assumption), ← hU])⟩) (show 99 - (i + 1) < 99 - i from by omega) _ _ ls G (lv_sub hl [0, 1, 2, 3, 4, 5, 6, 7] rfl)
              · have c_45n : x2_36.toInt = n.toInt := (fa_eq _ _).mp c_45
                refine lv_iinc (v := u6 + 1) (lv' := [(6, .int (u6 + 1)), (7, .int (nI i)), (5, .ref l0), (0, .ref xo), (1, .int i1), (2, .int a_), (3, .int k_), (4, .int n)]) hx hb dX11_share_87 hl (k := 1) rfl rfl (by decide) rfl (fun ls hl => ?_)
                refine lv_iinc (v := nI (i + 1)) (lv' := [(7, .int (nI (i + 1))), (6, .int (u6 + 1)), (5, .ref l0), (0, .ref xo), (1, .int i1), (2, .int a_), (3, .int k_), (4, .int n)]) hx hb dX11_share_90 hl (k := 1) rfl (z_inc i 1) (by decide) rfl (fun ls hl => ?_)
                refine lv_goto (tgt := 61) hx hb dX11_share_93 (by decide) ?_
                have hw_47 : bPosts T po l0 g1_34 g2_25 g3_26 s2_35 x2_36 [(po, .inr (6, [.ref l0, .ref a1_42, .ref a2_43, .int s2_35, .int x2_36, .ref a3_44])), (a1_42, .inl (T.2 0, 7, .inl g1_34)), (a2_43, .inl (T.2 0, 7, .inl g2_25)), (a3_44, .inl (T.2 0, 7, .inl g3_26))] := ⟨a1_42, a2_43, a3_44, rfl⟩
                have G : zS T A s.heap s [[(xo, .inr (10, [.ref t, .ref im, .ref mk, .ref rd, .ref po, .ref co, .ref tr, .ref wa, .ref wb_, .ref fi, .ref cd]))], z1_, wt, [(po, .inr (6, [.ref l0, .ref a1_42, .ref a2_43, .int s2_35, .int x2_36, .ref a3_44])), (a1_42, .inl (T.2 0, 7, .inl g1_34)), (a2_43, .inl (T.2 0, 7, .inl g2_25)), (a3_44, .inl (T.2 0, 7, .inl g3_26))], z0_] _ _ := G.re rfl
                exact ih_61 ((i + 1), ([(po, .inr (6, [.ref l0, .ref a1_42, .ref a2_43, .int s2_35, .int x2_36, .ref a3_44])), (a1_42, .inl (T.2 0, 7, .inl g1_34)), (a2_43, .inl (T.2 0, 7, .inl g2_25)), (a3_44, .inl (T.2 0, 7, .inl g3_26))]), g1_34, s2_35, x2_36, (u6 + 1)) (show bPosts T po l0 g1_34 g2_25 g3_26 s2_35 x2_36 ([(po, .inr (6, [.ref l0, .ref a1_42, .ref a2_43, .int s2_35, .int x2_36, .ref a3_44])), (a1_42, .inl (T.2 0, 7, .inl g1_34)), (a2_43, .inl (T.2 0, 7, .inl g2_25)), (a3_44, .inl (T.2 0, 7, .inl g3_26))]) ∧ (i + 1) ≤ 99 ∧ zP3 g1_34 g3_26 ∧ g1_34 = zPk g2_25 g3_26 k20_ a_ g1_24 (i + 1) ∧ ((i + 1) : Int) ≤ k_.toInt ∧ (u6 + 1) = zSh g2_25 g3_26 k20_ a_ g1_24 n (i + 1) from ⟨hw_47, by omega, hQ2, (by rw [h_38, hZ1]; rfl), by omega, (by rw [zSh, ← hZ2n, if_pos (by assumption), ← hU])⟩) (show 99 - (i + 1) < 99 - i from by omega) _ _ ls G (lv_sub hl [0, 1, 2, 3, 4, 5, 6, 7] rfl)
          · have c_22n : ¬ k_.toInt ≤ (99 : Int) := fun q => c_22 ((fa_le _ _).mpr q)
            refine lv_iconst (v := (-1)) hx hb dX11_share_44 (by decide) ?_
            have G := G.sub (bs' := [[(xo, .inr (10, [.ref t, .ref im, .ref mk, .ref rd, .ref po, .ref co, .ref tr, .ref wa, .ref wb_, .ref fi, .ref cd]))], wt, z0_, z1_, wp]) [0, 3, 4, 1, 2] rfl
            exact z_iret C hr hlocks G (Nat.le_of_ble_eq_true rfl) (Nat.le_of_ble_eq_true rfl) dX11_share_45 ⟨lp, f1, f2, f3, st, wh, wp, rfl, hp, (Or.inr (Or.inl ⟨by assumption, by assumption, (by have q9 := hI0_.1; unfold kShare; rw [if_neg (fun q8 => by first | omega | (rcases hni with e9 | e9 | e9 | e9 <;> first | omega | exact zBit_o q8.2.2.1 e9))])⟩))⟩
      · have h_20 : (n.toInt < 0 ∨ cr0_.toInt ≤ n.toInt ∨ 7 ≤ n.toInt ∨ zBit inn0_ n = 0) := h_20
        have hni := h_20
        refine lv_if_eq (tgt := 44) hx hb dX11_share_31 (by decide) (fun _ => ?_) (fun q => absurd (by decide) q)
        refine lv_iconst (v := (-1)) hx hb dX11_share_44 (by decide) ?_
        have G := G.sub (bs' := [[(xo, .inr (10, [.ref t, .ref im, .ref mk, .ref rd, .ref po, .ref co, .ref tr, .ref wa, .ref wb_, .ref fi, .ref cd]))], wt, z0_, z1_, wp]) [0, 3, 4, 1, 2] rfl
        exact z_iret C hr hlocks G (Nat.le_of_ble_eq_true rfl) (Nat.le_of_ble_eq_true rfl) dX11_share_45 ⟨lp, f1, f2, f3, st, wh, wp, rfl, hp, (Or.inr (Or.inl ⟨by assumption, by assumption, (by have q9 := hI0_.1; unfold kShare; rw [if_neg (fun q8 => by first | omega | (rcases hni with e9 | e9 | e9 | e9 <;> first | omega | exact zBit_o q8.2.2.1 e9))])⟩))⟩
    · have h_13 : (a_.toInt < 0 ∨ cr0_.toInt ≤ a_.toInt ∨ 7 ≤ a_.toInt) := h_13
      refine lv_if_eq (tgt := 44) hx hb dX11_share_21 (by decide) (fun _ => ?_) (fun q => absurd (by decide) q)
      refine lv_iconst (v := (-1)) hx hb dX11_share_44 (by decide) ?_
      have G := G.sub (bs' := [[(xo, .inr (10, [.ref t, .ref im, .ref mk, .ref rd, .ref po, .ref co, .ref tr, .ref wa, .ref wb_, .ref fi, .ref cd]))], wt, z0_, z1_, wp]) [0, 3, 4, 1, 2] rfl
      exact z_iret C hr hlocks G (Nat.le_of_ble_eq_true rfl) (Nat.le_of_ble_eq_true rfl) dX11_share_45 ⟨lp, f1, f2, f3, st, wh, wp, rfl, hp, (Or.inr (Or.inl ⟨by assumption, by assumption, (by have q9 := hI0_.1; unfold kShare; rw [if_neg (fun q8 => by first | omega | (rcases hni with e9 | e9 | e9 | e9 <;> first | omega | exact zBit_o q8.2.2.1 e9))])⟩))⟩
  · have h_6 : i1.toInt = 1 := h_6
    have h_7 : 1 < (fk 0).toInt := h_7
    refine lv_astore (lv' := [(5, .ref l1), (0, .ref xo), (1, .int i1), (2, .int a_), (3, .int k_), (4, .int n)]) hx hb dX11_share_8 hl (by decide) rfl (fun ls hl => ?_)
    refine lv_aload hx hb dX11_share_10 (lv_at hl 0 rfl) ?_
    refine lv_ifnull hx hb dX11_share_12 ?_
    refine lv_aload hx hb dX11_share_15 (lv_at hl 0 rfl) ?_
    refine lv_iload_n hx hb dX11_share_17 rfl (lv_at hl 3 rfl) ?_
    refine z_Vi (bc := [z1_]) (br := [[(xo, .inr (10, [.ref t, .ref im, .ref mk, .ref rd, .ref po, .ref co, .ref tr, .ref wa, .ref wb_, .ref fi, .ref cd]))], z0_, wp, wt]) (As := [.int a_]) (rest := []) C G (c_has l T l1 cr1_ inn1_ k11_ k21_ k31_ k41_ z1_ a_ hz1_) (kV_RX11_160 C.2.2.2.2 (Nat.le_of_ble_eq_true rfl) (Nat.le_of_ble_eq_true rfl)) [2] [0, 1, 3, 4] rfl rfl (ci := 4) (qc := (RX4, TX4, 6)) rfl rfl (List.mem_flatten.mpr ⟨_, List.mem_of_getElem? (i := 0) rfl, (bLand_mem hz1_).choose_spec⟩) rfl rfl hl.1 dX11_share_18 (Nat.le_of_ble_eq_true rfl) (Nat.le_of_ble_eq_true rfl) (fun r_49 b1 H locs hw G => ?_)
    obtain ⟨rfl, hc_48⟩ := hw
    have G : zS T A s.heap s [[(xo, .inr (10, [.ref t, .ref im, .ref mk, .ref rd, .ref po, .ref co, .ref tr, .ref wa, .ref wb_, .ref fi, .ref cd]))], z0_, wp, wt, z1_] _ _ := G
    rcases hc_48 with ⟨rfl, h_50, h_51, h_52⟩ | ⟨rfl, h_53⟩
    · have h_50 : 0 ≤ a_.toInt := h_50
      have h_51 : a_.toInt < cr1_.toInt := h_51
      have h_52 : a_.toInt < 7 := h_52
      refine lv_if_eq (tgt := 44) hx hb dX11_share_21 (by decide) (fun q => absurd q (by decide)) (fun _ => ?_)
      refine lv_aload hx hb dX11_share_24 (lv_at hl 0 rfl) ?_
      refine lv_iload hx hb dX11_share_26 (lv_at hl 5 rfl) ?_
      refine z_Vi (bc := [z1_]) (br := [[(xo, .inr (10, [.ref t, .ref im, .ref mk, .ref rd, .ref po, .ref co, .ref tr, .ref wa, .ref wb_, .ref fi, .ref cd]))], z0_, wp, wt]) (As := [.int n]) (rest := []) C G (c_isInn l T l1 cr1_ inn1_ k11_ k21_ k31_ k41_ z1_ n hz1_) (kV_RX11_174 C.2.2.2.2 (Nat.le_of_ble_eq_true rfl) (Nat.le_of_ble_eq_true rfl)) [4] [0, 1, 2, 3] rfl rfl (ci := 4) (qc := (RX4, TX4, 6)) rfl rfl (List.mem_flatten.mpr ⟨_, List.mem_of_getElem? (i := 0) rfl, (bLand_mem hz1_).choose_spec⟩) rfl rfl hl.1 dX11_share_28 (Nat.le_of_ble_eq_true rfl) (Nat.le_of_ble_eq_true rfl) (fun r_55 b1 H locs hw G => ?_)
      obtain ⟨rfl, hc_54⟩ := hw
      have G : zS T A s.heap s [[(xo, .inr (10, [.ref t, .ref im, .ref mk, .ref rd, .ref po, .ref co, .ref tr, .ref wa, .ref wb_, .ref fi, .ref cd]))], z0_, wp, wt, z1_] _ _ := G
      rcases hc_54 with ⟨rfl, h_56, h_57, h_58, h_59⟩ | ⟨rfl, h_60⟩
      · have h_56 : 0 ≤ n.toInt := h_56
        have h_57 : n.toInt < cr1_.toInt := h_57
        have h_58 : n.toInt < 7 := h_58
        have h_59 : ¬ zBit inn1_ n = 0 := h_59
        refine lv_if_eq (tgt := 44) hx hb dX11_share_31 (by decide) (fun q => absurd q (by decide)) (fun _ => ?_)
        refine lv_iload_n hx hb dX11_share_34 rfl (lv_at hl 4 rfl) ?_
        refine lv_if_lt (tgt := 44) hx hb dX11_share_35 (by decide) (fun c_61 => ?_) (fun c_61 => ?_)
        · have c_61n : k_.toInt < (0 : Int) := (fa_lt _ _).mp c_61
          refine lv_iconst (v := (-1)) hx hb dX11_share_44 (by decide) ?_
          have G := G.sub (bs' := [[(xo, .inr (10, [.ref t, .ref im, .ref mk, .ref rd, .ref po, .ref co, .ref tr, .ref wa, .ref wb_, .ref fi, .ref cd]))], wt, z0_, z1_, wp]) [0, 3, 1, 4, 2] rfl
          exact z_iret C hr hlocks G (Nat.le_of_ble_eq_true rfl) (Nat.le_of_ble_eq_true rfl) dX11_share_45 ⟨lp, f1, f2, f3, st, wh, wp, rfl, hp, (Or.inr (Or.inr ⟨by assumption, by assumption, (by have q9 := hI1_.1; unfold kShare; rw [if_neg (fun q8 => by first | omega | (rcases hni with e9 | e9 | e9 | e9 <;> first | omega | exact zBit_o q8.2.2.1 e9))])⟩))⟩
        · have c_61n : ¬ k_.toInt < (0 : Int) := fun q => c_61 ((fa_lt _ _).mpr q)
          refine lv_iload_n hx hb dX11_share_38 rfl (lv_at hl 4 rfl) ?_
          refine lv_bipush (v := 99) hx hb dX11_share_39 (by decide) ?_
          refine lv_icmp_le (tgt := 46) hx hb dX11_share_41 (by decide) (fun c_62 => ?_) (fun c_62 => ?_)
          · have c_62n : k_.toInt ≤ (99 : Int) := (fa_le _ _).mp c_62
            refine lv_iconst (v := 0) hx hb dX11_share_46 (by decide) ?_
            refine lv_istore (lv' := [(6, .int 0), (5, .ref l1), (0, .ref xo), (1, .int i1), (2, .int a_), (3, .int k_), (4, .int n)]) hx hb dX11_share_47 hl (by decide) rfl (fun ls hl => ?_)
            refine lv_aload_n hx hb dX11_share_49 rfl (lv_at hl 2 rfl) ?_
            refine z_get C G clX11 0 rfl 4 (by decide) m_fl_RX11_34 rfl dX11_share_50 ?_
            refine lv_aload hx hb dX11_share_53 (lv_at hl 1 rfl) ?_
            refine z_Vv (bc := [wp, z1_]) (br := [[(xo, .inr (10, [.ref t, .ref im, .ref mk, .ref rd, .ref po, .ref co, .ref tr, .ref wa, .ref wb_, .ref fi, .ref cd]))], z0_, wt]) (As := [.ref l1]) (rest := []) C G (c_Posts_begin l T po lp f1 f2 f3 st wh wp l1 cr1_ inn1_ k11_ k21_ k31_ k41_ z1_ hp hz1_) (kV_RX11_205 C.2.2.2.2 (Nat.le_of_ble_eq_true rfl) (Nat.le_of_ble_eq_true rfl)) [2, 4] [0, 1, 3] rfl rfl (ci := 6) (qc := (RX6, TX6, 6)) rfl rfl (List.mem_flatten.mpr ⟨_, List.mem_of_getElem? (i := 0) rfl, (bPosts_mem hp).choose_spec⟩) rfl rfl hl.1 dX11_share_55 (Nat.le_of_ble_eq_true rfl) (Nat.le_of_ble_eq_true rfl) (fun b1 H locs hw G => ?_)
            obtain ⟨w2_63, g1_64, g2_65, g3_66, rfl, h_67, h_68, h_69, h_70⟩ := hw
            have G : zS T A s.heap s [[(xo, .inr (10, [.ref t, .ref im, .ref mk, .ref rd, .ref po, .ref co, .ref tr, .ref wa, .ref wb_, .ref fi, .ref cd]))], z0_, wt, w2_63, z1_] _ _ := G
            have hQ : zP3 g1_64 g3_66 := z_P3 hI1_ h_68 h_70
            refine lv_iconst (v := 0) hx hb dX11_share_58 (by decide) ?_
            refine lv_istore (lv' := [(7, .int 0), (6, .int 0), (5, .ref l1), (0, .ref xo), (1, .int i1), (2, .int a_), (3, .int k_), (4, .int n)]) hx hb dX11_share_59 hl (by decide) rfl (fun ls hl => ?_)
            refine z_loop (T := T) (α := Nat × va_W × (Nat → Int32) × Int32 × Int32 × Int32) 61 (fun (i, wp3, x1, sx, wx, u6) => [[(xo, .inr (10, [.ref t, .ref im, .ref mk, .ref rd, .ref po, .ref co, .ref tr, .ref wa, .ref wb_, .ref fi, .ref cd]))], z0_, wt, wp3, z1_]) (fun (i, wp3, x1, sx, wx, u6) => [(7, .int (nI i)), (6, .int u6), (5, .ref l1), (0, .ref xo), (1, .int i1), (2, .int a_), (3, .int k_), (4, .int n)]) (fun (i, wp3, x1, sx, wx, u6) => bPosts T po l1 x1 g2_65 g3_66 sx wx wp3 ∧ i ≤ 99 ∧ zP3 x1 g3_66 ∧ x1 = zPk g2_65 g3_66 k21_ a_ g1_64 i ∧ (i : Int) ≤ k_.toInt ∧ u6 = zSh g2_65 g3_66 k21_ a_ g1_64 n i) (fun (i, wp3, x1, sx, wx, u6) => 99 - i) ?_ (0, w2_63, g1_64, 0, 0, 0) (show bPosts T po l1 g1_64 g2_65 g3_66 0 0 w2_63 ∧ 0 ≤ 99 ∧ zP3 g1_64 g3_66 ∧ g1_64 = zPk g2_65 g3_66 k21_ a_ g1_64 0 ∧ (0 : Int) ≤ k_.toInt ∧ 0 = zSh g2_65 g3_66 k21_ a_ g1_64 n 0 from ⟨h_67, by omega, hQ, rfl, by omega, rfl⟩) G (lv_sub hl [0, 1, 2, 3, 4, 5, 6, 7] rfl)
            rintro ⟨i, wp3, x1, sx, wx, u6⟩ ⟨hp3, hi, hQx, hZ1, hik, hU⟩ ih_61 H locs ls G hl
            replace hp3 : bPosts T po l1 x1 g2_65 g3_66 sx wx wp3 := hp3
            replace hi : i ≤ 99 := hi
            replace hQx : zP3 x1 g3_66 := hQx
            replace hZ1 : x1 = zPk g2_65 g3_66 k21_ a_ g1_64 i := hZ1
            replace hik : (i : Int) ≤ k_.toInt := hik
            replace hU : u6 = zSh g2_65 g3_66 k21_ a_ g1_64 n i := hU
            replace G : zS T A s.heap s [[(xo, .inr (10, [.ref t, .ref im, .ref mk, .ref rd, .ref po, .ref co, .ref tr, .ref wa, .ref wb_, .ref fi, .ref cd]))], z0_, wt, wp3, z1_] _ _ := G
            replace hl : lv_has ls 8 [(7, .int (nI i)), (6, .int u6), (5, .ref l1), (0, .ref xo), (1, .int i1), (2, .int a_), (3, .int k_), (4, .int n)] := hl
            refine lv_iload hx hb dX11_share_61 (lv_at hl 0 rfl) ?_
            refine lv_iload_n hx hb dX11_share_63 rfl (lv_at hl 6 rfl) ?_
            refine lv_icmp_ge (tgt := 96) hx hb dX11_share_64 (by decide) (fun c_72 => ?_) (fun c_72 => ?_)
            · have c_72n : k_.toInt ≤ (i : Int) := by have q := (fa_le _ _).mp c_72; rw [nI_toInt (n := i) (by omega)] at q; exact q
              refine lv_iload hx hb dX11_share_96 (lv_at hl 1 rfl) ?_
              have G := G.sub (bs' := [[(xo, .inr (10, [.ref t, .ref im, .ref mk, .ref rd, .ref po, .ref co, .ref tr, .ref wa, .ref wb_, .ref fi, .ref cd]))], wt, z0_, z1_, wp3]) [0, 2, 1, 4, 3] rfl
              exact z_iret C hr hlocks G (Nat.le_of_ble_eq_true rfl) (Nat.le_of_ble_eq_true rfl) dX11_share_98 ⟨l1, x1, g2_65, g3_66, sx, wx, wp3, rfl, hp3, (Or.inr (Or.inr ⟨by assumption, by assumption, (by have q9 := hI1_.1; unfold kShare; rw [if_pos ⟨⟨by omega, by omega⟩, ⟨by omega, by omega⟩, zBit_p (by assumption), by omega, by omega⟩, hU, show k_.toInt.toNat = i by omega]; exact zSh_cg (h_69) (h_70) zLs_rf hQ (h_68) _)⟩))⟩
            · have c_72n : ¬ k_.toInt ≤ (i : Int) := fun q => c_72 ((fa_le _ _).mpr (by rw [nI_toInt (n := i) (by omega)]; exact q))
              refine lv_aload_n hx hb dX11_share_67 rfl (lv_at hl 3 rfl) ?_
              refine z_get C G clX11 0 rfl 4 (by decide) m_fl_RX11_34 rfl dX11_share_68 ?_
              refine lv_iload_n hx hb dX11_share_71 rfl (lv_at hl 5 rfl) ?_
              refine z_Vv (bc := [wp3, z1_]) (br := [[(xo, .inr (10, [.ref t, .ref im, .ref mk, .ref rd, .ref po, .ref co, .ref tr, .ref wa, .ref wb_, .ref fi, .ref cd]))], z0_, wt]) (As := [.int a_]) (rest := []) C G (c_Posts_run l T po l1 x1 g2_65 g3_66 sx wx wp3 cr1_ inn1_ k11_ k21_ k31_ k41_ z1_ a_ hp3 hz1_ (by first | assumption | omega | rfl)) (kV_RX11_208 C.2.2.2.2 (Nat.le_of_ble_eq_true rfl) (Nat.le_of_ble_eq_true rfl)) [3, 4] [0, 1, 2] rfl rfl (ci := 6) (qc := (RX6, TX6, 6)) rfl rfl (List.mem_flatten.mpr ⟨_, List.mem_of_getElem? (i := 0) rfl, (bPosts_mem hp3).choose_spec⟩) rfl rfl hl.1 dX11_share_72 (Nat.le_of_ble_eq_true rfl) (Nat.le_of_ble_eq_true rfl) (fun b1 H locs hw G => ?_)
              obtain ⟨w2_73, g1_74, s2_75, x2_76, rfl, h_77, h_78, h_79, h_80⟩ := hw
              have G : zS T A s.heap s [[(xo, .inr (10, [.ref t, .ref im, .ref mk, .ref rd, .ref po, .ref co, .ref tr, .ref wa, .ref wb_, .ref fi, .ref cd]))], z0_, wt, w2_73, z1_] _ _ := G
              have hQ2 : zP3 g1_74 g3_66 := by rw [h_78]; exact zRunN_I _ _ _ _ hQx
              have hZ2n : x2_76 = zAk g2_65 g3_66 k21_ a_ g1_64 i := by rw [h_80, hZ1]; rfl
              refine lv_aload_n hx hb dX11_share_75 rfl (lv_at hl 3 rfl) ?_
              refine z_get C G clX11 0 rfl 4 (by decide) m_fl_RX11_34 rfl dX11_share_76 ?_
              obtain ⟨a1_82, a2_83, a3_84, rfl⟩ := h_77
              have G : zS T A s.heap s [[(xo, .inr (10, [.ref t, .ref im, .ref mk, .ref rd, .ref po, .ref co, .ref tr, .ref wa, .ref wb_, .ref fi, .ref cd]))], z0_, wt, [(po, .inr (6, [.ref l1, .ref a1_82, .ref a2_83, .int s2_75, .int x2_76, .ref a3_84]))], [(a1_82, .inl (T.2 0, 7, .inl g1_74))], [(a2_83, .inl (T.2 0, 7, .inl g2_65))], [(a3_84, .inl (T.2 0, 7, .inl g3_66))], z1_] _ _ := G.re rfl
              refine z_get C G clX6 3 rfl 4 (by decide) m_fl_RX11_211 rfl dX11_share_79 ?_
              refine lv_iload hx hb dX11_share_82 (lv_at hl 7 rfl) ?_
              refine lv_icmp_ne (tgt := 90) hx hb dX11_share_84 (by decide) (fun c_85 => ?_) (fun c_85 => ?_)
              · have c_85n : ¬ x2_76.toInt = n.toInt := fun q => c_85 ((fa_eq _ _).mpr q)
                refine lv_iinc (v := nI (i + 1)) (lv' := [(7, .int (nI (i + 1))), (6, .int u6), (5, .ref l1), (0, .ref xo), (1, .int i1), (2, .int a_), (3, .int k_), (4, .int n)]) hx hb dX11_share_90 hl (k := 0) rfl (z_inc i 1) (by decide) rfl (fun ls hl => ?_)
                refine lv_goto (tgt := 61) hx hb dX11_share_93 (by decide) ?_
                have hw_86 : bPosts T po l1 g1_74 g2_65 g3_66 s2_75 x2_76 [(po, .inr (6, [.ref l1, .ref a1_82, .ref a2_83, .int s2_75, .int x2_76, .ref a3_84])), (a1_82, .inl (T.2 0, 7, .inl g1_74)), (a2_83, .inl (T.2 0, 7, .inl g2_65)), (a3_84, .inl (T.2 0, 7, .inl g3_66))] := ⟨a1_82, a2_83, a3_84, rfl⟩
                have G : zS T A s.heap s [[(xo, .inr (10, [.ref t, .ref im, .ref mk, .ref rd, .ref po, .ref co, .ref tr, .ref wa, .ref wb_, .ref fi, .ref cd]))], z0_, wt, [(po, .inr (6, [.ref l1, .ref a1_82, .ref a2_83, .int s2_75, .int x2_76, .ref a3_84])), (a1_82, .inl (T.2 0, 7, .inl g1_74)), (a2_83, .inl (T.2 0, 7, .inl g2_65)), (a3_84, .inl (T.2 0, 7, .inl g3_66))], z1_] _ _ := G.re rfl
                exact ih_61 ((i + 1), ([(po, .inr (6, [.ref l1, .ref a1_82, .ref a2_83, .int s2_75, .int x2_76, .ref a3_84])), (a1_82, .inl (T.2 0, 7, .inl g1_74)), (a2_83, .inl (T.2 0, 7, .inl g2_65)), (a3_84, .inl (T.2 0, 7, .inl g3_66))]), g1_74, s2_75, x2_76, u6) (show bPosts T po l1 g1_74 g2_65 g3_66 s2_75 x2_76 ([(po, .inr (6, [.ref l1, .ref a1_82, .ref a2_83, .int s2_75, .int x2_76, .ref a3_84])), (a1_82, .inl (T.2 0, 7, .inl g1_74)), (a2_83, .inl (T.2 0, 7, .inl g2_65)), (a3_84, .inl (T.2 0, 7, .inl g3_66))]) ∧ (i + 1) ≤ 99 ∧ zP3 g1_74 g3_66 ∧ g1_74 = zPk g2_65 g3_66 k21_ a_ g1_64 (i + 1) ∧ ((i + 1) : Int) ≤ k_.toInt ∧ u6 = zSh g2_65 g3_66 k21_ a_ g1_64 n (i + 1) from ⟨hw_86, by omega, hQ2, (by rw [h_78, hZ1]; rfl), by omega, (by rw [zSh, ← hZ2n, if_neg (by assumption), ← hU])⟩) (show 99 - (i + 1) < 99 - i from by omega) _ _ ls G (lv_sub hl [0, 1, 2, 3, 4, 5, 6, 7] rfl)
              · have c_85n : x2_76.toInt = n.toInt := (fa_eq _ _).mp c_85
                refine lv_iinc (v := u6 + 1) (lv' := [(6, .int (u6 + 1)), (7, .int (nI i)), (5, .ref l1), (0, .ref xo), (1, .int i1), (2, .int a_), (3, .int k_), (4, .int n)]) hx hb dX11_share_87 hl (k := 1) rfl rfl (by decide) rfl (fun ls hl => ?_)
                refine lv_iinc (v := nI (i + 1)) (lv' := [(7, .int (nI (i + 1))), (6, .int (u6 + 1)), (5, .ref l1), (0, .ref xo), (1, .int i1), (2, .int a_), (3, .int k_), (4, .int n)]) hx hb dX11_share_90 hl (k := 1) rfl (z_inc i 1) (by decide) rfl (fun ls hl => ?_)
                refine lv_goto (tgt := 61) hx hb dX11_share_93 (by decide) ?_
                have hw_87 : bPosts T po l1 g1_74 g2_65 g3_66 s2_75 x2_76 [(po, .inr (6, [.ref l1, .ref a1_82, .ref a2_83, .int s2_75, .int x2_76, .ref a3_84])), (a1_82, .inl (T.2 0, 7, .inl g1_74)), (a2_83, .inl (T.2 0, 7, .inl g2_65)), (a3_84, .inl (T.2 0, 7, .inl g3_66))] := ⟨a1_82, a2_83, a3_84, rfl⟩
                have G : zS T A s.heap s [[(xo, .inr (10, [.ref t, .ref im, .ref mk, .ref rd, .ref po, .ref co, .ref tr, .ref wa, .ref wb_, .ref fi, .ref cd]))], z0_, wt, [(po, .inr (6, [.ref l1, .ref a1_82, .ref a2_83, .int s2_75, .int x2_76, .ref a3_84])), (a1_82, .inl (T.2 0, 7, .inl g1_74)), (a2_83, .inl (T.2 0, 7, .inl g2_65)), (a3_84, .inl (T.2 0, 7, .inl g3_66))], z1_] _ _ := G.re rfl
                exact ih_61 ((i + 1), ([(po, .inr (6, [.ref l1, .ref a1_82, .ref a2_83, .int s2_75, .int x2_76, .ref a3_84])), (a1_82, .inl (T.2 0, 7, .inl g1_74)), (a2_83, .inl (T.2 0, 7, .inl g2_65)), (a3_84, .inl (T.2 0, 7, .inl g3_66))]), g1_74, s2_75, x2_76, (u6 + 1)) (show bPosts T po l1 g1_74 g2_65 g3_66 s2_75 x2_76 ([(po, .inr (6, [.ref l1, .ref a1_82, .ref a2_83, .int s2_75, .int x2_76, .ref a3_84])), (a1_82, .inl (T.2 0, 7, .inl g1_74)), (a2_83, .inl (T.2 0, 7, .inl g2_65)), (a3_84, .inl (T.2 0, 7, .inl g3_66))]) ∧ (i + 1) ≤ 99 ∧ zP3 g1_74 g3_66 ∧ g1_74 = zPk g2_65 g3_66 k21_ a_ g1_64 (i + 1) ∧ ((i + 1) : Int) ≤ k_.toInt ∧ (u6 + 1) = zSh g2_65 g3_66 k21_ a_ g1_64 n (i + 1) from ⟨hw_87, by omega, hQ2, (by rw [h_78, hZ1]; rfl), by omega, (by rw [zSh, ← hZ2n, if_pos (by assumption), ← hU])⟩) (show 99 - (i + 1) < 99 - i from by omega) _ _ ls G (lv_sub hl [0, 1, 2, 3, 4, 5, 6, 7] rfl)
          · have c_62n : ¬ k_.toInt ≤ (99 : Int) := fun q => c_62 ((fa_le _ _).mpr q)
            refine lv_iconst (v := (-1)) hx hb dX11_share_44 (by decide) ?_
            have G := G.sub (bs' := [[(xo, .inr (10, [.ref t, .ref im, .ref mk, .ref rd, .ref po, .ref co, .ref tr, .ref wa, .ref wb_, .ref fi, .ref cd]))], wt, z0_, z1_, wp]) [0, 3, 1, 4, 2] rfl
            exact z_iret C hr hlocks G (Nat.le_of_ble_eq_true rfl) (Nat.le_of_ble_eq_true rfl) dX11_share_45 ⟨lp, f1, f2, f3, st, wh, wp, rfl, hp, (Or.inr (Or.inr ⟨by assumption, by assumption, (by have q9 := hI1_.1; unfold kShare; rw [if_neg (fun q8 => by first | omega | (rcases hni with e9 | e9 | e9 | e9 <;> first | omega | exact zBit_o q8.2.2.1 e9))])⟩))⟩
      · have h_60 : (n.toInt < 0 ∨ cr1_.toInt ≤ n.toInt ∨ 7 ≤ n.toInt ∨ zBit inn1_ n = 0) := h_60
        have hni := h_60
        refine lv_if_eq (tgt := 44) hx hb dX11_share_31 (by decide) (fun _ => ?_) (fun q => absurd (by decide) q)
        refine lv_iconst (v := (-1)) hx hb dX11_share_44 (by decide) ?_
        have G := G.sub (bs' := [[(xo, .inr (10, [.ref t, .ref im, .ref mk, .ref rd, .ref po, .ref co, .ref tr, .ref wa, .ref wb_, .ref fi, .ref cd]))], wt, z0_, z1_, wp]) [0, 3, 1, 4, 2] rfl
        exact z_iret C hr hlocks G (Nat.le_of_ble_eq_true rfl) (Nat.le_of_ble_eq_true rfl) dX11_share_45 ⟨lp, f1, f2, f3, st, wh, wp, rfl, hp, (Or.inr (Or.inr ⟨by assumption, by assumption, (by have q9 := hI1_.1; unfold kShare; rw [if_neg (fun q8 => by first | omega | (rcases hni with e9 | e9 | e9 | e9 <;> first | omega | exact zBit_o q8.2.2.1 e9))])⟩))⟩
    · have h_53 : (a_.toInt < 0 ∨ cr1_.toInt ≤ a_.toInt ∨ 7 ≤ a_.toInt) := h_53
      refine lv_if_eq (tgt := 44) hx hb dX11_share_21 (by decide) (fun _ => ?_) (fun q => absurd (by decide) q)
      refine lv_iconst (v := (-1)) hx hb dX11_share_44 (by decide) ?_
      have G := G.sub (bs' := [[(xo, .inr (10, [.ref t, .ref im, .ref mk, .ref rd, .ref po, .ref co, .ref tr, .ref wa, .ref wb_, .ref fi, .ref cd]))], wt, z0_, z1_, wp]) [0, 3, 1, 4, 2] rfl
      exact z_iret C hr hlocks G (Nat.le_of_ble_eq_true rfl) (Nat.le_of_ble_eq_true rfl) dX11_share_45 ⟨lp, f1, f2, f3, st, wh, wp, rfl, hp, (Or.inr (Or.inr ⟨by assumption, by assumption, (by have q9 := hI1_.1; unfold kShare; rw [if_neg (fun q8 => by first | omega | (rcases hni with e9 | e9 | e9 | e9 <;> first | omega | exact zBit_o q8.2.2.1 e9))])⟩))⟩


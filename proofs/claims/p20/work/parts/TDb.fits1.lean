/-! by a log: who fits -/
def gSo (W L : Nat → Int32) (inn : Int32) (v : Nat) (c d : Int32) : Bool := if zBit inn (rWh W L v c) = 1 then decide (rWh W L v c = d) else decide (d = -1)
def gF (W L : Nat → Int32) (cr inn : Int32) (d1 d2 : Nat → Int32) (w : Nat) : Nat → Bool × Nat × Nat
  | 0 => (true, w, 0)
  | k + 1 => if (gF W L cr inn d1 d2 w k).1 = true ∧ (0 ≤ (d1 k).toInt ∧ (d1 k).toInt < cr.toInt) ∧ gSo W L inn (gF W L cr inn d1 d2 w k).2.1 (d1 k) (d2 k) = true then (true, rAf W L (gF W L cr inn d1 d2 w k).2.1 (d1 k), (gF W L cr inn d1 d2 w k).2.2 + rStp W L (gF W L cr inn d1 d2 w k).2.1 (d1 k)) else (false, (gF W L cr inn d1 d2 w k).2)
section GF
variable {W L : Nat → Int32} {cr inn : Int32} {d1 d2 : Nat → Int32} {w k th st : Nat}
theorem gF_y (h : gF W L cr inn d1 d2 w k = (true, th, st)) (hc : 0 ≤ (d1 k).toInt ∧ (d1 k).toInt < cr.toInt) (hs : gSo W L inn th (d1 k) (d2 k) = true) : gF W L cr inn d1 d2 w (k + 1) = (true, rAf W L th (d1 k), st + rStp W L th (d1 k)) := by
  unfold gF
  rw [h]
  exact if_pos ⟨rfl, hc, hs⟩
theorem gF_n (h : gF W L cr inn d1 d2 w k = (true, th, st)) (hs : ¬ ((0 ≤ (d1 k).toInt ∧ (d1 k).toInt < cr.toInt) ∧ gSo W L inn th (d1 k) (d2 k) = true)) : (gF W L cr inn d1 d2 w (k + 1)).1 = false := by
  unfold gF
  rw [h]
  rw [if_neg (fun q => hs q.2)]
theorem gF_f (h : (gF W L cr inn d1 d2 w k).1 = false) (m : Nat) : (gF W L cr inn d1 d2 w (k + m)).1 = false := by
  induction m with
  | zero => exact h
  | succ m ih =>
    have e : gF W L cr inn d1 d2 w (k + (m + 1)) = (false, (gF W L cr inn d1 d2 w (k + m)).2) := by
      show gF W L cr inn d1 d2 w ((k + m) + 1) = _
      exact if_neg (fun q => absurd q.1 (by rw [ih]; decide))
    rw [e]
theorem gF_g {g : Nat} (h : (gF W L cr inn d1 d2 w (k + 1)).1 = false) (hk : k < g) : (gF W L cr inn d1 d2 w g).1 = false := by
  have e := gF_f h (g - (k + 1))
  rw [show k + 1 + (g - (k + 1)) = g by omega] at e
  exact e
end GF
theorem gF_b {W L : Nat → Int32} {cr inn : Int32} {d1 d2 : Nat → Int32} {w : Nat} (hO : aOk W L) (h7 : cr.toInt ≤ 7) (hw : w < aPr W 7) (k : Nat) : (gF W L cr inn d1 d2 w k).2.1 < aPr W 7 ∧ (gF W L cr inn d1 d2 w k).2.2 ≤ 499 * k := by
  induction k with
  | zero => exact ⟨hw, Nat.zero_le _⟩
  | succ k ih =>
    unfold gF
    split
    · rename_i q
      have b := aE_b hO ih.1 (c := (d1 k).toInt.toNat) (by omega)
      have b1 : rAf W L (gF W L cr inn d1 d2 w k).2.1 (d1 k) < aPr W 7 := b.1
      have b2 := rStp_le (W := W) (L := L) (w := (gF W L cr inn d1 d2 w k).2.1) (c := d1 k)
      exact ⟨b1, by show (gF W L cr inn d1 d2 w k).2.2 + rStp W L _ _ ≤ 499 * (k + 1); omega⟩
    · exact ⟨ih.1, by show (gF W L cr inn d1 d2 w k).2.2 ≤ 499 * (k + 1); omega⟩
/-- how many of the first n fit; the least and the most steps -/
def gN (f : Nat → Bool × Nat × Nat) (n : Nat) : Nat := rCn (fun w => (f w).1) n
def gLM (f : Nat → Bool × Nat × Nat) : Nat → Int32 × Int32
  | 0 => (0, 0)
  | n + 1 => if (f n).1 = true then (if gN f n = 0 then nI (f n).2.2 else if nI (f n).2.2 < (gLM f n).1 then nI (f n).2.2 else (gLM f n).1, if (gLM f n).2 < nI (f n).2.2 then nI (f n).2.2 else (gLM f n).2) else gLM f n
def gRM (f : Nat → Bool × Nat × Nat) : Nat → Int32 × Int32
  | 0 => (-1, -1)
  | n + 1 => if (f n).1 = true then (if (gRM f n).1 = -1 ∨ nI (f n).2.2 < (gRM f n).1 then nI (f n).2.2 else (gRM f n).1, if (gRM f n).2 < nI (f n).2.2 then nI (f n).2.2 else (gRM f n).2) else gRM f n
theorem gN_t {f : Nat → Bool × Nat × Nat} {n : Nat} (h : (f n).1 = true) : gN f (n + 1) = gN f n + 1 := rCn_t (p := fun w => (f w).1) h
theorem gN_f {f : Nat → Bool × Nat × Nat} {n : Nat} (h : (f n).1 = false) : gN f (n + 1) = gN f n := rCn_f (p := fun w => (f w).1) (by rw [h]; decide)
theorem gN_le {f : Nat → Bool × Nat × Nat} (n : Nat) : gN f n ≤ n := rCn_le n
theorem gLM_t {f : Nat → Bool × Nat × Nat} {n s : Nat} (h : (f n).1 = true) (hs : (f n).2.2 = s) : gLM f (n + 1) = (if gN f n = 0 then nI s else if nI s < (gLM f n).1 then nI s else (gLM f n).1, if (gLM f n).2 < nI s then nI s else (gLM f n).2) := by
  subst hs
  exact if_pos h
theorem gLM_f {f : Nat → Bool × Nat × Nat} {n : Nat} (h : (f n).1 = false) : gLM f (n + 1) = gLM f n := if_neg (by rw [h]; decide)
theorem gRM_t {f : Nat → Bool × Nat × Nat} {n s : Nat} (h : (f n).1 = true) (hs : (f n).2.2 = s) : gRM f (n + 1) = (if (gRM f n).1 = -1 ∨ nI s < (gRM f n).1 then nI s else (gRM f n).1, if (gRM f n).2 < nI s then nI s else (gRM f n).2) := by
  subst hs
  exact if_pos h
/-- the row of all that fit: the way, and above it the way behind -/
def gRw (f : Nat → Bool × Nat × Nat) (n : Nat) (r : Nat → Int32) : Prop := ∀ w, w < n → (f w).1 = true → r (gN f w) = nI (16384 * (f w).2.1 + w)
theorem gN_mono {f : Nat → Bool × Nat × Nat} {w n : Nat} (h : w < n) (hw : (f w).1 = true) : gN f w < gN f n := by
  induction n with
  | zero => omega
  | succ n ih =>
    have l : gN f n ≤ gN f (n + 1) := by
      cases q : (f n).1 with
      | false => rw [gN_f q]; exact Nat.le_refl _
      | true => rw [gN_t q]; omega
    by_cases e : w = n
    · rw [e] at hw ⊢
      rw [gN_t hw]
      omega
    · have := ih (by omega)
      omega
theorem gRw_f {f : Nat → Bool × Nat × Nat} {n : Nat} {r : Nat → Int32} (h : (f n).1 = false) (g : gRw f n r) : gRw f (n + 1) r := fun w hw hf => by
  by_cases e : w = n
  · rw [e, h] at hf
    exact absurd hf (by decide)
  · exact g w (by omega) hf
theorem gRw_t {f : Nat → Bool × Nat × Nat} {n k t : Nat} {r : Nat → Int32} (hk : k = gN f n) (ht : (f n).2.1 = t) (g : gRw f n r) : gRw f (n + 1) (upd r k (nI (16384 * t + n))) := fun w hw hf => by
  by_cases e : w = n
  · rw [e, hk, ht]
    exact z_eq rfl
  · have l := gN_mono (f := f) (show w < n by omega) hf
    rw [z_ne (show ¬ gN f w = k by omega)]
    exact g w (by omega) hf
theorem gSo_cg {W V L L' : Nat → Int32} (hW : ∀ j, j < 7 → W j = V j) (hL : zLs W L L') (h4 : ∀ j, j < 7 → (W j).toInt ≤ 4) (inn : Int32) (v : Nat) (c d : Int32) : gSo W L inn v c d = gSo V L' inn v c d := by
  unfold gSo
  rw [(rWh_cg hW hL h4 v c).1]
theorem gF_cg {W V L L' d1 d2 e1 e2 : Nat → Int32} {g : Nat} (hW : ∀ j, j < 7 → W j = V j) (hL : zLs W L L') (h4 : ∀ j, j < 7 → (W j).toInt ≤ 4) (hd : ∀ k, k < g → d1 k = e1 k ∧ d2 k = e2 k) (cr inn : Int32) (w : Nat) (k : Nat) (hk : k ≤ g) : gF W L cr inn d1 d2 w k = gF V L' cr inn e1 e2 w k := by
  induction k with
  | zero => rfl
  | succ k ih =>
    have ih := ih (by omega)
    have d := hd k (by omega)
    unfold gF
    rw [ih, d.1, d.2, gSo_cg hW hL h4, (rWh_cg hW hL h4 _ _).2.1, (rWh_cg hW hL h4 _ _).2.2]
/-- what a find holds -/
def gFt (f : Nat → Bool × Nat × Nat) (N : Nat) (e3 e4 e5 : Int32) (r : Nat → Int32) (m : Nat) : Prop := e3 = nI (gN f N) ∧ e4 = (gLM f N).1 ∧ e5 = (gLM f N).2 ∧ gRw f N r ∧ gN f N ≤ m
theorem zFl_ge {n : Nat} {wy : Int32} (hp : wy.toInt ≤ 16384) : wy.toInt ≤ (zFl n wy : Nat) := by
  unfold zFl
  by_cases q : wy.toInt ≤ n
  · rw [if_pos q]
    exact q
  · rw [if_neg q]
    exact zFnN_ge hp 11 0 (by decide) (by decide)
set_option maxHeartbeats 4000000 in
set_option maxRecDepth 100000 in
/-- isSo -/
theorem c_e_isSo (l : Launch) (T : zTy) (h : Nat) (la : Nat) (md : Int32) (wy : Int32) (pc_ : Int32) (f1 : Nat → Int32) (f2 : Nat → Int32) (f3 : Nat → Int32) (f4 : Nat → Int32) (f5 : Nat → Int32) (f6 : Nat → Int32) (n4 : Nat) (ww : va_W) (cr : Int32) (inn : Int32) (k1 : Nat → Int32) (k2 : Nat → Int32) (k3 : Nat → Int32) (k4 : Nat → Int32) (z : va_W) (v_ : Nat) (y : Int32) (q : Int32) (hww : bWays T h la md wy pc_ f1 f2 f3 f4 f5 f6 n4 ww) (hz : bLand T la cr inn k1 k2 k3 k4 z) (hn : n4 ≤ 131072) (hI : zLI cr k1 k3) (hTt : zTab cr inn k1 k2 wy pc_ f1 f2 f5 n4) (hLq : zLq cr k1 k2) (hv_ : v_ < aPr (aW cr inn k1) 7) (hyh : zHas cr y) : zMi l T yX3_isSo cX3_isSo 5 (some .boolean) 3 0 0 [.ref h, .int (nI v_), .int y, .int q] [ww, z] (fun (r : Int32) bs => bs = [ww, z] ∧ ((r = 1 ∧ gSo (aW cr inn k1) k2 inn v_ y q = true) ∨ (r = 0 ∧ gSo (aW cr inn k1) k2 inn v_ y q = false))) := by
  refine zMi_of (own := RX3) (by decide) rfl (Nat.le_of_ble_eq_true rfl) ?_
  intro p e s m args below meth c A ls C hr hlocks hnm hAe G hl
  refine zHide (fun Qz_ hQz_ => ?_)
  have hx := C.1
  have hb := C.2.1
  have hl : lv_has ls 5 [(0, .ref h), (1, .int (nI v_)), (2, .int y), (3, .int q)] := hl
  have hcr := hI.1
  have hp79 : aPr (aW cr inn k1) 7 ≤ 16384 := aPr_7 hI
  have hOk9 := (kaOk (inn := inn) hI hLq).1
  have hwN9 : wy = nI (aPr (aW cr inn k1) 7) := hTt.1.trans (zWy_z hI)
  have hwT9 : wy.toInt = ((aPr (aW cr inn k1) 7 : Nat) : Int) := by rw [hwN9, nI_toInt (by omega)]
  have hE9 := zEnt_w (w := v_) (x := y) hI hOk9 hTt hv_ hyh
  have hB9 := zEnt_b (inn := inn) (w := v_) (x := y) hI hLq hv_ hyh
  obtain ⟨hb91, hb92, _, _⟩ := hB9
  refine lv_aload_n hx hb dX3_isSo_0 rfl (lv_at hl 0 rfl) ?_
  refine lv_iload_n hx hb dX3_isSo_1 rfl (lv_at hl 1 rfl) ?_
  refine lv_iload_n hx hb dX3_isSo_2 rfl (lv_at hl 2 rfl) ?_
  refine z_Vi (bc := [ww]) (br := [z]) (As := [.int (nI v_), .int y]) (rest := []) C G (c_where l T h la md wy pc_ f1 f2 f3 f4 f5 f6 n4 ww (nI v_) y hww (by first | with_reducible assumption | with_reducible rfl | omega | assumption | rfl)) (kV_RX3_86 C.2.2.2.2 (Nat.le_of_ble_eq_true rfl) (Nat.le_of_ble_eq_true rfl)) [0] [0] rfl rfl (ci := 0) (qc := (RX0, TX0, 10)) rfl rfl (List.mem_flatten.mpr ⟨_, List.mem_of_getElem? (i := 0) rfl, (bWays_mem hww).choose_spec⟩) rfl rfl hl.1 dX3_isSo_3 (Nat.le_of_ble_eq_true rfl) (Nat.le_of_ble_eq_true rfl) (fun r_2 b1 H locs hw G => ?_)
  refine zAn2 hw ?_
  intro hbs9 h_1
  clear hw
  subst hbs9
  have G : zS T A s.heap s [z, ww] _ _ := G
  subst h_1
  refine lv_topi (fun y_3 ey_3 => ?_)
  obtain rfl : y_3 = (rWh (aW cr inn k1) k2 v_ y) := ey_3.trans (hE9.1)
  refine lv_istore (lv' := [(4, .int (rWh (aW cr inn k1) k2 v_ y)), (0, .ref h), (1, .int (nI v_)), (2, .int y), (3, .int q)]) hx hb dX3_isSo_6 hl (by decide) (zLvf_h rfl) (fun ls hl => ?_)
  refine lv_aload_n hx hb dX3_isSo_8 rfl (lv_at hl 1 rfl) ?_
  refine zEx6 hww ?_
  intro a1_4 a2_5 a3_6 a4_7 a5_8 a6_9 hbs9
  clear hww
  subst hbs9
  have G : zS T A s.heap s [z, [zO0 h md wy la pc_ a1_4 a2_5 a3_6 a4_7 a5_8 a6_9], [zAr T 0 a1_4 7 f1], [zAr T 0 a2_5 7 f2], [zAr T 0 a3_6 7 f3], [zAr T 0 a4_7 n4 f4], [zAr T 0 a5_8 n4 f5], [zAr T 0 a6_9 n4 f6]] _ _ := G.re rfl
  refine z_get C G clX0 1 rfl 2 (by decide) m_fl_RX3_55 rfl dX3_isSo_9 ?_
  refine lv_iload hx hb dX3_isSo_12 (lv_at hl 0 rfl) ?_
  refine z_Vi (bc := [z]) (br := [[zO0 h md wy la pc_ a1_4 a2_5 a3_6 a4_7 a5_8 a6_9], [zAr T 0 a1_4 7 f1], [zAr T 0 a2_5 7 f2], [zAr T 0 a3_6 7 f3], [zAr T 0 a4_7 n4 f4], [zAr T 0 a5_8 n4 f5], [zAr T 0 a6_9 n4 f6]]) (As := [.int (rWh (aW cr inn k1) k2 v_ y)]) (rest := []) C G (c_isInn l T la cr inn k1 k2 k3 k4 z (rWh (aW cr inn k1) k2 v_ y) hz) (kV_RX3_89 C.2.2.2.2 (Nat.le_of_ble_eq_true rfl) (Nat.le_of_ble_eq_true rfl)) [0] [0] rfl rfl (ci := 4) (qc := (RX4, TX4, 6)) rfl rfl (List.mem_flatten.mpr ⟨_, List.mem_of_getElem? (i := 0) rfl, (bLand_mem hz).choose_spec⟩) rfl rfl hl.1 dX3_isSo_14 (Nat.le_of_ble_eq_true rfl) (Nat.le_of_ble_eq_true rfl) (fun r_11 b1 H locs hw G => ?_)
  refine zAn2 hw ?_
  intro hbs9 hc_10
  clear hw
  subst hbs9
  have G : zS T A s.heap s [[zO0 h md wy la pc_ a1_4 a2_5 a3_6 a4_7 a5_8 a6_9], [zAr T 0 a1_4 7 f1], [zAr T 0 a2_5 7 f2], [zAr T 0 a3_6 7 f3], [zAr T 0 a4_7 n4 f4], [zAr T 0 a5_8 n4 f5], [zAr T 0 a6_9 n4 f6], z] _ _ := G
  rcases hc_10 with ⟨rfl, h_12, h_13, h_14, h_15⟩ | ⟨rfl, h_16⟩
  · have h_12 : 0 ≤ (rWh (aW cr inn k1) k2 v_ y).toInt := h_12
    have h_13 : (rWh (aW cr inn k1) k2 v_ y).toInt < cr.toInt := h_13
    have h_14 : (rWh (aW cr inn k1) k2 v_ y).toInt < 7 := h_14
    have h_15 : ¬ zBit inn (rWh (aW cr inn k1) k2 v_ y) = 0 := h_15
    have hyi : zBit inn (rWh (aW cr inn k1) k2 v_ y) = 1 := zBit_p h_15
    refine lv_if_eq (tgt := 34) hx hb dX3_isSo_17 (by decide) (fun q => absurd q (by decide)) (fun _ => ?_)
    refine lv_iload hx hb dX3_isSo_20 (lv_at hl 0 rfl) ?_
    refine lv_iload_n hx hb dX3_isSo_22 rfl (lv_at hl 4 rfl) ?_
    refine lv_icmp_ne (tgt := 30) hx hb dX3_isSo_23 (by decide) (fun c_17 => ?_) (fun c_17 => ?_)
    · have c_17n : ¬ (rWh (aW cr inn k1) k2 v_ y).toInt = q.toInt := fun q => c_17 ((fa_eq _ _).mpr q)
      refine lv_iconst (v := 0) hx hb dX3_isSo_30 (by decide) ?_
      refine lv_goto (tgt := 44) hx hb dX3_isSo_31 (by decide) ?_
      have hw_18 : bWays T h la md wy pc_ f1 f2 f3 f4 f5 f6 n4 [zO0 h md wy la pc_ a1_4 a2_5 a3_6 a4_7 a5_8 a6_9, zAr T 0 a1_4 7 f1, zAr T 0 a2_5 7 f2, zAr T 0 a3_6 7 f3, zAr T 0 a4_7 n4 f4, zAr T 0 a5_8 n4 f5, zAr T 0 a6_9 n4 f6] := ⟨a1_4, a2_5, a3_6, a4_7, a5_8, a6_9, rfl⟩
      have G : zS T A s.heap s [[zO0 h md wy la pc_ a1_4 a2_5 a3_6 a4_7 a5_8 a6_9, zAr T 0 a1_4 7 f1, zAr T 0 a2_5 7 f2, zAr T 0 a3_6 7 f3, zAr T 0 a4_7 n4 f4, zAr T 0 a5_8 n4 f5, zAr T 0 a6_9 n4 f6], z] _ _ := G.re rfl
      exact z_back hQz_ (z_zret C hr hlocks G (Nat.le_of_ble_eq_true rfl) (Nat.le_of_ble_eq_true rfl) dX3_isSo_44 rfl ⟨rfl, (Or.inr (⟨rfl, (by unfold gSo; first | (rw [if_pos hyi]; exact decide_eq_false (by first | with_reducible assumption | assumption)) | (rw [if_neg hni]; exact decide_eq_false (by first | with_reducible assumption | assumption)))⟩))⟩)
    · have c_17n : (rWh (aW cr inn k1) k2 v_ y).toInt = q.toInt := (fa_eq _ _).mp c_17
      refine lv_iconst (v := 1) hx hb dX3_isSo_26 (by decide) ?_
      refine lv_goto (tgt := 44) hx hb dX3_isSo_27 (by decide) ?_
      have hw_19 : bWays T h la md wy pc_ f1 f2 f3 f4 f5 f6 n4 [zO0 h md wy la pc_ a1_4 a2_5 a3_6 a4_7 a5_8 a6_9, zAr T 0 a1_4 7 f1, zAr T 0 a2_5 7 f2, zAr T 0 a3_6 7 f3, zAr T 0 a4_7 n4 f4, zAr T 0 a5_8 n4 f5, zAr T 0 a6_9 n4 f6] := ⟨a1_4, a2_5, a3_6, a4_7, a5_8, a6_9, rfl⟩
      have G : zS T A s.heap s [[zO0 h md wy la pc_ a1_4 a2_5 a3_6 a4_7 a5_8 a6_9, zAr T 0 a1_4 7 f1, zAr T 0 a2_5 7 f2, zAr T 0 a3_6 7 f3, zAr T 0 a4_7 n4 f4, zAr T 0 a5_8 n4 f5, zAr T 0 a6_9 n4 f6], z] _ _ := G.re rfl
      exact z_back hQz_ (z_zret C hr hlocks G (Nat.le_of_ble_eq_true rfl) (Nat.le_of_ble_eq_true rfl) dX3_isSo_44 rfl ⟨rfl, (Or.inl (⟨rfl, (by unfold gSo; first | (rw [if_pos hyi]; exact decide_eq_true (by first | with_reducible assumption | assumption)) | (rw [if_neg hni]; exact decide_eq_true (by first | with_reducible assumption | assumption)))⟩))⟩)
  · have h_16 : ((rWh (aW cr inn k1) k2 v_ y).toInt < 0 ∨ cr.toInt ≤ (rWh (aW cr inn k1) k2 v_ y).toInt ∨ 7 ≤ (rWh (aW cr inn k1) k2 v_ y).toInt ∨ zBit inn (rWh (aW cr inn k1) k2 v_ y) = 0) := h_16
    have hni : ¬ zBit inn (rWh (aW cr inn k1) k2 v_ y) = 1 := by rcases h_16 with e9 | e9 | e9 | e9 <;> first | (exfalso; omega) | exact fun q9 => zBit_o q9 e9
    refine lv_if_eq (tgt := 34) hx hb dX3_isSo_17 (by decide) (fun _ => ?_) (fun q => absurd (by decide) q)
    refine lv_iload_n hx hb dX3_isSo_34 rfl (lv_at hl 4 rfl) ?_
    refine lv_iconst (v := (-1)) hx hb dX3_isSo_35 (by decide) ?_
    refine lv_icmp_ne (tgt := 43) hx hb dX3_isSo_36 (by decide) (fun c_20 => ?_) (fun c_20 => ?_)
    · have c_20n : ¬ q.toInt = (-1 : Int) := fun q => c_20 ((fa_eq _ _).mpr q)
      refine lv_iconst (v := 0) hx hb dX3_isSo_43 (by decide) ?_
      have hw_21 : bWays T h la md wy pc_ f1 f2 f3 f4 f5 f6 n4 [zO0 h md wy la pc_ a1_4 a2_5 a3_6 a4_7 a5_8 a6_9, zAr T 0 a1_4 7 f1, zAr T 0 a2_5 7 f2, zAr T 0 a3_6 7 f3, zAr T 0 a4_7 n4 f4, zAr T 0 a5_8 n4 f5, zAr T 0 a6_9 n4 f6] := ⟨a1_4, a2_5, a3_6, a4_7, a5_8, a6_9, rfl⟩
      have G : zS T A s.heap s [[zO0 h md wy la pc_ a1_4 a2_5 a3_6 a4_7 a5_8 a6_9, zAr T 0 a1_4 7 f1, zAr T 0 a2_5 7 f2, zAr T 0 a3_6 7 f3, zAr T 0 a4_7 n4 f4, zAr T 0 a5_8 n4 f5, zAr T 0 a6_9 n4 f6], z] _ _ := G.re rfl
      exact z_back hQz_ (z_zret C hr hlocks G (Nat.le_of_ble_eq_true rfl) (Nat.le_of_ble_eq_true rfl) dX3_isSo_44 rfl ⟨rfl, (Or.inr (⟨rfl, (by unfold gSo; first | (rw [if_pos hyi]; exact decide_eq_false (by first | with_reducible assumption | assumption)) | (rw [if_neg hni]; exact decide_eq_false (by first | with_reducible assumption | assumption)))⟩))⟩)
    · have c_20n : q.toInt = (-1 : Int) := (fa_eq _ _).mp c_20
      refine lv_iconst (v := 1) hx hb dX3_isSo_39 (by decide) ?_
      refine lv_goto (tgt := 44) hx hb dX3_isSo_40 (by decide) ?_
      have hw_22 : bWays T h la md wy pc_ f1 f2 f3 f4 f5 f6 n4 [zO0 h md wy la pc_ a1_4 a2_5 a3_6 a4_7 a5_8 a6_9, zAr T 0 a1_4 7 f1, zAr T 0 a2_5 7 f2, zAr T 0 a3_6 7 f3, zAr T 0 a4_7 n4 f4, zAr T 0 a5_8 n4 f5, zAr T 0 a6_9 n4 f6] := ⟨a1_4, a2_5, a3_6, a4_7, a5_8, a6_9, rfl⟩
      have G : zS T A s.heap s [[zO0 h md wy la pc_ a1_4 a2_5 a3_6 a4_7 a5_8 a6_9, zAr T 0 a1_4 7 f1, zAr T 0 a2_5 7 f2, zAr T 0 a3_6 7 f3, zAr T 0 a4_7 n4 f4, zAr T 0 a5_8 n4 f5, zAr T 0 a6_9 n4 f6], z] _ _ := G.re rfl
      exact z_back hQz_ (z_zret C hr hlocks G (Nat.le_of_ble_eq_true rfl) (Nat.le_of_ble_eq_true rfl) dX3_isSo_44 rfl ⟨rfl, (Or.inl (⟨rfl, (by unfold gSo; first | (rw [if_pos hyi]; exact decide_eq_true (by first | with_reducible assumption | assumption)) | (rw [if_neg hni]; exact decide_eq_true (by first | with_reducible assumption | assumption)))⟩))⟩)
set_option maxHeartbeats 4000000 in
set_option maxRecDepth 100000 in
/-- c_e_tryWay -/
theorem c_e_tryWay (l : Launch) (T : zTy) (t : Nat) (e0 : Int32) (e1 : Int32) (e2 : Int32) (e4 : Int32) (e5 : Int32) (r1 : Nat → Int32) (m1 : Nat) (r2 : Nat → Int32) (wf : va_W) (n3 : Nat) (h : Nat) (la : Nat) (md : Int32) (wy : Int32) (pc_ : Int32) (f1 : Nat → Int32) (f2 : Nat → Int32) (f3 : Nat → Int32) (f4 : Nat → Int32) (f5 : Nat → Int32) (f6 : Nat → Int32) (n4 : Nat) (ww : va_W) (cr : Int32) (inn : Int32) (k1 : Nat → Int32) (k2 : Nat → Int32) (k3 : Nat → Int32) (k4 : Nat → Int32) (z : va_W) (lg : Nat) (gg : Int32) (d1 : Nat → Int32) (d2 : Nat → Int32) (wg : va_W) (w_ : Nat) (hwf : bFit T t e0 e1 e2 (nI n3) e4 e5 r1 m1 r2 wf) (hww : bWays T h la md wy pc_ f1 f2 f3 f4 f5 f6 n4 ww) (hz : bLand T la cr inn k1 k2 k3 k4 z) (hg : bLog T lg gg d1 d2 wg) (hn : n4 ≤ 131072) (hI : zLI cr k1 k3) (hTt : zTab cr inn k1 k2 wy pc_ f1 f2 f5 n4) (hLq : zLq cr k1 k2) (hv_ : w_ < aPr (aW cr inn k1) 7) (hm1 : aPr (aW cr inn k1) 7 ≤ m1) (hm : m1 ≤ 16384) (hgg : 0 ≤ gg.toInt ∧ gg.toInt ≤ 8) (h3 : n3 = gN (fun w => gF (aW cr inn k1) k2 cr inn d1 d2 w gg.toInt.toNat) w_) (h45 : (e4 = (gLM (fun w => gF (aW cr inn k1) k2 cr inn d1 d2 w gg.toInt.toNat) w_).1 ∧ e5 = (gLM (fun w => gF (aW cr inn k1) k2 cr inn d1 d2 w gg.toInt.toNat) w_).2)) (hrw : gRw (fun w => gF (aW cr inn k1) k2 cr inn d1 d2 w gg.toInt.toNat) w_ r1) : zMv l T yX3_tryWay cX3_tryWay 8 4 0 0 [.ref t, .ref h, .ref lg, .int (nI w_)] [wf, ww, z, wg] (fun bs => ∃ (w2 : va_W) (s3 : Nat) (s4 : Int32) (s5 : Int32) (g1 : Nat → Int32), bs = [w2, ww, z, wg] ∧ bFit T t e0 e1 e2 (nI s3) s4 s5 g1 m1 r2 w2 ∧ s3 = gN (fun w => gF (aW cr inn k1) k2 cr inn d1 d2 w gg.toInt.toNat) (w_ + 1) ∧ (s4 = (gLM (fun w => gF (aW cr inn k1) k2 cr inn d1 d2 w gg.toInt.toNat) (w_ + 1)).1 ∧ s5 = (gLM (fun w => gF (aW cr inn k1) k2 cr inn d1 d2 w gg.toInt.toNat) (w_ + 1)).2) ∧ gRw (fun w => gF (aW cr inn k1) k2 cr inn d1 d2 w gg.toInt.toNat) (w_ + 1) g1) := by
  refine zMv_of (own := RX3) (by decide) rfl (Nat.le_of_ble_eq_true rfl) ?_
  intro p e s m args below meth c A ls C hr hlocks hnm hAe G hl
  refine zHide (fun Qz_ hQz_ => ?_)
  have hx := C.1
  have hb := C.2.1
  have hl : lv_has ls 8 [(0, .ref t), (1, .ref h), (2, .ref lg), (3, .int (nI w_))] := hl
  have hcr := hI.1
  have hp79 : aPr (aW cr inn k1) 7 ≤ 16384 := aPr_7 hI
  have hOk9 := (kaOk (inn := inn) hI hLq).1
  have hwN9 : wy = nI (aPr (aW cr inn k1) 7) := hTt.1.trans (zWy_z hI)
  have hwT9 : wy.toInt = ((aPr (aW cr inn k1) 7 : Nat) : Int) := by rw [hwN9, nI_toInt (by omega)]
  refine lv_iload_n hx hb dX3_tryWay_0 rfl (lv_at hl 3 rfl) ?_
  refine lv_istore (lv' := [(4, .int (nI w_)), (0, .ref t), (1, .ref h), (2, .ref lg), (3, .int (nI w_))]) hx hb dX3_tryWay_1 hl (by decide) (zLvf_h rfl) (fun ls hl => ?_)
  refine lv_iconst (v := 0) hx hb dX3_tryWay_3 (by decide) ?_
  refine lv_istore (lv' := [(5, .int 0), (4, .int (nI w_)), (0, .ref t), (1, .ref h), (2, .ref lg), (3, .int (nI w_))]) hx hb dX3_tryWay_4 hl (by decide) (zLvf_h rfl) (fun ls hl => ?_)
  refine lv_iconst (v := 0) hx hb dX3_tryWay_6 (by decide) ?_
  refine lv_istore (lv' := [(6, .int 0), (5, .int 0), (4, .int (nI w_)), (0, .ref t), (1, .ref h), (2, .ref lg), (3, .int (nI w_))]) hx hb dX3_tryWay_7 hl (by decide) (zLvf_h rfl) (fun ls hl => ?_)
  refine zEx2 hwf ?_
  intro a1_1 a2_2 hbs9
  clear hwf
  subst hbs9
  have G : zS T A s.heap s [[zO3 t e0 e1 e2 (nI n3) e4 e5 a1_1 a2_2], [zAr T 0 a1_1 m1 r1], [zAr T 0 a2_2 7 r2], ww, z, wg] _ _ := G.re rfl
  refine zEx6 hww ?_
  intro a1_3 a2_4 a3_5 a4_6 a5_7 a6_8 hbs9
  clear hww
  subst hbs9
  have G : zS T A s.heap s [[zO3 t e0 e1 e2 (nI n3) e4 e5 a1_1 a2_2], [zAr T 0 a1_1 m1 r1], [zAr T 0 a2_2 7 r2], [zO0 h md wy la pc_ a1_3 a2_4 a3_5 a4_6 a5_7 a6_8], [zAr T 0 a1_3 7 f1], [zAr T 0 a2_4 7 f2], [zAr T 0 a3_5 7 f3], [zAr T 0 a4_6 n4 f4], [zAr T 0 a5_7 n4 f5], [zAr T 0 a6_8 n4 f6], z, wg] _ _ := G.re rfl
  refine zEx4 hz ?_
  intro a1_9 a2_10 a3_11 a4_12 hbs9
  clear hz
  subst hbs9
  have G : zS T A s.heap s [[zO3 t e0 e1 e2 (nI n3) e4 e5 a1_1 a2_2], [zAr T 0 a1_1 m1 r1], [zAr T 0 a2_2 7 r2], [zO0 h md wy la pc_ a1_3 a2_4 a3_5 a4_6 a5_7 a6_8], [zAr T 0 a1_3 7 f1], [zAr T 0 a2_4 7 f2], [zAr T 0 a3_5 7 f3], [zAr T 0 a4_6 n4 f4], [zAr T 0 a5_7 n4 f5], [zAr T 0 a6_8 n4 f6], [zO4 la cr inn a1_9 a2_10 a3_11 a4_12], [zAr T 0 a1_9 7 k1], [zAr T 0 a2_10 28 k2], [zAr T 0 a3_11 7 k3], [zAr T 0 a4_12 7 k4], wg] _ _ := G.re rfl
  refine zEx2 hg ?_
  intro a1_13 a2_14 hbs9
  clear hg
  subst hbs9
  have G : zS T A s.heap s [[zO3 t e0 e1 e2 (nI n3) e4 e5 a1_1 a2_2], [zAr T 0 a1_1 m1 r1], [zAr T 0 a2_2 7 r2], [zO0 h md wy la pc_ a1_3 a2_4 a3_5 a4_6 a5_7 a6_8], [zAr T 0 a1_3 7 f1], [zAr T 0 a2_4 7 f2], [zAr T 0 a3_5 7 f3], [zAr T 0 a4_6 n4 f4], [zAr T 0 a5_7 n4 f5], [zAr T 0 a6_8 n4 f6], [zO4 la cr inn a1_9 a2_10 a3_11 a4_12], [zAr T 0 a1_9 7 k1], [zAr T 0 a2_10 28 k2], [zAr T 0 a3_11 7 k3], [zAr T 0 a4_12 7 k4], [(lg, .inr (5, [.int gg, .ref a1_13, .ref a2_14]))], [zAr T 0 a1_13 8 d1], [zAr T 0 a2_14 8 d2]] _ _ := G.re rfl
  have hw_15 : bFit T t e0 e1 e2 (nI n3) e4 e5 r1 m1 r2 [zO3 t e0 e1 e2 (nI n3) e4 e5 a1_1 a2_2, zAr T 0 a1_1 m1 r1, zAr T 0 a2_2 7 r2] := ⟨a1_1, a2_2, rfl⟩
  have G : zS T A s.heap s [[zO3 t e0 e1 e2 (nI n3) e4 e5 a1_1 a2_2, zAr T 0 a1_1 m1 r1, zAr T 0 a2_2 7 r2], [zO0 h md wy la pc_ a1_3 a2_4 a3_5 a4_6 a5_7 a6_8], [zAr T 0 a1_3 7 f1], [zAr T 0 a2_4 7 f2], [zAr T 0 a3_5 7 f3], [zAr T 0 a4_6 n4 f4], [zAr T 0 a5_7 n4 f5], [zAr T 0 a6_8 n4 f6], [zO4 la cr inn a1_9 a2_10 a3_11 a4_12], [zAr T 0 a1_9 7 k1], [zAr T 0 a2_10 28 k2], [zAr T 0 a3_11 7 k3], [zAr T 0 a4_12 7 k4], [(lg, .inr (5, [.int gg, .ref a1_13, .ref a2_14]))], [zAr T 0 a1_13 8 d1], [zAr T 0 a2_14 8 d2]] _ _ := G.re rfl
  have hw_16 : bWays T h la md wy pc_ f1 f2 f3 f4 f5 f6 n4 [zO0 h md wy la pc_ a1_3 a2_4 a3_5 a4_6 a5_7 a6_8, zAr T 0 a1_3 7 f1, zAr T 0 a2_4 7 f2, zAr T 0 a3_5 7 f3, zAr T 0 a4_6 n4 f4, zAr T 0 a5_7 n4 f5, zAr T 0 a6_8 n4 f6] := ⟨a1_3, a2_4, a3_5, a4_6, a5_7, a6_8, rfl⟩
  have G : zS T A s.heap s [[zO3 t e0 e1 e2 (nI n3) e4 e5 a1_1 a2_2, zAr T 0 a1_1 m1 r1, zAr T 0 a2_2 7 r2], [zO0 h md wy la pc_ a1_3 a2_4 a3_5 a4_6 a5_7 a6_8, zAr T 0 a1_3 7 f1, zAr T 0 a2_4 7 f2, zAr T 0 a3_5 7 f3, zAr T 0 a4_6 n4 f4, zAr T 0 a5_7 n4 f5, zAr T 0 a6_8 n4 f6], [zO4 la cr inn a1_9 a2_10 a3_11 a4_12], [zAr T 0 a1_9 7 k1], [zAr T 0 a2_10 28 k2], [zAr T 0 a3_11 7 k3], [zAr T 0 a4_12 7 k4], [(lg, .inr (5, [.int gg, .ref a1_13, .ref a2_14]))], [zAr T 0 a1_13 8 d1], [zAr T 0 a2_14 8 d2]] _ _ := G.re rfl
  have hw_17 : bLand T la cr inn k1 k2 k3 k4 [zO4 la cr inn a1_9 a2_10 a3_11 a4_12, zAr T 0 a1_9 7 k1, zAr T 0 a2_10 28 k2, zAr T 0 a3_11 7 k3, zAr T 0 a4_12 7 k4] := ⟨a1_9, a2_10, a3_11, a4_12, rfl⟩
  have G : zS T A s.heap s [[zO3 t e0 e1 e2 (nI n3) e4 e5 a1_1 a2_2, zAr T 0 a1_1 m1 r1, zAr T 0 a2_2 7 r2], [zO0 h md wy la pc_ a1_3 a2_4 a3_5 a4_6 a5_7 a6_8, zAr T 0 a1_3 7 f1, zAr T 0 a2_4 7 f2, zAr T 0 a3_5 7 f3, zAr T 0 a4_6 n4 f4, zAr T 0 a5_7 n4 f5, zAr T 0 a6_8 n4 f6], [zO4 la cr inn a1_9 a2_10 a3_11 a4_12, zAr T 0 a1_9 7 k1, zAr T 0 a2_10 28 k2, zAr T 0 a3_11 7 k3, zAr T 0 a4_12 7 k4], [(lg, .inr (5, [.int gg, .ref a1_13, .ref a2_14]))], [zAr T 0 a1_13 8 d1], [zAr T 0 a2_14 8 d2]] _ _ := G.re rfl
  have hw_18 : bLog T lg gg d1 d2 [(lg, .inr (5, [.int gg, .ref a1_13, .ref a2_14])), zAr T 0 a1_13 8 d1, zAr T 0 a2_14 8 d2] := ⟨a1_13, a2_14, rfl⟩
  have G : zS T A s.heap s [[zO3 t e0 e1 e2 (nI n3) e4 e5 a1_1 a2_2, zAr T 0 a1_1 m1 r1, zAr T 0 a2_2 7 r2], [zO0 h md wy la pc_ a1_3 a2_4 a3_5 a4_6 a5_7 a6_8, zAr T 0 a1_3 7 f1, zAr T 0 a2_4 7 f2, zAr T 0 a3_5 7 f3, zAr T 0 a4_6 n4 f4, zAr T 0 a5_7 n4 f5, zAr T 0 a6_8 n4 f6], [zO4 la cr inn a1_9 a2_10 a3_11 a4_12, zAr T 0 a1_9 7 k1, zAr T 0 a2_10 28 k2, zAr T 0 a3_11 7 k3, zAr T 0 a4_12 7 k4], [(lg, .inr (5, [.int gg, .ref a1_13, .ref a2_14])), zAr T 0 a1_13 8 d1, zAr T 0 a2_14 8 d2]] _ _ := G.re rfl
  refine z_lp3 (T := T) 9 (fun (i : Nat) (th : Nat) (st : Nat) => [[zO3 t e0 e1 e2 (nI n3) e4 e5 a1_1 a2_2, zAr T 0 a1_1 m1 r1, zAr T 0 a2_2 7 r2], [zO0 h md wy la pc_ a1_3 a2_4 a3_5 a4_6 a5_7 a6_8, zAr T 0 a1_3 7 f1, zAr T 0 a2_4 7 f2, zAr T 0 a3_5 7 f3, zAr T 0 a4_6 n4 f4, zAr T 0 a5_7 n4 f5, zAr T 0 a6_8 n4 f6], [zO4 la cr inn a1_9 a2_10 a3_11 a4_12, zAr T 0 a1_9 7 k1, zAr T 0 a2_10 28 k2, zAr T 0 a3_11 7 k3, zAr T 0 a4_12 7 k4], [(lg, .inr (5, [.int gg, .ref a1_13, .ref a2_14])), zAr T 0 a1_13 8 d1, zAr T 0 a2_14 8 d2]]) (fun (i : Nat) (th : Nat) (st : Nat) => [(6, .int (nI i)), (5, .int (nI st)), (4, .int (nI th)), (0, .ref t), (1, .ref h), (2, .ref lg), (3, .int (nI w_))]) (fun (i : Nat) (th : Nat) (st : Nat) => i ≤ 8 ∧ (i : Int) ≤ gg.toInt ∧ gF (aW cr inn k1) k2 cr inn d1 d2 w_ i = (true, th, st) ∧ th < aPr (aW cr inn k1) 7 ∧ st ≤ 499 * i) (fun (i : Nat) (th : Nat) (st : Nat) => 8 - i) ?_ 0 w_ 0 (show 0 ≤ 8 ∧ (0 : Int) ≤ gg.toInt ∧ gF (aW cr inn k1) k2 cr inn d1 d2 w_ 0 = (true, w_, 0) ∧ w_ < aPr (aW cr inn k1) 7 ∧ 0 ≤ 499 * 0 from ⟨by omega, by omega, rfl, hv_, (Nat.zero_le _)⟩) G (lv_sub hl [0, 1, 2, 3, 4, 5, 6] rfl)
  intro i th st hI9 ih_9 H locs ls G hl
  replace hI9 : i ≤ 8 ∧ (i : Int) ≤ gg.toInt ∧ gF (aW cr inn k1) k2 cr inn d1 d2 w_ i = (true, th, st) ∧ th < aPr (aW cr inn k1) 7 ∧ st ≤ 499 * i := hI9
  refine zAn5 hI9 ?_
  intro hi hig hgf hth hst
  clear hI9
  replace G : zS T A s.heap s [[zO3 t e0 e1 e2 (nI n3) e4 e5 a1_1 a2_2, zAr T 0 a1_1 m1 r1, zAr T 0 a2_2 7 r2], [zO0 h md wy la pc_ a1_3 a2_4 a3_5 a4_6 a5_7 a6_8, zAr T 0 a1_3 7 f1, zAr T 0 a2_4 7 f2, zAr T 0 a3_5 7 f3, zAr T 0 a4_6 n4 f4, zAr T 0 a5_7 n4 f5, zAr T 0 a6_8 n4 f6], [zO4 la cr inn a1_9 a2_10 a3_11 a4_12, zAr T 0 a1_9 7 k1, zAr T 0 a2_10 28 k2, zAr T 0 a3_11 7 k3, zAr T 0 a4_12 7 k4], [(lg, .inr (5, [.int gg, .ref a1_13, .ref a2_14])), zAr T 0 a1_13 8 d1, zAr T 0 a2_14 8 d2]] _ _ := G
  replace hl : lv_has ls 8 [(6, .int (nI i)), (5, .int (nI st)), (4, .int (nI th)), (0, .ref t), (1, .ref h), (2, .ref lg), (3, .int (nI w_))] := hl
  refine lv_iload hx hb dX3_tryWay_9 (lv_at hl 0 rfl) ?_
  refine lv_aload_n hx hb dX3_tryWay_11 rfl (lv_at hl 5 rfl) ?_
  have G : zS T A s.heap s [[zO3 t e0 e1 e2 (nI n3) e4 e5 a1_1 a2_2, zAr T 0 a1_1 m1 r1, zAr T 0 a2_2 7 r2], [zO0 h md wy la pc_ a1_3 a2_4 a3_5 a4_6 a5_7 a6_8, zAr T 0 a1_3 7 f1, zAr T 0 a2_4 7 f2, zAr T 0 a3_5 7 f3, zAr T 0 a4_6 n4 f4, zAr T 0 a5_7 n4 f5, zAr T 0 a6_8 n4 f6], [zO4 la cr inn a1_9 a2_10 a3_11 a4_12, zAr T 0 a1_9 7 k1, zAr T 0 a2_10 28 k2, zAr T 0 a3_11 7 k3, zAr T 0 a4_12 7 k4], [(lg, .inr (5, [.int gg, .ref a1_13, .ref a2_14]))], [zAr T 0 a1_13 8 d1], [zAr T 0 a2_14 8 d2]] _ _ := G.re rfl
  refine z_get C G clX5 3 rfl 0 (by decide) m_fl_RX3_47 rfl dX3_tryWay_12 ?_
  refine lv_icmp_ge (tgt := 94) hx hb dX3_tryWay_15 (by decide) (fun c_19 => ?_) (fun c_19 => ?_)
  · have c_19n : gg.toInt ≤ (i : Int) := by have q := (fa_le _ _).mp c_19; rw [nI_toInt (n := i) (by omega)] at q; exact q
    have hgi9 : i = gg.toInt.toNat := by omega
    have hph9 : (fun w => gF (aW cr inn k1) k2 cr inn d1 d2 w gg.toInt.toNat) w_ = (true, th, st) := by show gF (aW cr inn k1) k2 cr inn d1 d2 w_ gg.toInt.toNat = _; rw [← hgi9]; exact hgf
    have hph1 : ((fun w => gF (aW cr inn k1) k2 cr inn d1 d2 w gg.toInt.toNat) w_).1 = true := by rw [hph9]
    have hph2 : ((fun w => gF (aW cr inn k1) k2 cr inn d1 d2 w gg.toInt.toNat) w_).2.2 = st := by rw [hph9]
    have hph3 : ((fun w => gF (aW cr inn k1) k2 cr inn d1 d2 w gg.toInt.toNat) w_).2.1 = th := by rw [hph9]
    have hn39 : n3 ≤ w_ := by rw [h3]; exact gN_le _
    have hlm9 := gLM_t (f := (fun w => gF (aW cr inn k1) k2 cr inn d1 d2 w gg.toInt.toNat)) (n := w_) hph1 hph2
    refine lv_aload_n hx hb dX3_tryWay_94 rfl (lv_at hl 3 rfl) ?_
    have G : zS T A s.heap s [[zO3 t e0 e1 e2 (nI n3) e4 e5 a1_1 a2_2], [zAr T 0 a1_1 m1 r1], [zAr T 0 a2_2 7 r2], [zO0 h md wy la pc_ a1_3 a2_4 a3_5 a4_6 a5_7 a6_8, zAr T 0 a1_3 7 f1, zAr T 0 a2_4 7 f2, zAr T 0 a3_5 7 f3, zAr T 0 a4_6 n4 f4, zAr T 0 a5_7 n4 f5, zAr T 0 a6_8 n4 f6], [zO4 la cr inn a1_9 a2_10 a3_11 a4_12, zAr T 0 a1_9 7 k1, zAr T 0 a2_10 28 k2, zAr T 0 a3_11 7 k3, zAr T 0 a4_12 7 k4], [(lg, .inr (5, [.int gg, .ref a1_13, .ref a2_14]))], [zAr T 0 a1_13 8 d1], [zAr T 0 a2_14 8 d2]] _ _ := G.re rfl
    refine z_get C G clX3 0 rfl 3 (by decide) m_fl_RX3_34 rfl dX3_tryWay_95 ?_
    refine lv_aload_n hx hb dX3_tryWay_98 rfl (lv_at hl 3 rfl) ?_
    refine z_get C G clX3 0 rfl 6 (by decide) m_fl_RX3_18 rfl dX3_tryWay_99 ?_
    refine z_alen C G 1 0 rfl (v := nI m1) rfl rfl dX3_tryWay_102 ?_
    refine lv_icmp_ge (tgt := 170) hx hb dX3_tryWay_103 (by decide) (fun q => absurd q (fun q2 => absurd ((nI_leI (a := m1) (b := n3) (by omega) (by omega)).mp q2) (by omega))) (fun _ => ?_)
    refine lv_aload_n hx hb dX3_tryWay_106 rfl (lv_at hl 3 rfl) ?_
    refine lv_aload_n hx hb dX3_tryWay_107 rfl (lv_at hl 3 rfl) ?_
    refine z_get C G clX3 0 rfl 3 (by decide) m_fl_RX3_34 rfl dX3_tryWay_108 ?_
    refine lv_if_ne (tgt := 119) hx hb dX3_tryWay_111 (by decide) (fun c_20 => ?_) (fun c_20 => ?_)
    · have c_20n : ¬ n3 = 0 := fun q => c_20 ((nI_eq (a := n3) (b := 0) (by omega) (by omega)).mpr q)
      refine lv_aload_n hx hb dX3_tryWay_119 rfl (lv_at hl 3 rfl) ?_
      refine z_get C G clX3 0 rfl 4 (by decide) m_fl_RX3_37 rfl dX3_tryWay_120 ?_
      refine lv_iload hx hb dX3_tryWay_123 (lv_at hl 1 rfl) ?_
      refine va_mmin hx hb (C.2.2.1.trans hl.1.symm) C.2.2.2.1 (C.2.2.2.2 _ m_ml_RX3_78) (C.2.2.2.2 _ m_st_math_min) (C.2.2.2.2 _ m_ii_math) (C.2.2.2.2 _ m_co_math_min) (Nat.le_of_ble_eq_true rfl) (Nat.le_of_ble_eq_true rfl) (Nat.le_of_ble_eq_true rfl) (Nat.le_of_ble_eq_true rfl) dX3_tryWay_125 ?_
      refine lv_topi (fun v_21 ev_21 => ?_)
      subst ev_21
      refine lv_topi (fun y_22 ey_22 => ?_)
      obtain rfl : y_22 = (gLM (fun w => gF (aW cr inn k1) k2 cr inn d1 d2 w gg.toInt.toNat) (w_ + 1)).1 := ey_22.trans ((by rw [hlm9, h45.1]; exact (if_neg (show ¬ gN (fun w => gF (aW cr inn k1) k2 cr inn d1 d2 w gg.toInt.toNat) w_ = 0 by omega)).symm))
      refine z_put C G clX3 0 rfl 4 (by decide) m_fl_RX3_37 rfl rfl rfl (Nat.le_of_ble_eq_true rfl) dX3_tryWay_128 (fun H locs G => ?_)
      have G : zS T A s.heap s [[zO3 t e0 e1 e2 (nI n3) ((gLM (fun w => gF (aW cr inn k1) k2 cr inn d1 d2 w gg.toInt.toNat) (w_ + 1)).1) e5 a1_1 a2_2], [zAr T 0 a1_1 m1 r1], [zAr T 0 a2_2 7 r2], [zO0 h md wy la pc_ a1_3 a2_4 a3_5 a4_6 a5_7 a6_8, zAr T 0 a1_3 7 f1, zAr T 0 a2_4 7 f2, zAr T 0 a3_5 7 f3, zAr T 0 a4_6 n4 f4, zAr T 0 a5_7 n4 f5, zAr T 0 a6_8 n4 f6], [zO4 la cr inn a1_9 a2_10 a3_11 a4_12, zAr T 0 a1_9 7 k1, zAr T 0 a2_10 28 k2, zAr T 0 a3_11 7 k3, zAr T 0 a4_12 7 k4], [(lg, .inr (5, [.int gg, .ref a1_13, .ref a2_14]))], [zAr T 0 a1_13 8 d1], [zAr T 0 a2_14 8 d2]] _ _ := G
      refine lv_aload_n hx hb dX3_tryWay_131 rfl (lv_at hl 3 rfl) ?_
      refine lv_aload_n hx hb dX3_tryWay_132 rfl (lv_at hl 3 rfl) ?_
      refine z_get C G clX3 0 rfl 5 (by decide) m_fl_RX3_40 rfl dX3_tryWay_133 ?_
      refine lv_iload hx hb dX3_tryWay_136 (lv_at hl 1 rfl) ?_
      refine va_mmax hx hb (C.2.2.1.trans hl.1.symm) C.2.2.2.1 (C.2.2.2.2 _ m_ml_RX3_83) (C.2.2.2.2 _ m_st_math_max) (C.2.2.2.2 _ m_ii_math) (C.2.2.2.2 _ m_co_math_max) (Nat.le_of_ble_eq_true rfl) (Nat.le_of_ble_eq_true rfl) (Nat.le_of_ble_eq_true rfl) (Nat.le_of_ble_eq_true rfl) dX3_tryWay_138 ?_
      refine lv_topi (fun v_23 ev_23 => ?_)
      subst ev_23
      refine lv_topi (fun y_24 ey_24 => ?_)
      obtain rfl : y_24 = (gLM (fun w => gF (aW cr inn k1) k2 cr inn d1 d2 w gg.toInt.toNat) (w_ + 1)).2 := ey_24.trans ((by rw [hlm9, h45.2]))
      refine z_put C G clX3 0 rfl 5 (by decide) m_fl_RX3_40 rfl rfl rfl (Nat.le_of_ble_eq_true rfl) dX3_tryWay_141 (fun H locs G => ?_)
      have G : zS T A s.heap s [[zO3 t e0 e1 e2 (nI n3) ((gLM (fun w => gF (aW cr inn k1) k2 cr inn d1 d2 w gg.toInt.toNat) (w_ + 1)).1) ((gLM (fun w => gF (aW cr inn k1) k2 cr inn d1 d2 w gg.toInt.toNat) (w_ + 1)).2) a1_1 a2_2], [zAr T 0 a1_1 m1 r1], [zAr T 0 a2_2 7 r2], [zO0 h md wy la pc_ a1_3 a2_4 a3_5 a4_6 a5_7 a6_8, zAr T 0 a1_3 7 f1, zAr T 0 a2_4 7 f2, zAr T 0 a3_5 7 f3, zAr T 0 a4_6 n4 f4, zAr T 0 a5_7 n4 f5, zAr T 0 a6_8 n4 f6], [zO4 la cr inn a1_9 a2_10 a3_11 a4_12, zAr T 0 a1_9 7 k1, zAr T 0 a2_10 28 k2, zAr T 0 a3_11 7 k3, zAr T 0 a4_12 7 k4], [(lg, .inr (5, [.int gg, .ref a1_13, .ref a2_14]))], [zAr T 0 a1_13 8 d1], [zAr T 0 a2_14 8 d2]] _ _ := G
      refine lv_aload_n hx hb dX3_tryWay_144 rfl (lv_at hl 3 rfl) ?_
      refine z_get C G clX3 0 rfl 6 (by decide) m_fl_RX3_18 rfl dX3_tryWay_145 ?_
      refine lv_aload_n hx hb dX3_tryWay_148 rfl (lv_at hl 3 rfl) ?_
      refine z_get C G clX3 0 rfl 3 (by decide) m_fl_RX3_34 rfl dX3_tryWay_149 ?_
      refine lv_iload hx hb dX3_tryWay_152 (lv_at hl 2 rfl) ?_
      refine lv_bipush (v := 14) hx hb dX3_tryWay_154 (by decide) ?_
      refine lv_ishl hx hb dX3_tryWay_156 ?_
      refine lv_iload_n hx hb dX3_tryWay_157 rfl (lv_at hl 6 rfl) ?_
      refine lv_iadd hx hb dX3_tryWay_158 ?_
      refine lv_topi (fun y_25 ey_25 => ?_)
      obtain rfl : y_25 = nI (16384 * th + w_) := ey_25.trans ((by rw [pk_shlN (14 &&& 31) 14 (by decide) (by omega), nI_add]; exact congrArg nI (by omega)))
      refine z_ist C G 1 rfl (vp_in_nI (by omega) (by omega)) dX3_tryWay_159 (fun H locs G => ?_)
      rw [nI_clamp (by omega)] at G
      have G : zS T A s.heap s [[zO3 t e0 e1 e2 (nI n3) ((gLM (fun w => gF (aW cr inn k1) k2 cr inn d1 d2 w gg.toInt.toNat) (w_ + 1)).1) ((gLM (fun w => gF (aW cr inn k1) k2 cr inn d1 d2 w gg.toInt.toNat) (w_ + 1)).2) a1_1 a2_2], [zAr T 0 a1_1 m1 (upd r1 n3 (nI (16384 * th + w_)))], [zAr T 0 a2_2 7 r2], [zO0 h md wy la pc_ a1_3 a2_4 a3_5 a4_6 a5_7 a6_8, zAr T 0 a1_3 7 f1, zAr T 0 a2_4 7 f2, zAr T 0 a3_5 7 f3, zAr T 0 a4_6 n4 f4, zAr T 0 a5_7 n4 f5, zAr T 0 a6_8 n4 f6], [zO4 la cr inn a1_9 a2_10 a3_11 a4_12, zAr T 0 a1_9 7 k1, zAr T 0 a2_10 28 k2, zAr T 0 a3_11 7 k3, zAr T 0 a4_12 7 k4], [(lg, .inr (5, [.int gg, .ref a1_13, .ref a2_14]))], [zAr T 0 a1_13 8 d1], [zAr T 0 a2_14 8 d2]] _ _ := G
      refine lv_aload_n hx hb dX3_tryWay_160 rfl (lv_at hl 3 rfl) ?_
      refine lv_dup hx hb dX3_tryWay_161 rfl ?_
      refine z_get C G clX3 0 rfl 3 (by decide) m_fl_RX3_34 rfl dX3_tryWay_162 ?_
      refine lv_iconst (v := 1) hx hb dX3_tryWay_165 (by decide) ?_
      refine lv_iadd hx hb dX3_tryWay_166 ?_
      refine lv_topi (fun y_26 ey_26 => ?_)
      obtain rfl : y_26 = nI (n3 + 1) := ey_26.trans (z_iaddn n3 1 rfl rfl)
      refine z_put C G clX3 0 rfl 3 (by decide) m_fl_RX3_34 rfl rfl rfl (Nat.le_of_ble_eq_true rfl) dX3_tryWay_167 (fun H locs G => ?_)
      have G : zS T A s.heap s [[zO3 t e0 e1 e2 (nI (n3 + 1)) ((gLM (fun w => gF (aW cr inn k1) k2 cr inn d1 d2 w gg.toInt.toNat) (w_ + 1)).1) ((gLM (fun w => gF (aW cr inn k1) k2 cr inn d1 d2 w gg.toInt.toNat) (w_ + 1)).2) a1_1 a2_2], [zAr T 0 a1_1 m1 (upd r1 n3 (nI (16384 * th + w_)))], [zAr T 0 a2_2 7 r2], [zO0 h md wy la pc_ a1_3 a2_4 a3_5 a4_6 a5_7 a6_8, zAr T 0 a1_3 7 f1, zAr T 0 a2_4 7 f2, zAr T 0 a3_5 7 f3, zAr T 0 a4_6 n4 f4, zAr T 0 a5_7 n4 f5, zAr T 0 a6_8 n4 f6], [zO4 la cr inn a1_9 a2_10 a3_11 a4_12, zAr T 0 a1_9 7 k1, zAr T 0 a2_10 28 k2, zAr T 0 a3_11 7 k3, zAr T 0 a4_12 7 k4], [(lg, .inr (5, [.int gg, .ref a1_13, .ref a2_14]))], [zAr T 0 a1_13 8 d1], [zAr T 0 a2_14 8 d2]] _ _ := G
      have hw_27 : bFit T t e0 e1 e2 (nI (n3 + 1)) ((gLM (fun w => gF (aW cr inn k1) k2 cr inn d1 d2 w gg.toInt.toNat) (w_ + 1)).1) ((gLM (fun w => gF (aW cr inn k1) k2 cr inn d1 d2 w gg.toInt.toNat) (w_ + 1)).2) (upd r1 n3 (nI (16384 * th + w_))) m1 r2 [zO3 t e0 e1 e2 (nI (n3 + 1)) ((gLM (fun w => gF (aW cr inn k1) k2 cr inn d1 d2 w gg.toInt.toNat) (w_ + 1)).1) ((gLM (fun w => gF (aW cr inn k1) k2 cr inn d1 d2 w gg.toInt.toNat) (w_ + 1)).2) a1_1 a2_2, zAr T 0 a1_1 m1 (upd r1 n3 (nI (16384 * th + w_))), zAr T 0 a2_2 7 r2] := ⟨a1_1, a2_2, rfl⟩
      have G : zS T A s.heap s [[zO3 t e0 e1 e2 (nI (n3 + 1)) ((gLM (fun w => gF (aW cr inn k1) k2 cr inn d1 d2 w gg.toInt.toNat) (w_ + 1)).1) ((gLM (fun w => gF (aW cr inn k1) k2 cr inn d1 d2 w gg.toInt.toNat) (w_ + 1)).2) a1_1 a2_2, zAr T 0 a1_1 m1 (upd r1 n3 (nI (16384 * th + w_))), zAr T 0 a2_2 7 r2], [zO0 h md wy la pc_ a1_3 a2_4 a3_5 a4_6 a5_7 a6_8, zAr T 0 a1_3 7 f1, zAr T 0 a2_4 7 f2, zAr T 0 a3_5 7 f3, zAr T 0 a4_6 n4 f4, zAr T 0 a5_7 n4 f5, zAr T 0 a6_8 n4 f6], [zO4 la cr inn a1_9 a2_10 a3_11 a4_12, zAr T 0 a1_9 7 k1, zAr T 0 a2_10 28 k2, zAr T 0 a3_11 7 k3, zAr T 0 a4_12 7 k4], [(lg, .inr (5, [.int gg, .ref a1_13, .ref a2_14]))], [zAr T 0 a1_13 8 d1], [zAr T 0 a2_14 8 d2]] _ _ := G.re rfl
      have hw_28 : bLog T lg gg d1 d2 [(lg, .inr (5, [.int gg, .ref a1_13, .ref a2_14])), zAr T 0 a1_13 8 d1, zAr T 0 a2_14 8 d2] := ⟨a1_13, a2_14, rfl⟩
      have G : zS T A s.heap s [[zO3 t e0 e1 e2 (nI (n3 + 1)) ((gLM (fun w => gF (aW cr inn k1) k2 cr inn d1 d2 w gg.toInt.toNat) (w_ + 1)).1) ((gLM (fun w => gF (aW cr inn k1) k2 cr inn d1 d2 w gg.toInt.toNat) (w_ + 1)).2) a1_1 a2_2, zAr T 0 a1_1 m1 (upd r1 n3 (nI (16384 * th + w_))), zAr T 0 a2_2 7 r2], [zO0 h md wy la pc_ a1_3 a2_4 a3_5 a4_6 a5_7 a6_8, zAr T 0 a1_3 7 f1, zAr T 0 a2_4 7 f2, zAr T 0 a3_5 7 f3, zAr T 0 a4_6 n4 f4, zAr T 0 a5_7 n4 f5, zAr T 0 a6_8 n4 f6], [zO4 la cr inn a1_9 a2_10 a3_11 a4_12, zAr T 0 a1_9 7 k1, zAr T 0 a2_10 28 k2, zAr T 0 a3_11 7 k3, zAr T 0 a4_12 7 k4], [(lg, .inr (5, [.int gg, .ref a1_13, .ref a2_14])), zAr T 0 a1_13 8 d1, zAr T 0 a2_14 8 d2]] _ _ := G.re rfl
      exact z_back hQz_ (z_vret C hr hlocks G (Nat.le_of_ble_eq_true rfl) (Nat.le_of_ble_eq_true rfl) dX3_tryWay_170 ⟨([zO3 t e0 e1 e2 (nI (n3 + 1)) ((gLM (fun w => gF (aW cr inn k1) k2 cr inn d1 d2 w gg.toInt.toNat) (w_ + 1)).1) ((gLM (fun w => gF (aW cr inn k1) k2 cr inn d1 d2 w gg.toInt.toNat) (w_ + 1)).2) a1_1 a2_2, zAr T 0 a1_1 m1 (upd r1 n3 (nI (16384 * th + w_))), zAr T 0 a2_2 7 r2]), (n3 + 1), ((gLM (fun w => gF (aW cr inn k1) k2 cr inn d1 d2 w gg.toInt.toNat) (w_ + 1)).1), ((gLM (fun w => gF (aW cr inn k1) k2 cr inn d1 d2 w gg.toInt.toNat) (w_ + 1)).2), (upd r1 n3 (nI (16384 * th + w_))), rfl, hw_27, (by rw [h3]; exact (gN_t (f := (fun w => gF (aW cr inn k1) k2 cr inn d1 d2 w gg.toInt.toNat)) (n := w_) hph1).symm), ⟨rfl, rfl⟩, (gRw_t (f := (fun w => gF (aW cr inn k1) k2 cr inn d1 d2 w gg.toInt.toNat)) (n := w_) h3 hph3 hrw)⟩)
    · have c_20n : n3 = 0 := (nI_eq (a := n3) (b := 0) (by omega) (by omega)).mp c_20
      refine lv_iload hx hb dX3_tryWay_114 (lv_at hl 1 rfl) ?_
      refine lv_goto (tgt := 128) hx hb dX3_tryWay_116 (by decide) ?_
      refine lv_topi (fun y_29 ey_29 => ?_)
      obtain rfl : y_29 = (gLM (fun w => gF (aW cr inn k1) k2 cr inn d1 d2 w gg.toInt.toNat) (w_ + 1)).1 := ey_29.trans ((by rw [hlm9]; exact (if_pos (by omega)).symm))
      refine z_put C G clX3 0 rfl 4 (by decide) m_fl_RX3_37 rfl rfl rfl (Nat.le_of_ble_eq_true rfl) dX3_tryWay_128 (fun H locs G => ?_)
      have G : zS T A s.heap s [[zO3 t e0 e1 e2 (nI n3) ((gLM (fun w => gF (aW cr inn k1) k2 cr inn d1 d2 w gg.toInt.toNat) (w_ + 1)).1) e5 a1_1 a2_2], [zAr T 0 a1_1 m1 r1], [zAr T 0 a2_2 7 r2], [zO0 h md wy la pc_ a1_3 a2_4 a3_5 a4_6 a5_7 a6_8, zAr T 0 a1_3 7 f1, zAr T 0 a2_4 7 f2, zAr T 0 a3_5 7 f3, zAr T 0 a4_6 n4 f4, zAr T 0 a5_7 n4 f5, zAr T 0 a6_8 n4 f6], [zO4 la cr inn a1_9 a2_10 a3_11 a4_12, zAr T 0 a1_9 7 k1, zAr T 0 a2_10 28 k2, zAr T 0 a3_11 7 k3, zAr T 0 a4_12 7 k4], [(lg, .inr (5, [.int gg, .ref a1_13, .ref a2_14]))], [zAr T 0 a1_13 8 d1], [zAr T 0 a2_14 8 d2]] _ _ := G
      refine lv_aload_n hx hb dX3_tryWay_131 rfl (lv_at hl 3 rfl) ?_
      refine lv_aload_n hx hb dX3_tryWay_132 rfl (lv_at hl 3 rfl) ?_
      refine z_get C G clX3 0 rfl 5 (by decide) m_fl_RX3_40 rfl dX3_tryWay_133 ?_
      refine lv_iload hx hb dX3_tryWay_136 (lv_at hl 1 rfl) ?_
      refine va_mmax hx hb (C.2.2.1.trans hl.1.symm) C.2.2.2.1 (C.2.2.2.2 _ m_ml_RX3_83) (C.2.2.2.2 _ m_st_math_max) (C.2.2.2.2 _ m_ii_math) (C.2.2.2.2 _ m_co_math_max) (Nat.le_of_ble_eq_true rfl) (Nat.le_of_ble_eq_true rfl) (Nat.le_of_ble_eq_true rfl) (Nat.le_of_ble_eq_true rfl) dX3_tryWay_138 ?_
      refine lv_topi (fun v_30 ev_30 => ?_)
      subst ev_30
      refine lv_topi (fun y_31 ey_31 => ?_)
      obtain rfl : y_31 = (gLM (fun w => gF (aW cr inn k1) k2 cr inn d1 d2 w gg.toInt.toNat) (w_ + 1)).2 := ey_31.trans ((by rw [hlm9, h45.2]))
      refine z_put C G clX3 0 rfl 5 (by decide) m_fl_RX3_40 rfl rfl rfl (Nat.le_of_ble_eq_true rfl) dX3_tryWay_141 (fun H locs G => ?_)
      have G : zS T A s.heap s [[zO3 t e0 e1 e2 (nI n3) ((gLM (fun w => gF (aW cr inn k1) k2 cr inn d1 d2 w gg.toInt.toNat) (w_ + 1)).1) ((gLM (fun w => gF (aW cr inn k1) k2 cr inn d1 d2 w gg.toInt.toNat) (w_ + 1)).2) a1_1 a2_2], [zAr T 0 a1_1 m1 r1], [zAr T 0 a2_2 7 r2], [zO0 h md wy la pc_ a1_3 a2_4 a3_5 a4_6 a5_7 a6_8, zAr T 0 a1_3 7 f1, zAr T 0 a2_4 7 f2, zAr T 0 a3_5 7 f3, zAr T 0 a4_6 n4 f4, zAr T 0 a5_7 n4 f5, zAr T 0 a6_8 n4 f6], [zO4 la cr inn a1_9 a2_10 a3_11 a4_12, zAr T 0 a1_9 7 k1, zAr T 0 a2_10 28 k2, zAr T 0 a3_11 7 k3, zAr T 0 a4_12 7 k4], [(lg, .inr (5, [.int gg, .ref a1_13, .ref a2_14]))], [zAr T 0 a1_13 8 d1], [zAr T 0 a2_14 8 d2]] _ _ := G
      refine lv_aload_n hx hb dX3_tryWay_144 rfl (lv_at hl 3 rfl) ?_
      refine z_get C G clX3 0 rfl 6 (by decide) m_fl_RX3_18 rfl dX3_tryWay_145 ?_
      refine lv_aload_n hx hb dX3_tryWay_148 rfl (lv_at hl 3 rfl) ?_
      refine z_get C G clX3 0 rfl 3 (by decide) m_fl_RX3_34 rfl dX3_tryWay_149 ?_
      refine lv_iload hx hb dX3_tryWay_152 (lv_at hl 2 rfl) ?_
      refine lv_bipush (v := 14) hx hb dX3_tryWay_154 (by decide) ?_
      refine lv_ishl hx hb dX3_tryWay_156 ?_
      refine lv_iload_n hx hb dX3_tryWay_157 rfl (lv_at hl 6 rfl) ?_
      refine lv_iadd hx hb dX3_tryWay_158 ?_
      refine lv_topi (fun y_32 ey_32 => ?_)
      obtain rfl : y_32 = nI (16384 * th + w_) := ey_32.trans ((by rw [pk_shlN (14 &&& 31) 14 (by decide) (by omega), nI_add]; exact congrArg nI (by omega)))
      refine z_ist C G 1 rfl (vp_in_nI (by omega) (by omega)) dX3_tryWay_159 (fun H locs G => ?_)
      rw [nI_clamp (by omega)] at G
      have G : zS T A s.heap s [[zO3 t e0 e1 e2 (nI n3) ((gLM (fun w => gF (aW cr inn k1) k2 cr inn d1 d2 w gg.toInt.toNat) (w_ + 1)).1) ((gLM (fun w => gF (aW cr inn k1) k2 cr inn d1 d2 w gg.toInt.toNat) (w_ + 1)).2) a1_1 a2_2], [zAr T 0 a1_1 m1 (upd r1 n3 (nI (16384 * th + w_)))], [zAr T 0 a2_2 7 r2], [zO0 h md wy la pc_ a1_3 a2_4 a3_5 a4_6 a5_7 a6_8, zAr T 0 a1_3 7 f1, zAr T 0 a2_4 7 f2, zAr T 0 a3_5 7 f3, zAr T 0 a4_6 n4 f4, zAr T 0 a5_7 n4 f5, zAr T 0 a6_8 n4 f6], [zO4 la cr inn a1_9 a2_10 a3_11 a4_12, zAr T 0 a1_9 7 k1, zAr T 0 a2_10 28 k2, zAr T 0 a3_11 7 k3, zAr T 0 a4_12 7 k4], [(lg, .inr (5, [.int gg, .ref a1_13, .ref a2_14]))], [zAr T 0 a1_13 8 d1], [zAr T 0 a2_14 8 d2]] _ _ := G
      refine lv_aload_n hx hb dX3_tryWay_160 rfl (lv_at hl 3 rfl) ?_
      refine lv_dup hx hb dX3_tryWay_161 rfl ?_
      refine z_get C G clX3 0 rfl 3 (by decide) m_fl_RX3_34 rfl dX3_tryWay_162 ?_
      refine lv_iconst (v := 1) hx hb dX3_tryWay_165 (by decide) ?_
      refine lv_iadd hx hb dX3_tryWay_166 ?_
      refine lv_topi (fun y_33 ey_33 => ?_)
      obtain rfl : y_33 = nI (n3 + 1) := ey_33.trans (z_iaddn n3 1 rfl rfl)
      refine z_put C G clX3 0 rfl 3 (by decide) m_fl_RX3_34 rfl rfl rfl (Nat.le_of_ble_eq_true rfl) dX3_tryWay_167 (fun H locs G => ?_)
      have G : zS T A s.heap s [[zO3 t e0 e1 e2 (nI (n3 + 1)) ((gLM (fun w => gF (aW cr inn k1) k2 cr inn d1 d2 w gg.toInt.toNat) (w_ + 1)).1) ((gLM (fun w => gF (aW cr inn k1) k2 cr inn d1 d2 w gg.toInt.toNat) (w_ + 1)).2) a1_1 a2_2], [zAr T 0 a1_1 m1 (upd r1 n3 (nI (16384 * th + w_)))], [zAr T 0 a2_2 7 r2], [zO0 h md wy la pc_ a1_3 a2_4 a3_5 a4_6 a5_7 a6_8, zAr T 0 a1_3 7 f1, zAr T 0 a2_4 7 f2, zAr T 0 a3_5 7 f3, zAr T 0 a4_6 n4 f4, zAr T 0 a5_7 n4 f5, zAr T 0 a6_8 n4 f6], [zO4 la cr inn a1_9 a2_10 a3_11 a4_12, zAr T 0 a1_9 7 k1, zAr T 0 a2_10 28 k2, zAr T 0 a3_11 7 k3, zAr T 0 a4_12 7 k4], [(lg, .inr (5, [.int gg, .ref a1_13, .ref a2_14]))], [zAr T 0 a1_13 8 d1], [zAr T 0 a2_14 8 d2]] _ _ := G
      have hw_34 : bFit T t e0 e1 e2 (nI (n3 + 1)) ((gLM (fun w => gF (aW cr inn k1) k2 cr inn d1 d2 w gg.toInt.toNat) (w_ + 1)).1) ((gLM (fun w => gF (aW cr inn k1) k2 cr inn d1 d2 w gg.toInt.toNat) (w_ + 1)).2) (upd r1 n3 (nI (16384 * th + w_))) m1 r2 [zO3 t e0 e1 e2 (nI (n3 + 1)) ((gLM (fun w => gF (aW cr inn k1) k2 cr inn d1 d2 w gg.toInt.toNat) (w_ + 1)).1) ((gLM (fun w => gF (aW cr inn k1) k2 cr inn d1 d2 w gg.toInt.toNat) (w_ + 1)).2) a1_1 a2_2, zAr T 0 a1_1 m1 (upd r1 n3 (nI (16384 * th + w_))), zAr T 0 a2_2 7 r2] := ⟨a1_1, a2_2, rfl⟩
      have G : zS T A s.heap s [[zO3 t e0 e1 e2 (nI (n3 + 1)) ((gLM (fun w => gF (aW cr inn k1) k2 cr inn d1 d2 w gg.toInt.toNat) (w_ + 1)).1) ((gLM (fun w => gF (aW cr inn k1) k2 cr inn d1 d2 w gg.toInt.toNat) (w_ + 1)).2) a1_1 a2_2, zAr T 0 a1_1 m1 (upd r1 n3 (nI (16384 * th + w_))), zAr T 0 a2_2 7 r2], [zO0 h md wy la pc_ a1_3 a2_4 a3_5 a4_6 a5_7 a6_8, zAr T 0 a1_3 7 f1, zAr T 0 a2_4 7 f2, zAr T 0 a3_5 7 f3, zAr T 0 a4_6 n4 f4, zAr T 0 a5_7 n4 f5, zAr T 0 a6_8 n4 f6], [zO4 la cr inn a1_9 a2_10 a3_11 a4_12, zAr T 0 a1_9 7 k1, zAr T 0 a2_10 28 k2, zAr T 0 a3_11 7 k3, zAr T 0 a4_12 7 k4], [(lg, .inr (5, [.int gg, .ref a1_13, .ref a2_14]))], [zAr T 0 a1_13 8 d1], [zAr T 0 a2_14 8 d2]] _ _ := G.re rfl
      have hw_35 : bLog T lg gg d1 d2 [(lg, .inr (5, [.int gg, .ref a1_13, .ref a2_14])), zAr T 0 a1_13 8 d1, zAr T 0 a2_14 8 d2] := ⟨a1_13, a2_14, rfl⟩
      have G : zS T A s.heap s [[zO3 t e0 e1 e2 (nI (n3 + 1)) ((gLM (fun w => gF (aW cr inn k1) k2 cr inn d1 d2 w gg.toInt.toNat) (w_ + 1)).1) ((gLM (fun w => gF (aW cr inn k1) k2 cr inn d1 d2 w gg.toInt.toNat) (w_ + 1)).2) a1_1 a2_2, zAr T 0 a1_1 m1 (upd r1 n3 (nI (16384 * th + w_))), zAr T 0 a2_2 7 r2], [zO0 h md wy la pc_ a1_3 a2_4 a3_5 a4_6 a5_7 a6_8, zAr T 0 a1_3 7 f1, zAr T 0 a2_4 7 f2, zAr T 0 a3_5 7 f3, zAr T 0 a4_6 n4 f4, zAr T 0 a5_7 n4 f5, zAr T 0 a6_8 n4 f6], [zO4 la cr inn a1_9 a2_10 a3_11 a4_12, zAr T 0 a1_9 7 k1, zAr T 0 a2_10 28 k2, zAr T 0 a3_11 7 k3, zAr T 0 a4_12 7 k4], [(lg, .inr (5, [.int gg, .ref a1_13, .ref a2_14])), zAr T 0 a1_13 8 d1, zAr T 0 a2_14 8 d2]] _ _ := G.re rfl
      exact z_back hQz_ (z_vret C hr hlocks G (Nat.le_of_ble_eq_true rfl) (Nat.le_of_ble_eq_true rfl) dX3_tryWay_170 ⟨([zO3 t e0 e1 e2 (nI (n3 + 1)) ((gLM (fun w => gF (aW cr inn k1) k2 cr inn d1 d2 w gg.toInt.toNat) (w_ + 1)).1) ((gLM (fun w => gF (aW cr inn k1) k2 cr inn d1 d2 w gg.toInt.toNat) (w_ + 1)).2) a1_1 a2_2, zAr T 0 a1_1 m1 (upd r1 n3 (nI (16384 * th + w_))), zAr T 0 a2_2 7 r2]), (n3 + 1), ((gLM (fun w => gF (aW cr inn k1) k2 cr inn d1 d2 w gg.toInt.toNat) (w_ + 1)).1), ((gLM (fun w => gF (aW cr inn k1) k2 cr inn d1 d2 w gg.toInt.toNat) (w_ + 1)).2), (upd r1 n3 (nI (16384 * th + w_))), rfl, hw_34, (by rw [h3]; exact (gN_t (f := (fun w => gF (aW cr inn k1) k2 cr inn d1 d2 w gg.toInt.toNat)) (n := w_) hph1).symm), ⟨rfl, rfl⟩, (gRw_t (f := (fun w => gF (aW cr inn k1) k2 cr inn d1 d2 w gg.toInt.toNat)) (n := w_) h3 hph3 hrw)⟩)
  · have c_19n : ¬ gg.toInt ≤ (i : Int) := fun q => c_19 ((fa_le _ _).mpr (by rw [nI_toInt (n := i) (by omega)]; exact q))
    refine lv_iload hx hb dX3_tryWay_18 (lv_at hl 0 rfl) ?_
    refine lv_bipush (v := 8) hx hb dX3_tryWay_20 (by decide) ?_
    refine lv_icmp_ge (tgt := 94) hx hb dX3_tryWay_22 (by decide) (fun c_36 => ?_) (fun c_36 => ?_)
    · have c_36n : 8 ≤ i := (nI_leI (a := 8) (b := i) (by omega) (by omega)).mp c_36
      have hgi9 : i = gg.toInt.toNat := by omega
      have hph9 : (fun w => gF (aW cr inn k1) k2 cr inn d1 d2 w gg.toInt.toNat) w_ = (true, th, st) := by show gF (aW cr inn k1) k2 cr inn d1 d2 w_ gg.toInt.toNat = _; rw [← hgi9]; exact hgf
      have hph1 : ((fun w => gF (aW cr inn k1) k2 cr inn d1 d2 w gg.toInt.toNat) w_).1 = true := by rw [hph9]
      have hph2 : ((fun w => gF (aW cr inn k1) k2 cr inn d1 d2 w gg.toInt.toNat) w_).2.2 = st := by rw [hph9]
      have hph3 : ((fun w => gF (aW cr inn k1) k2 cr inn d1 d2 w gg.toInt.toNat) w_).2.1 = th := by rw [hph9]
      have hn39 : n3 ≤ w_ := by rw [h3]; exact gN_le _
      have hlm9 := gLM_t (f := (fun w => gF (aW cr inn k1) k2 cr inn d1 d2 w gg.toInt.toNat)) (n := w_) hph1 hph2
      refine lv_aload_n hx hb dX3_tryWay_94 rfl (lv_at hl 3 rfl) ?_
      have G : zS T A s.heap s [[zO3 t e0 e1 e2 (nI n3) e4 e5 a1_1 a2_2], [zAr T 0 a1_1 m1 r1], [zAr T 0 a2_2 7 r2], [zO0 h md wy la pc_ a1_3 a2_4 a3_5 a4_6 a5_7 a6_8, zAr T 0 a1_3 7 f1, zAr T 0 a2_4 7 f2, zAr T 0 a3_5 7 f3, zAr T 0 a4_6 n4 f4, zAr T 0 a5_7 n4 f5, zAr T 0 a6_8 n4 f6], [zO4 la cr inn a1_9 a2_10 a3_11 a4_12, zAr T 0 a1_9 7 k1, zAr T 0 a2_10 28 k2, zAr T 0 a3_11 7 k3, zAr T 0 a4_12 7 k4], [(lg, .inr (5, [.int gg, .ref a1_13, .ref a2_14]))], [zAr T 0 a1_13 8 d1], [zAr T 0 a2_14 8 d2]] _ _ := G.re rfl
      refine z_get C G clX3 0 rfl 3 (by decide) m_fl_RX3_34 rfl dX3_tryWay_95 ?_
      refine lv_aload_n hx hb dX3_tryWay_98 rfl (lv_at hl 3 rfl) ?_
      refine z_get C G clX3 0 rfl 6 (by decide) m_fl_RX3_18 rfl dX3_tryWay_99 ?_
      refine z_alen C G 1 0 rfl (v := nI m1) rfl rfl dX3_tryWay_102 ?_
      refine lv_icmp_ge (tgt := 170) hx hb dX3_tryWay_103 (by decide) (fun q => absurd q (fun q2 => absurd ((nI_leI (a := m1) (b := n3) (by omega) (by omega)).mp q2) (by omega))) (fun _ => ?_)
      refine lv_aload_n hx hb dX3_tryWay_106 rfl (lv_at hl 3 rfl) ?_
      refine lv_aload_n hx hb dX3_tryWay_107 rfl (lv_at hl 3 rfl) ?_
      refine z_get C G clX3 0 rfl 3 (by decide) m_fl_RX3_34 rfl dX3_tryWay_108 ?_
      refine lv_if_ne (tgt := 119) hx hb dX3_tryWay_111 (by decide) (fun c_37 => ?_) (fun c_37 => ?_)
      · have c_37n : ¬ n3 = 0 := fun q => c_37 ((nI_eq (a := n3) (b := 0) (by omega) (by omega)).mpr q)
        refine lv_aload_n hx hb dX3_tryWay_119 rfl (lv_at hl 3 rfl) ?_
        refine z_get C G clX3 0 rfl 4 (by decide) m_fl_RX3_37 rfl dX3_tryWay_120 ?_
        refine lv_iload hx hb dX3_tryWay_123 (lv_at hl 1 rfl) ?_
        refine va_mmin hx hb (C.2.2.1.trans hl.1.symm) C.2.2.2.1 (C.2.2.2.2 _ m_ml_RX3_78) (C.2.2.2.2 _ m_st_math_min) (C.2.2.2.2 _ m_ii_math) (C.2.2.2.2 _ m_co_math_min) (Nat.le_of_ble_eq_true rfl) (Nat.le_of_ble_eq_true rfl) (Nat.le_of_ble_eq_true rfl) (Nat.le_of_ble_eq_true rfl) dX3_tryWay_125 ?_
        refine lv_topi (fun v_38 ev_38 => ?_)
        subst ev_38
        refine lv_topi (fun y_39 ey_39 => ?_)
        obtain rfl : y_39 = (gLM (fun w => gF (aW cr inn k1) k2 cr inn d1 d2 w gg.toInt.toNat) (w_ + 1)).1 := ey_39.trans ((by rw [hlm9, h45.1]; exact (if_neg (show ¬ gN (fun w => gF (aW cr inn k1) k2 cr inn d1 d2 w gg.toInt.toNat) w_ = 0 by omega)).symm))
        refine z_put C G clX3 0 rfl 4 (by decide) m_fl_RX3_37 rfl rfl rfl (Nat.le_of_ble_eq_true rfl) dX3_tryWay_128 (fun H locs G => ?_)
        have G : zS T A s.heap s [[zO3 t e0 e1 e2 (nI n3) ((gLM (fun w => gF (aW cr inn k1) k2 cr inn d1 d2 w gg.toInt.toNat) (w_ + 1)).1) e5 a1_1 a2_2], [zAr T 0 a1_1 m1 r1], [zAr T 0 a2_2 7 r2], [zO0 h md wy la pc_ a1_3 a2_4 a3_5 a4_6 a5_7 a6_8, zAr T 0 a1_3 7 f1, zAr T 0 a2_4 7 f2, zAr T 0 a3_5 7 f3, zAr T 0 a4_6 n4 f4, zAr T 0 a5_7 n4 f5, zAr T 0 a6_8 n4 f6], [zO4 la cr inn a1_9 a2_10 a3_11 a4_12, zAr T 0 a1_9 7 k1, zAr T 0 a2_10 28 k2, zAr T 0 a3_11 7 k3, zAr T 0 a4_12 7 k4], [(lg, .inr (5, [.int gg, .ref a1_13, .ref a2_14]))], [zAr T 0 a1_13 8 d1], [zAr T 0 a2_14 8 d2]] _ _ := G
        refine lv_aload_n hx hb dX3_tryWay_131 rfl (lv_at hl 3 rfl) ?_
        refine lv_aload_n hx hb dX3_tryWay_132 rfl (lv_at hl 3 rfl) ?_
        refine z_get C G clX3 0 rfl 5 (by decide) m_fl_RX3_40 rfl dX3_tryWay_133 ?_
        refine lv_iload hx hb dX3_tryWay_136 (lv_at hl 1 rfl) ?_
        refine va_mmax hx hb (C.2.2.1.trans hl.1.symm) C.2.2.2.1 (C.2.2.2.2 _ m_ml_RX3_83) (C.2.2.2.2 _ m_st_math_max) (C.2.2.2.2 _ m_ii_math) (C.2.2.2.2 _ m_co_math_max) (Nat.le_of_ble_eq_true rfl) (Nat.le_of_ble_eq_true rfl) (Nat.le_of_ble_eq_true rfl) (Nat.le_of_ble_eq_true rfl) dX3_tryWay_138 ?_
        refine lv_topi (fun v_40 ev_40 => ?_)
        subst ev_40
        refine lv_topi (fun y_41 ey_41 => ?_)
        obtain rfl : y_41 = (gLM (fun w => gF (aW cr inn k1) k2 cr inn d1 d2 w gg.toInt.toNat) (w_ + 1)).2 := ey_41.trans ((by rw [hlm9, h45.2]))
        refine z_put C G clX3 0 rfl 5 (by decide) m_fl_RX3_40 rfl rfl rfl (Nat.le_of_ble_eq_true rfl) dX3_tryWay_141 (fun H locs G => ?_)
        have G : zS T A s.heap s [[zO3 t e0 e1 e2 (nI n3) ((gLM (fun w => gF (aW cr inn k1) k2 cr inn d1 d2 w gg.toInt.toNat) (w_ + 1)).1) ((gLM (fun w => gF (aW cr inn k1) k2 cr inn d1 d2 w gg.toInt.toNat) (w_ + 1)).2) a1_1 a2_2], [zAr T 0 a1_1 m1 r1], [zAr T 0 a2_2 7 r2], [zO0 h md wy la pc_ a1_3 a2_4 a3_5 a4_6 a5_7 a6_8, zAr T 0 a1_3 7 f1, zAr T 0 a2_4 7 f2, zAr T 0 a3_5 7 f3, zAr T 0 a4_6 n4 f4, zAr T 0 a5_7 n4 f5, zAr T 0 a6_8 n4 f6], [zO4 la cr inn a1_9 a2_10 a3_11 a4_12, zAr T 0 a1_9 7 k1, zAr T 0 a2_10 28 k2, zAr T 0 a3_11 7 k3, zAr T 0 a4_12 7 k4], [(lg, .inr (5, [.int gg, .ref a1_13, .ref a2_14]))], [zAr T 0 a1_13 8 d1], [zAr T 0 a2_14 8 d2]] _ _ := G
        refine lv_aload_n hx hb dX3_tryWay_144 rfl (lv_at hl 3 rfl) ?_
        refine z_get C G clX3 0 rfl 6 (by decide) m_fl_RX3_18 rfl dX3_tryWay_145 ?_
        refine lv_aload_n hx hb dX3_tryWay_148 rfl (lv_at hl 3 rfl) ?_
        refine z_get C G clX3 0 rfl 3 (by decide) m_fl_RX3_34 rfl dX3_tryWay_149 ?_
        refine lv_iload hx hb dX3_tryWay_152 (lv_at hl 2 rfl) ?_
        refine lv_bipush (v := 14) hx hb dX3_tryWay_154 (by decide) ?_
        refine lv_ishl hx hb dX3_tryWay_156 ?_
        refine lv_iload_n hx hb dX3_tryWay_157 rfl (lv_at hl 6 rfl) ?_
        refine lv_iadd hx hb dX3_tryWay_158 ?_
        refine lv_topi (fun y_42 ey_42 => ?_)
        obtain rfl : y_42 = nI (16384 * th + w_) := ey_42.trans ((by rw [pk_shlN (14 &&& 31) 14 (by decide) (by omega), nI_add]; exact congrArg nI (by omega)))
        refine z_ist C G 1 rfl (vp_in_nI (by omega) (by omega)) dX3_tryWay_159 (fun H locs G => ?_)
        rw [nI_clamp (by omega)] at G
        have G : zS T A s.heap s [[zO3 t e0 e1 e2 (nI n3) ((gLM (fun w => gF (aW cr inn k1) k2 cr inn d1 d2 w gg.toInt.toNat) (w_ + 1)).1) ((gLM (fun w => gF (aW cr inn k1) k2 cr inn d1 d2 w gg.toInt.toNat) (w_ + 1)).2) a1_1 a2_2], [zAr T 0 a1_1 m1 (upd r1 n3 (nI (16384 * th + w_)))], [zAr T 0 a2_2 7 r2], [zO0 h md wy la pc_ a1_3 a2_4 a3_5 a4_6 a5_7 a6_8, zAr T 0 a1_3 7 f1, zAr T 0 a2_4 7 f2, zAr T 0 a3_5 7 f3, zAr T 0 a4_6 n4 f4, zAr T 0 a5_7 n4 f5, zAr T 0 a6_8 n4 f6], [zO4 la cr inn a1_9 a2_10 a3_11 a4_12, zAr T 0 a1_9 7 k1, zAr T 0 a2_10 28 k2, zAr T 0 a3_11 7 k3, zAr T 0 a4_12 7 k4], [(lg, .inr (5, [.int gg, .ref a1_13, .ref a2_14]))], [zAr T 0 a1_13 8 d1], [zAr T 0 a2_14 8 d2]] _ _ := G
        refine lv_aload_n hx hb dX3_tryWay_160 rfl (lv_at hl 3 rfl) ?_
        refine lv_dup hx hb dX3_tryWay_161 rfl ?_
        refine z_get C G clX3 0 rfl 3 (by decide) m_fl_RX3_34 rfl dX3_tryWay_162 ?_
        refine lv_iconst (v := 1) hx hb dX3_tryWay_165 (by decide) ?_
        refine lv_iadd hx hb dX3_tryWay_166 ?_
        refine lv_topi (fun y_43 ey_43 => ?_)
        obtain rfl : y_43 = nI (n3 + 1) := ey_43.trans (z_iaddn n3 1 rfl rfl)
        refine z_put C G clX3 0 rfl 3 (by decide) m_fl_RX3_34 rfl rfl rfl (Nat.le_of_ble_eq_true rfl) dX3_tryWay_167 (fun H locs G => ?_)
        have G : zS T A s.heap s [[zO3 t e0 e1 e2 (nI (n3 + 1)) ((gLM (fun w => gF (aW cr inn k1) k2 cr inn d1 d2 w gg.toInt.toNat) (w_ + 1)).1) ((gLM (fun w => gF (aW cr inn k1) k2 cr inn d1 d2 w gg.toInt.toNat) (w_ + 1)).2) a1_1 a2_2], [zAr T 0 a1_1 m1 (upd r1 n3 (nI (16384 * th + w_)))], [zAr T 0 a2_2 7 r2], [zO0 h md wy la pc_ a1_3 a2_4 a3_5 a4_6 a5_7 a6_8, zAr T 0 a1_3 7 f1, zAr T 0 a2_4 7 f2, zAr T 0 a3_5 7 f3, zAr T 0 a4_6 n4 f4, zAr T 0 a5_7 n4 f5, zAr T 0 a6_8 n4 f6], [zO4 la cr inn a1_9 a2_10 a3_11 a4_12, zAr T 0 a1_9 7 k1, zAr T 0 a2_10 28 k2, zAr T 0 a3_11 7 k3, zAr T 0 a4_12 7 k4], [(lg, .inr (5, [.int gg, .ref a1_13, .ref a2_14]))], [zAr T 0 a1_13 8 d1], [zAr T 0 a2_14 8 d2]] _ _ := G
        have hw_44 : bFit T t e0 e1 e2 (nI (n3 + 1)) ((gLM (fun w => gF (aW cr inn k1) k2 cr inn d1 d2 w gg.toInt.toNat) (w_ + 1)).1) ((gLM (fun w => gF (aW cr inn k1) k2 cr inn d1 d2 w gg.toInt.toNat) (w_ + 1)).2) (upd r1 n3 (nI (16384 * th + w_))) m1 r2 [zO3 t e0 e1 e2 (nI (n3 + 1)) ((gLM (fun w => gF (aW cr inn k1) k2 cr inn d1 d2 w gg.toInt.toNat) (w_ + 1)).1) ((gLM (fun w => gF (aW cr inn k1) k2 cr inn d1 d2 w gg.toInt.toNat) (w_ + 1)).2) a1_1 a2_2, zAr T 0 a1_1 m1 (upd r1 n3 (nI (16384 * th + w_))), zAr T 0 a2_2 7 r2] := ⟨a1_1, a2_2, rfl⟩
        have G : zS T A s.heap s [[zO3 t e0 e1 e2 (nI (n3 + 1)) ((gLM (fun w => gF (aW cr inn k1) k2 cr inn d1 d2 w gg.toInt.toNat) (w_ + 1)).1) ((gLM (fun w => gF (aW cr inn k1) k2 cr inn d1 d2 w gg.toInt.toNat) (w_ + 1)).2) a1_1 a2_2, zAr T 0 a1_1 m1 (upd r1 n3 (nI (16384 * th + w_))), zAr T 0 a2_2 7 r2], [zO0 h md wy la pc_ a1_3 a2_4 a3_5 a4_6 a5_7 a6_8, zAr T 0 a1_3 7 f1, zAr T 0 a2_4 7 f2, zAr T 0 a3_5 7 f3, zAr T 0 a4_6 n4 f4, zAr T 0 a5_7 n4 f5, zAr T 0 a6_8 n4 f6], [zO4 la cr inn a1_9 a2_10 a3_11 a4_12, zAr T 0 a1_9 7 k1, zAr T 0 a2_10 28 k2, zAr T 0 a3_11 7 k3, zAr T 0 a4_12 7 k4], [(lg, .inr (5, [.int gg, .ref a1_13, .ref a2_14]))], [zAr T 0 a1_13 8 d1], [zAr T 0 a2_14 8 d2]] _ _ := G.re rfl
        have hw_45 : bLog T lg gg d1 d2 [(lg, .inr (5, [.int gg, .ref a1_13, .ref a2_14])), zAr T 0 a1_13 8 d1, zAr T 0 a2_14 8 d2] := ⟨a1_13, a2_14, rfl⟩
        have G : zS T A s.heap s [[zO3 t e0 e1 e2 (nI (n3 + 1)) ((gLM (fun w => gF (aW cr inn k1) k2 cr inn d1 d2 w gg.toInt.toNat) (w_ + 1)).1) ((gLM (fun w => gF (aW cr inn k1) k2 cr inn d1 d2 w gg.toInt.toNat) (w_ + 1)).2) a1_1 a2_2, zAr T 0 a1_1 m1 (upd r1 n3 (nI (16384 * th + w_))), zAr T 0 a2_2 7 r2], [zO0 h md wy la pc_ a1_3 a2_4 a3_5 a4_6 a5_7 a6_8, zAr T 0 a1_3 7 f1, zAr T 0 a2_4 7 f2, zAr T 0 a3_5 7 f3, zAr T 0 a4_6 n4 f4, zAr T 0 a5_7 n4 f5, zAr T 0 a6_8 n4 f6], [zO4 la cr inn a1_9 a2_10 a3_11 a4_12, zAr T 0 a1_9 7 k1, zAr T 0 a2_10 28 k2, zAr T 0 a3_11 7 k3, zAr T 0 a4_12 7 k4], [(lg, .inr (5, [.int gg, .ref a1_13, .ref a2_14])), zAr T 0 a1_13 8 d1, zAr T 0 a2_14 8 d2]] _ _ := G.re rfl
        exact z_back hQz_ (z_vret C hr hlocks G (Nat.le_of_ble_eq_true rfl) (Nat.le_of_ble_eq_true rfl) dX3_tryWay_170 ⟨([zO3 t e0 e1 e2 (nI (n3 + 1)) ((gLM (fun w => gF (aW cr inn k1) k2 cr inn d1 d2 w gg.toInt.toNat) (w_ + 1)).1) ((gLM (fun w => gF (aW cr inn k1) k2 cr inn d1 d2 w gg.toInt.toNat) (w_ + 1)).2) a1_1 a2_2, zAr T 0 a1_1 m1 (upd r1 n3 (nI (16384 * th + w_))), zAr T 0 a2_2 7 r2]), (n3 + 1), ((gLM (fun w => gF (aW cr inn k1) k2 cr inn d1 d2 w gg.toInt.toNat) (w_ + 1)).1), ((gLM (fun w => gF (aW cr inn k1) k2 cr inn d1 d2 w gg.toInt.toNat) (w_ + 1)).2), (upd r1 n3 (nI (16384 * th + w_))), rfl, hw_44, (by rw [h3]; exact (gN_t (f := (fun w => gF (aW cr inn k1) k2 cr inn d1 d2 w gg.toInt.toNat)) (n := w_) hph1).symm), ⟨rfl, rfl⟩, (gRw_t (f := (fun w => gF (aW cr inn k1) k2 cr inn d1 d2 w gg.toInt.toNat)) (n := w_) h3 hph3 hrw)⟩)
      · have c_37n : n3 = 0 := (nI_eq (a := n3) (b := 0) (by omega) (by omega)).mp c_37
        refine lv_iload hx hb dX3_tryWay_114 (lv_at hl 1 rfl) ?_
        refine lv_goto (tgt := 128) hx hb dX3_tryWay_116 (by decide) ?_
        refine lv_topi (fun y_46 ey_46 => ?_)
        obtain rfl : y_46 = (gLM (fun w => gF (aW cr inn k1) k2 cr inn d1 d2 w gg.toInt.toNat) (w_ + 1)).1 := ey_46.trans ((by rw [hlm9]; exact (if_pos (by omega)).symm))
        refine z_put C G clX3 0 rfl 4 (by decide) m_fl_RX3_37 rfl rfl rfl (Nat.le_of_ble_eq_true rfl) dX3_tryWay_128 (fun H locs G => ?_)
        have G : zS T A s.heap s [[zO3 t e0 e1 e2 (nI n3) ((gLM (fun w => gF (aW cr inn k1) k2 cr inn d1 d2 w gg.toInt.toNat) (w_ + 1)).1) e5 a1_1 a2_2], [zAr T 0 a1_1 m1 r1], [zAr T 0 a2_2 7 r2], [zO0 h md wy la pc_ a1_3 a2_4 a3_5 a4_6 a5_7 a6_8, zAr T 0 a1_3 7 f1, zAr T 0 a2_4 7 f2, zAr T 0 a3_5 7 f3, zAr T 0 a4_6 n4 f4, zAr T 0 a5_7 n4 f5, zAr T 0 a6_8 n4 f6], [zO4 la cr inn a1_9 a2_10 a3_11 a4_12, zAr T 0 a1_9 7 k1, zAr T 0 a2_10 28 k2, zAr T 0 a3_11 7 k3, zAr T 0 a4_12 7 k4], [(lg, .inr (5, [.int gg, .ref a1_13, .ref a2_14]))], [zAr T 0 a1_13 8 d1], [zAr T 0 a2_14 8 d2]] _ _ := G
        refine lv_aload_n hx hb dX3_tryWay_131 rfl (lv_at hl 3 rfl) ?_
        refine lv_aload_n hx hb dX3_tryWay_132 rfl (lv_at hl 3 rfl) ?_
        refine z_get C G clX3 0 rfl 5 (by decide) m_fl_RX3_40 rfl dX3_tryWay_133 ?_
        refine lv_iload hx hb dX3_tryWay_136 (lv_at hl 1 rfl) ?_
        refine va_mmax hx hb (C.2.2.1.trans hl.1.symm) C.2.2.2.1 (C.2.2.2.2 _ m_ml_RX3_83) (C.2.2.2.2 _ m_st_math_max) (C.2.2.2.2 _ m_ii_math) (C.2.2.2.2 _ m_co_math_max) (Nat.le_of_ble_eq_true rfl) (Nat.le_of_ble_eq_true rfl) (Nat.le_of_ble_eq_true rfl) (Nat.le_of_ble_eq_true rfl) dX3_tryWay_138 ?_
        refine lv_topi (fun v_47 ev_47 => ?_)
        subst ev_47
        refine lv_topi (fun y_48 ey_48 => ?_)
        obtain rfl : y_48 = (gLM (fun w => gF (aW cr inn k1) k2 cr inn d1 d2 w gg.toInt.toNat) (w_ + 1)).2 := ey_48.trans ((by rw [hlm9, h45.2]))
        refine z_put C G clX3 0 rfl 5 (by decide) m_fl_RX3_40 rfl rfl rfl (Nat.le_of_ble_eq_true rfl) dX3_tryWay_141 (fun H locs G => ?_)
        have G : zS T A s.heap s [[zO3 t e0 e1 e2 (nI n3) ((gLM (fun w => gF (aW cr inn k1) k2 cr inn d1 d2 w gg.toInt.toNat) (w_ + 1)).1) ((gLM (fun w => gF (aW cr inn k1) k2 cr inn d1 d2 w gg.toInt.toNat) (w_ + 1)).2) a1_1 a2_2], [zAr T 0 a1_1 m1 r1], [zAr T 0 a2_2 7 r2], [zO0 h md wy la pc_ a1_3 a2_4 a3_5 a4_6 a5_7 a6_8, zAr T 0 a1_3 7 f1, zAr T 0 a2_4 7 f2, zAr T 0 a3_5 7 f3, zAr T 0 a4_6 n4 f4, zAr T 0 a5_7 n4 f5, zAr T 0 a6_8 n4 f6], [zO4 la cr inn a1_9 a2_10 a3_11 a4_12, zAr T 0 a1_9 7 k1, zAr T 0 a2_10 28 k2, zAr T 0 a3_11 7 k3, zAr T 0 a4_12 7 k4], [(lg, .inr (5, [.int gg, .ref a1_13, .ref a2_14]))], [zAr T 0 a1_13 8 d1], [zAr T 0 a2_14 8 d2]] _ _ := G
        refine lv_aload_n hx hb dX3_tryWay_144 rfl (lv_at hl 3 rfl) ?_
        refine z_get C G clX3 0 rfl 6 (by decide) m_fl_RX3_18 rfl dX3_tryWay_145 ?_
        refine lv_aload_n hx hb dX3_tryWay_148 rfl (lv_at hl 3 rfl) ?_
        refine z_get C G clX3 0 rfl 3 (by decide) m_fl_RX3_34 rfl dX3_tryWay_149 ?_
        refine lv_iload hx hb dX3_tryWay_152 (lv_at hl 2 rfl) ?_
        refine lv_bipush (v := 14) hx hb dX3_tryWay_154 (by decide) ?_
        refine lv_ishl hx hb dX3_tryWay_156 ?_
        refine lv_iload_n hx hb dX3_tryWay_157 rfl (lv_at hl 6 rfl) ?_
        refine lv_iadd hx hb dX3_tryWay_158 ?_
        refine lv_topi (fun y_49 ey_49 => ?_)
        obtain rfl : y_49 = nI (16384 * th + w_) := ey_49.trans ((by rw [pk_shlN (14 &&& 31) 14 (by decide) (by omega), nI_add]; exact congrArg nI (by omega)))
        refine z_ist C G 1 rfl (vp_in_nI (by omega) (by omega)) dX3_tryWay_159 (fun H locs G => ?_)
        rw [nI_clamp (by omega)] at G
        have G : zS T A s.heap s [[zO3 t e0 e1 e2 (nI n3) ((gLM (fun w => gF (aW cr inn k1) k2 cr inn d1 d2 w gg.toInt.toNat) (w_ + 1)).1) ((gLM (fun w => gF (aW cr inn k1) k2 cr inn d1 d2 w gg.toInt.toNat) (w_ + 1)).2) a1_1 a2_2], [zAr T 0 a1_1 m1 (upd r1 n3 (nI (16384 * th + w_)))], [zAr T 0 a2_2 7 r2], [zO0 h md wy la pc_ a1_3 a2_4 a3_5 a4_6 a5_7 a6_8, zAr T 0 a1_3 7 f1, zAr T 0 a2_4 7 f2, zAr T 0 a3_5 7 f3, zAr T 0 a4_6 n4 f4, zAr T 0 a5_7 n4 f5, zAr T 0 a6_8 n4 f6], [zO4 la cr inn a1_9 a2_10 a3_11 a4_12, zAr T 0 a1_9 7 k1, zAr T 0 a2_10 28 k2, zAr T 0 a3_11 7 k3, zAr T 0 a4_12 7 k4], [(lg, .inr (5, [.int gg, .ref a1_13, .ref a2_14]))], [zAr T 0 a1_13 8 d1], [zAr T 0 a2_14 8 d2]] _ _ := G
        refine lv_aload_n hx hb dX3_tryWay_160 rfl (lv_at hl 3 rfl) ?_
        refine lv_dup hx hb dX3_tryWay_161 rfl ?_
        refine z_get C G clX3 0 rfl 3 (by decide) m_fl_RX3_34 rfl dX3_tryWay_162 ?_
        refine lv_iconst (v := 1) hx hb dX3_tryWay_165 (by decide) ?_
        refine lv_iadd hx hb dX3_tryWay_166 ?_
        refine lv_topi (fun y_50 ey_50 => ?_)
        obtain rfl : y_50 = nI (n3 + 1) := ey_50.trans (z_iaddn n3 1 rfl rfl)
        refine z_put C G clX3 0 rfl 3 (by decide) m_fl_RX3_34 rfl rfl rfl (Nat.le_of_ble_eq_true rfl) dX3_tryWay_167 (fun H locs G => ?_)
        have G : zS T A s.heap s [[zO3 t e0 e1 e2 (nI (n3 + 1)) ((gLM (fun w => gF (aW cr inn k1) k2 cr inn d1 d2 w gg.toInt.toNat) (w_ + 1)).1) ((gLM (fun w => gF (aW cr inn k1) k2 cr inn d1 d2 w gg.toInt.toNat) (w_ + 1)).2) a1_1 a2_2], [zAr T 0 a1_1 m1 (upd r1 n3 (nI (16384 * th + w_)))], [zAr T 0 a2_2 7 r2], [zO0 h md wy la pc_ a1_3 a2_4 a3_5 a4_6 a5_7 a6_8, zAr T 0 a1_3 7 f1, zAr T 0 a2_4 7 f2, zAr T 0 a3_5 7 f3, zAr T 0 a4_6 n4 f4, zAr T 0 a5_7 n4 f5, zAr T 0 a6_8 n4 f6], [zO4 la cr inn a1_9 a2_10 a3_11 a4_12, zAr T 0 a1_9 7 k1, zAr T 0 a2_10 28 k2, zAr T 0 a3_11 7 k3, zAr T 0 a4_12 7 k4], [(lg, .inr (5, [.int gg, .ref a1_13, .ref a2_14]))], [zAr T 0 a1_13 8 d1], [zAr T 0 a2_14 8 d2]] _ _ := G
        have hw_51 : bFit T t e0 e1 e2 (nI (n3 + 1)) ((gLM (fun w => gF (aW cr inn k1) k2 cr inn d1 d2 w gg.toInt.toNat) (w_ + 1)).1) ((gLM (fun w => gF (aW cr inn k1) k2 cr inn d1 d2 w gg.toInt.toNat) (w_ + 1)).2) (upd r1 n3 (nI (16384 * th + w_))) m1 r2 [zO3 t e0 e1 e2 (nI (n3 + 1)) ((gLM (fun w => gF (aW cr inn k1) k2 cr inn d1 d2 w gg.toInt.toNat) (w_ + 1)).1) ((gLM (fun w => gF (aW cr inn k1) k2 cr inn d1 d2 w gg.toInt.toNat) (w_ + 1)).2) a1_1 a2_2, zAr T 0 a1_1 m1 (upd r1 n3 (nI (16384 * th + w_))), zAr T 0 a2_2 7 r2] := ⟨a1_1, a2_2, rfl⟩
        have G : zS T A s.heap s [[zO3 t e0 e1 e2 (nI (n3 + 1)) ((gLM (fun w => gF (aW cr inn k1) k2 cr inn d1 d2 w gg.toInt.toNat) (w_ + 1)).1) ((gLM (fun w => gF (aW cr inn k1) k2 cr inn d1 d2 w gg.toInt.toNat) (w_ + 1)).2) a1_1 a2_2, zAr T 0 a1_1 m1 (upd r1 n3 (nI (16384 * th + w_))), zAr T 0 a2_2 7 r2], [zO0 h md wy la pc_ a1_3 a2_4 a3_5 a4_6 a5_7 a6_8, zAr T 0 a1_3 7 f1, zAr T 0 a2_4 7 f2, zAr T 0 a3_5 7 f3, zAr T 0 a4_6 n4 f4, zAr T 0 a5_7 n4 f5, zAr T 0 a6_8 n4 f6], [zO4 la cr inn a1_9 a2_10 a3_11 a4_12, zAr T 0 a1_9 7 k1, zAr T 0 a2_10 28 k2, zAr T 0 a3_11 7 k3, zAr T 0 a4_12 7 k4], [(lg, .inr (5, [.int gg, .ref a1_13, .ref a2_14]))], [zAr T 0 a1_13 8 d1], [zAr T 0 a2_14 8 d2]] _ _ := G.re rfl
        have hw_52 : bLog T lg gg d1 d2 [(lg, .inr (5, [.int gg, .ref a1_13, .ref a2_14])), zAr T 0 a1_13 8 d1, zAr T 0 a2_14 8 d2] := ⟨a1_13, a2_14, rfl⟩
        have G : zS T A s.heap s [[zO3 t e0 e1 e2 (nI (n3 + 1)) ((gLM (fun w => gF (aW cr inn k1) k2 cr inn d1 d2 w gg.toInt.toNat) (w_ + 1)).1) ((gLM (fun w => gF (aW cr inn k1) k2 cr inn d1 d2 w gg.toInt.toNat) (w_ + 1)).2) a1_1 a2_2, zAr T 0 a1_1 m1 (upd r1 n3 (nI (16384 * th + w_))), zAr T 0 a2_2 7 r2], [zO0 h md wy la pc_ a1_3 a2_4 a3_5 a4_6 a5_7 a6_8, zAr T 0 a1_3 7 f1, zAr T 0 a2_4 7 f2, zAr T 0 a3_5 7 f3, zAr T 0 a4_6 n4 f4, zAr T 0 a5_7 n4 f5, zAr T 0 a6_8 n4 f6], [zO4 la cr inn a1_9 a2_10 a3_11 a4_12, zAr T 0 a1_9 7 k1, zAr T 0 a2_10 28 k2, zAr T 0 a3_11 7 k3, zAr T 0 a4_12 7 k4], [(lg, .inr (5, [.int gg, .ref a1_13, .ref a2_14])), zAr T 0 a1_13 8 d1, zAr T 0 a2_14 8 d2]] _ _ := G.re rfl
        exact z_back hQz_ (z_vret C hr hlocks G (Nat.le_of_ble_eq_true rfl) (Nat.le_of_ble_eq_true rfl) dX3_tryWay_170 ⟨([zO3 t e0 e1 e2 (nI (n3 + 1)) ((gLM (fun w => gF (aW cr inn k1) k2 cr inn d1 d2 w gg.toInt.toNat) (w_ + 1)).1) ((gLM (fun w => gF (aW cr inn k1) k2 cr inn d1 d2 w gg.toInt.toNat) (w_ + 1)).2) a1_1 a2_2, zAr T 0 a1_1 m1 (upd r1 n3 (nI (16384 * th + w_))), zAr T 0 a2_2 7 r2]), (n3 + 1), ((gLM (fun w => gF (aW cr inn k1) k2 cr inn d1 d2 w gg.toInt.toNat) (w_ + 1)).1), ((gLM (fun w => gF (aW cr inn k1) k2 cr inn d1 d2 w gg.toInt.toNat) (w_ + 1)).2), (upd r1 n3 (nI (16384 * th + w_))), rfl, hw_51, (by rw [h3]; exact (gN_t (f := (fun w => gF (aW cr inn k1) k2 cr inn d1 d2 w gg.toInt.toNat)) (n := w_) hph1).symm), ⟨rfl, rfl⟩, (gRw_t (f := (fun w => gF (aW cr inn k1) k2 cr inn d1 d2 w gg.toInt.toNat)) (n := w_) h3 hph3 hrw)⟩)
    · have c_36n : ¬ 8 ≤ i := fun q => c_36 ((nI_leI (a := 8) (b := i) (by omega) (by omega)).mpr q)
      refine lv_aload_n hx hb dX3_tryWay_25 rfl (lv_at hl 5 rfl) ?_
      refine z_get C G clX5 3 rfl 1 (by decide) m_fl_RX3_52 rfl dX3_tryWay_26 ?_
      refine lv_iload hx hb dX3_tryWay_29 (lv_at hl 0 rfl) ?_
      refine z_ild C G 4 rfl (vp_in_nI (by omega) (by decide)) dX3_tryWay_31 ?_
      refine lv_topi (fun v_53 ev_53 => ?_)
      rw [nI_clamp (by omega)] at ev_53
      subst ev_53
      refine lv_istore (lv' := [(7, .int (d1 i)), (6, .int (nI i)), (5, .int (nI st)), (4, .int (nI th)), (0, .ref t), (1, .ref h), (2, .ref lg), (3, .int (nI w_))]) hx hb dX3_tryWay_32 hl (by decide) (zLvf_h rfl) (fun ls hl => ?_)
      refine lv_aload_n hx hb dX3_tryWay_34 rfl (lv_at hl 5 rfl) ?_
      have G : zS T A s.heap s [[zO3 t e0 e1 e2 (nI n3) e4 e5 a1_1 a2_2, zAr T 0 a1_1 m1 r1, zAr T 0 a2_2 7 r2], [zO0 h md wy la pc_ a1_3 a2_4 a3_5 a4_6 a5_7 a6_8], [zAr T 0 a1_3 7 f1], [zAr T 0 a2_4 7 f2], [zAr T 0 a3_5 7 f3], [zAr T 0 a4_6 n4 f4], [zAr T 0 a5_7 n4 f5], [zAr T 0 a6_8 n4 f6], [zO4 la cr inn a1_9 a2_10 a3_11 a4_12, zAr T 0 a1_9 7 k1, zAr T 0 a2_10 28 k2, zAr T 0 a3_11 7 k3, zAr T 0 a4_12 7 k4], [(lg, .inr (5, [.int gg, .ref a1_13, .ref a2_14]))], [zAr T 0 a1_13 8 d1], [zAr T 0 a2_14 8 d2]] _ _ := G.re rfl
      refine z_get C G clX0 1 rfl 2 (by decide) m_fl_RX3_55 rfl dX3_tryWay_35 ?_
      refine lv_iload hx hb dX3_tryWay_38 (lv_at hl 0 rfl) ?_
      refine z_Vi (bc := [[zO4 la cr inn a1_9 a2_10 a3_11 a4_12, zAr T 0 a1_9 7 k1, zAr T 0 a2_10 28 k2, zAr T 0 a3_11 7 k3, zAr T 0 a4_12 7 k4]]) (br := [[zO3 t e0 e1 e2 (nI n3) e4 e5 a1_1 a2_2, zAr T 0 a1_1 m1 r1, zAr T 0 a2_2 7 r2], [zO0 h md wy la pc_ a1_3 a2_4 a3_5 a4_6 a5_7 a6_8], [zAr T 0 a1_3 7 f1], [zAr T 0 a2_4 7 f2], [zAr T 0 a3_5 7 f3], [zAr T 0 a4_6 n4 f4], [zAr T 0 a5_7 n4 f5], [zAr T 0 a6_8 n4 f6], [(lg, .inr (5, [.int gg, .ref a1_13, .ref a2_14]))], [zAr T 0 a1_13 8 d1], [zAr T 0 a2_14 8 d2]]) (As := [.int (d1 i)]) (rest := []) C G (c_has l T la cr inn k1 k2 k3 k4 ([zO4 la cr inn a1_9 a2_10 a3_11 a4_12, zAr T 0 a1_9 7 k1, zAr T 0 a2_10 28 k2, zAr T 0 a3_11 7 k3, zAr T 0 a4_12 7 k4]) (d1 i) hw_17) (kV_RX3_58 C.2.2.2.2 (Nat.le_of_ble_eq_true rfl) (Nat.le_of_ble_eq_true rfl)) [8] [8] rfl rfl (ci := 4) (qc := (RX4, TX4, 6)) rfl rfl (List.mem_flatten.mpr ⟨_, List.mem_of_getElem? (i := 0) rfl, (bLand_mem hw_17).choose_spec⟩) rfl rfl hl.1 dX3_tryWay_40 (Nat.le_of_ble_eq_true rfl) (Nat.le_of_ble_eq_true rfl) (fun r_55 b1 H locs hw G => ?_)
      refine zAn2 hw ?_
      intro hbs9 hc_54
      clear hw
      subst hbs9
      have G : zS T A s.heap s [[zO3 t e0 e1 e2 (nI n3) e4 e5 a1_1 a2_2, zAr T 0 a1_1 m1 r1, zAr T 0 a2_2 7 r2], [zO0 h md wy la pc_ a1_3 a2_4 a3_5 a4_6 a5_7 a6_8], [zAr T 0 a1_3 7 f1], [zAr T 0 a2_4 7 f2], [zAr T 0 a3_5 7 f3], [zAr T 0 a4_6 n4 f4], [zAr T 0 a5_7 n4 f5], [zAr T 0 a6_8 n4 f6], [(lg, .inr (5, [.int gg, .ref a1_13, .ref a2_14]))], [zAr T 0 a1_13 8 d1], [zAr T 0 a2_14 8 d2], [zO4 la cr inn a1_9 a2_10 a3_11 a4_12, zAr T 0 a1_9 7 k1, zAr T 0 a2_10 28 k2, zAr T 0 a3_11 7 k3, zAr T 0 a4_12 7 k4]] _ _ := G
      rcases hc_54 with ⟨rfl, h_56, h_57, h_58⟩ | ⟨rfl, h_59⟩
      · have h_56 : 0 ≤ (d1 i).toInt := h_56
        have h_57 : (d1 i).toInt < cr.toInt := h_57
        have h_58 : (d1 i).toInt < 7 := h_58
        have hhs9 : zHas cr (d1 i) := ⟨by omega, by omega, by omega⟩
        refine lv_if_eq (tgt := 64) hx hb dX3_tryWay_43 (by decide) (fun q => absurd q (by decide)) (fun _ => ?_)
        refine lv_aload_n hx hb dX3_tryWay_46 rfl (lv_at hl 5 rfl) ?_
        refine lv_iload hx hb dX3_tryWay_47 (lv_at hl 3 rfl) ?_
        refine lv_iload hx hb dX3_tryWay_49 (lv_at hl 0 rfl) ?_
        refine lv_aload_n hx hb dX3_tryWay_51 rfl (lv_at hl 6 rfl) ?_
        refine z_get C G clX5 8 rfl 2 (by decide) m_fl_RX3_64 rfl dX3_tryWay_52 ?_
        refine lv_iload hx hb dX3_tryWay_55 (lv_at hl 1 rfl) ?_
        refine z_ild C G 10 rfl (vp_in_nI (by omega) (by decide)) dX3_tryWay_57 ?_
        refine lv_topi (fun v_60 ev_60 => ?_)
        rw [nI_clamp (by omega)] at ev_60
        subst ev_60
        have hw_61 : bWays T h la md wy pc_ f1 f2 f3 f4 f5 f6 n4 [zO0 h md wy la pc_ a1_3 a2_4 a3_5 a4_6 a5_7 a6_8, zAr T 0 a1_3 7 f1, zAr T 0 a2_4 7 f2, zAr T 0 a3_5 7 f3, zAr T 0 a4_6 n4 f4, zAr T 0 a5_7 n4 f5, zAr T 0 a6_8 n4 f6] := ⟨a1_3, a2_4, a3_5, a4_6, a5_7, a6_8, rfl⟩
        have G : zS T A s.heap s [[zO3 t e0 e1 e2 (nI n3) e4 e5 a1_1 a2_2, zAr T 0 a1_1 m1 r1, zAr T 0 a2_2 7 r2], [zO0 h md wy la pc_ a1_3 a2_4 a3_5 a4_6 a5_7 a6_8, zAr T 0 a1_3 7 f1, zAr T 0 a2_4 7 f2, zAr T 0 a3_5 7 f3, zAr T 0 a4_6 n4 f4, zAr T 0 a5_7 n4 f5, zAr T 0 a6_8 n4 f6], [(lg, .inr (5, [.int gg, .ref a1_13, .ref a2_14]))], [zAr T 0 a1_13 8 d1], [zAr T 0 a2_14 8 d2], [zO4 la cr inn a1_9 a2_10 a3_11 a4_12, zAr T 0 a1_9 7 k1, zAr T 0 a2_10 28 k2, zAr T 0 a3_11 7 k3, zAr T 0 a4_12 7 k4]] _ _ := G.re rfl
        refine z_Si (bc := [[zO0 h md wy la pc_ a1_3 a2_4 a3_5 a4_6 a5_7 a6_8, zAr T 0 a1_3 7 f1, zAr T 0 a2_4 7 f2, zAr T 0 a3_5 7 f3, zAr T 0 a4_6 n4 f4, zAr T 0 a5_7 n4 f5, zAr T 0 a6_8 n4 f6], [zO4 la cr inn a1_9 a2_10 a3_11 a4_12, zAr T 0 a1_9 7 k1, zAr T 0 a2_10 28 k2, zAr T 0 a3_11 7 k3, zAr T 0 a4_12 7 k4]]) (br := [[zO3 t e0 e1 e2 (nI n3) e4 e5 a1_1 a2_2, zAr T 0 a1_1 m1 r1, zAr T 0 a2_2 7 r2], [(lg, .inr (5, [.int gg, .ref a1_13, .ref a2_14]))], [zAr T 0 a1_13 8 d1], [zAr T 0 a2_14 8 d2]]) (As := [.ref h, .int (nI th), .int (d1 i), .int (d2 i)]) (rest := []) C G (c_e_isSo l T h la md wy pc_ f1 f2 f3 f4 f5 f6 n4 ([zO0 h md wy la pc_ a1_3 a2_4 a3_5 a4_6 a5_7 a6_8, zAr T 0 a1_3 7 f1, zAr T 0 a2_4 7 f2, zAr T 0 a3_5 7 f3, zAr T 0 a4_6 n4 f4, zAr T 0 a5_7 n4 f5, zAr T 0 a6_8 n4 f6]) cr inn k1 k2 k3 k4 ([zO4 la cr inn a1_9 a2_10 a3_11 a4_12, zAr T 0 a1_9 7 k1, zAr T 0 a2_10 28 k2, zAr T 0 a3_11 7 k3, zAr T 0 a4_12 7 k4]) th (d1 i) (d2 i) hw_61 hw_17 (by first | with_reducible assumption | with_reducible rfl | omega | assumption | rfl) (by first | with_reducible assumption | with_reducible rfl | omega | assumption | rfl) (by first | with_reducible assumption | with_reducible rfl | omega | assumption | rfl) (by first | with_reducible assumption | with_reducible rfl | omega | assumption | rfl) hth hhs9) (kS_RX3_67 C.2.2.2.2 (Nat.le_of_ble_eq_true rfl) (Nat.le_of_ble_eq_true rfl)) [1, 5] [1, 3] rfl rfl rfl rfl hl.1 dX3_tryWay_58 (Nat.le_of_ble_eq_true rfl) (Nat.le_of_ble_eq_true rfl) (fun r_63 b1 H locs hw G => ?_)
        refine zAn2 hw ?_
        intro hbs9 hc_62
        clear hw
        subst hbs9
        have G : zS T A s.heap s [[zO3 t e0 e1 e2 (nI n3) e4 e5 a1_1 a2_2, zAr T 0 a1_1 m1 r1, zAr T 0 a2_2 7 r2], [(lg, .inr (5, [.int gg, .ref a1_13, .ref a2_14]))], [zAr T 0 a1_13 8 d1], [zAr T 0 a2_14 8 d2], [zO0 h md wy la pc_ a1_3 a2_4 a3_5 a4_6 a5_7 a6_8, zAr T 0 a1_3 7 f1, zAr T 0 a2_4 7 f2, zAr T 0 a3_5 7 f3, zAr T 0 a4_6 n4 f4, zAr T 0 a5_7 n4 f5, zAr T 0 a6_8 n4 f6], [zO4 la cr inn a1_9 a2_10 a3_11 a4_12, zAr T 0 a1_9 7 k1, zAr T 0 a2_10 28 k2, zAr T 0 a3_11 7 k3, zAr T 0 a4_12 7 k4]] _ _ := G
        rcases hc_62 with ⟨rfl, h_64⟩ | ⟨rfl, h_65⟩
        · have h_64 : gSo (aW cr inn k1) k2 inn th (d1 i) (d2 i) = true := h_64
          have hE9 := zEnt_w (w := th) (x := d1 i) hI hOk9 hTt hth hhs9
          have hgn9 := gF_y hgf ⟨by omega, by omega⟩ h_64
          have hba9 := gF_b (cr := cr) (inn := inn) (d1 := d1) (d2 := d2) hOk9 (by omega) hv_ (i + 1)
          rw [hgn9] at hba9
          obtain ⟨hba1, hba2⟩ := hba9
          refine lv_if_ne (tgt := 65) hx hb dX3_tryWay_61 (by decide) (fun _ => ?_) (fun q => absurd q (by decide))
          refine lv_iload hx hb dX3_tryWay_65 (lv_at hl 2 rfl) ?_
          refine lv_aload_n hx hb dX3_tryWay_67 rfl (lv_at hl 5 rfl) ?_
          refine lv_iload hx hb dX3_tryWay_68 (lv_at hl 3 rfl) ?_
          refine lv_iload hx hb dX3_tryWay_70 (lv_at hl 0 rfl) ?_
          refine z_Vi (bc := [[zO0 h md wy la pc_ a1_3 a2_4 a3_5 a4_6 a5_7 a6_8, zAr T 0 a1_3 7 f1, zAr T 0 a2_4 7 f2, zAr T 0 a3_5 7 f3, zAr T 0 a4_6 n4 f4, zAr T 0 a5_7 n4 f5, zAr T 0 a6_8 n4 f6]]) (br := [[zO3 t e0 e1 e2 (nI n3) e4 e5 a1_1 a2_2, zAr T 0 a1_1 m1 r1, zAr T 0 a2_2 7 r2], [(lg, .inr (5, [.int gg, .ref a1_13, .ref a2_14]))], [zAr T 0 a1_13 8 d1], [zAr T 0 a2_14 8 d2], [zO4 la cr inn a1_9 a2_10 a3_11 a4_12, zAr T 0 a1_9 7 k1, zAr T 0 a2_10 28 k2, zAr T 0 a3_11 7 k3, zAr T 0 a4_12 7 k4]]) (As := [.int (nI th), .int (d1 i)]) (rest := [.int (nI st)]) C G (c_steps l T h la md wy pc_ f1 f2 f3 f4 f5 f6 n4 ([zO0 h md wy la pc_ a1_3 a2_4 a3_5 a4_6 a5_7 a6_8, zAr T 0 a1_3 7 f1, zAr T 0 a2_4 7 f2, zAr T 0 a3_5 7 f3, zAr T 0 a4_6 n4 f4, zAr T 0 a5_7 n4 f5, zAr T 0 a6_8 n4 f6]) (nI th) (d1 i) hw_61 (by first | with_reducible assumption | with_reducible rfl | omega | assumption | rfl)) (kV_RX3_71 C.2.2.2.2 (Nat.le_of_ble_eq_true rfl) (Nat.le_of_ble_eq_true rfl)) [4] [4] rfl rfl (ci := 0) (qc := (RX0, TX0, 10)) rfl rfl (List.mem_flatten.mpr ⟨_, List.mem_of_getElem? (i := 0) rfl, (bWays_mem hw_61).choose_spec⟩) rfl rfl hl.1 dX3_tryWay_72 (Nat.le_of_ble_eq_true rfl) (Nat.le_of_ble_eq_true rfl) (fun r_67 b1 H locs hw G => ?_)
          refine zAn2 hw ?_
          intro hbs9 h_66
          clear hw
          subst hbs9
          have G : zS T A s.heap s [[zO3 t e0 e1 e2 (nI n3) e4 e5 a1_1 a2_2, zAr T 0 a1_1 m1 r1, zAr T 0 a2_2 7 r2], [(lg, .inr (5, [.int gg, .ref a1_13, .ref a2_14]))], [zAr T 0 a1_13 8 d1], [zAr T 0 a2_14 8 d2], [zO4 la cr inn a1_9 a2_10 a3_11 a4_12, zAr T 0 a1_9 7 k1, zAr T 0 a2_10 28 k2, zAr T 0 a3_11 7 k3, zAr T 0 a4_12 7 k4], [zO0 h md wy la pc_ a1_3 a2_4 a3_5 a4_6 a5_7 a6_8, zAr T 0 a1_3 7 f1, zAr T 0 a2_4 7 f2, zAr T 0 a3_5 7 f3, zAr T 0 a4_6 n4 f4, zAr T 0 a5_7 n4 f5, zAr T 0 a6_8 n4 f6]] _ _ := G
          subst h_66
          refine lv_topi (fun y_68 ey_68 => ?_)
          obtain rfl : y_68 = nI (rStp (aW cr inn k1) k2 th (d1 i)) := ey_68.trans (hE9.2.1)
          refine lv_iadd hx hb dX3_tryWay_75 ?_
          refine lv_topi (fun y_69 ey_69 => ?_)
          obtain rfl : y_69 = nI (st + (rStp (aW cr inn k1) k2 th (d1 i))) := ey_69.trans (z_iaddn st (rStp (aW cr inn k1) k2 th (d1 i)) rfl rfl)
          refine lv_istore (lv' := [(5, .int (nI (st + (rStp (aW cr inn k1) k2 th (d1 i))))), (7, .int (d1 i)), (6, .int (nI i)), (4, .int (nI th)), (0, .ref t), (1, .ref h), (2, .ref lg), (3, .int (nI w_))]) hx hb dX3_tryWay_76 hl (by decide) (zLvf_h rfl) (fun ls hl => ?_)
          refine lv_aload_n hx hb dX3_tryWay_78 rfl (lv_at hl 5 rfl) ?_
          refine lv_iload hx hb dX3_tryWay_79 (lv_at hl 3 rfl) ?_
          refine lv_iload hx hb dX3_tryWay_81 (lv_at hl 1 rfl) ?_
          refine z_Vi (bc := [[zO0 h md wy la pc_ a1_3 a2_4 a3_5 a4_6 a5_7 a6_8, zAr T 0 a1_3 7 f1, zAr T 0 a2_4 7 f2, zAr T 0 a3_5 7 f3, zAr T 0 a4_6 n4 f4, zAr T 0 a5_7 n4 f5, zAr T 0 a6_8 n4 f6]]) (br := [[zO3 t e0 e1 e2 (nI n3) e4 e5 a1_1 a2_2, zAr T 0 a1_1 m1 r1, zAr T 0 a2_2 7 r2], [(lg, .inr (5, [.int gg, .ref a1_13, .ref a2_14]))], [zAr T 0 a1_13 8 d1], [zAr T 0 a2_14 8 d2], [zO4 la cr inn a1_9 a2_10 a3_11 a4_12, zAr T 0 a1_9 7 k1, zAr T 0 a2_10 28 k2, zAr T 0 a3_11 7 k3, zAr T 0 a4_12 7 k4]]) (As := [.int (nI th), .int (d1 i)]) (rest := []) C G (c_wayAfter l T h la md wy pc_ f1 f2 f3 f4 f5 f6 n4 ([zO0 h md wy la pc_ a1_3 a2_4 a3_5 a4_6 a5_7 a6_8, zAr T 0 a1_3 7 f1, zAr T 0 a2_4 7 f2, zAr T 0 a3_5 7 f3, zAr T 0 a4_6 n4 f4, zAr T 0 a5_7 n4 f5, zAr T 0 a6_8 n4 f6]) (nI th) (d1 i) hw_61 (by first | with_reducible assumption | with_reducible rfl | omega | assumption | rfl)) (kV_RX3_75 C.2.2.2.2 (Nat.le_of_ble_eq_true rfl) (Nat.le_of_ble_eq_true rfl)) [5] [5] rfl rfl (ci := 0) (qc := (RX0, TX0, 10)) rfl rfl (List.mem_flatten.mpr ⟨_, List.mem_of_getElem? (i := 0) rfl, (bWays_mem hw_61).choose_spec⟩) rfl rfl hl.1 dX3_tryWay_83 (Nat.le_of_ble_eq_true rfl) (Nat.le_of_ble_eq_true rfl) (fun r_71 b1 H locs hw G => ?_)
          refine zAn2 hw ?_
          intro hbs9 h_70
          clear hw
          subst hbs9
          have G : zS T A s.heap s [[zO3 t e0 e1 e2 (nI n3) e4 e5 a1_1 a2_2, zAr T 0 a1_1 m1 r1, zAr T 0 a2_2 7 r2], [(lg, .inr (5, [.int gg, .ref a1_13, .ref a2_14]))], [zAr T 0 a1_13 8 d1], [zAr T 0 a2_14 8 d2], [zO4 la cr inn a1_9 a2_10 a3_11 a4_12, zAr T 0 a1_9 7 k1, zAr T 0 a2_10 28 k2, zAr T 0 a3_11 7 k3, zAr T 0 a4_12 7 k4], [zO0 h md wy la pc_ a1_3 a2_4 a3_5 a4_6 a5_7 a6_8, zAr T 0 a1_3 7 f1, zAr T 0 a2_4 7 f2, zAr T 0 a3_5 7 f3, zAr T 0 a4_6 n4 f4, zAr T 0 a5_7 n4 f5, zAr T 0 a6_8 n4 f6]] _ _ := G
          subst h_70
          refine lv_topi (fun y_72 ey_72 => ?_)
          obtain rfl : y_72 = nI (rAf (aW cr inn k1) k2 th (d1 i)) := ey_72.trans (hE9.2.2)
          refine lv_istore (lv' := [(4, .int (nI (rAf (aW cr inn k1) k2 th (d1 i)))), (5, .int (nI (st + (rStp (aW cr inn k1) k2 th (d1 i))))), (7, .int (d1 i)), (6, .int (nI i)), (0, .ref t), (1, .ref h), (2, .ref lg), (3, .int (nI w_))]) hx hb dX3_tryWay_86 hl (by decide) (zLvf_h rfl) (fun ls hl => ?_)
          refine lv_iinc (v := nI (i + 1)) (lv' := [(6, .int (nI (i + 1))), (4, .int (nI (rAf (aW cr inn k1) k2 th (d1 i)))), (5, .int (nI (st + (rStp (aW cr inn k1) k2 th (d1 i))))), (7, .int (d1 i)), (0, .ref t), (1, .ref h), (2, .ref lg), (3, .int (nI w_))]) hx hb dX3_tryWay_88 hl (k := 3) rfl (z_inc i 1) (by decide) (zLvf_h rfl) (fun ls hl => ?_)
          refine lv_goto (tgt := 9) hx hb dX3_tryWay_91 (by decide) ?_
          have hw_73 : bLog T lg gg d1 d2 [(lg, .inr (5, [.int gg, .ref a1_13, .ref a2_14])), zAr T 0 a1_13 8 d1, zAr T 0 a2_14 8 d2] := ⟨a1_13, a2_14, rfl⟩
          have G : zS T A s.heap s [[zO3 t e0 e1 e2 (nI n3) e4 e5 a1_1 a2_2, zAr T 0 a1_1 m1 r1, zAr T 0 a2_2 7 r2], [(lg, .inr (5, [.int gg, .ref a1_13, .ref a2_14])), zAr T 0 a1_13 8 d1, zAr T 0 a2_14 8 d2], [zO4 la cr inn a1_9 a2_10 a3_11 a4_12, zAr T 0 a1_9 7 k1, zAr T 0 a2_10 28 k2, zAr T 0 a3_11 7 k3, zAr T 0 a4_12 7 k4], [zO0 h md wy la pc_ a1_3 a2_4 a3_5 a4_6 a5_7 a6_8, zAr T 0 a1_3 7 f1, zAr T 0 a2_4 7 f2, zAr T 0 a3_5 7 f3, zAr T 0 a4_6 n4 f4, zAr T 0 a5_7 n4 f5, zAr T 0 a6_8 n4 f6]] _ _ := G.re rfl
          have G := G.sub (bs' := [[zO3 t e0 e1 e2 (nI n3) e4 e5 a1_1 a2_2, zAr T 0 a1_1 m1 r1, zAr T 0 a2_2 7 r2], [zO0 h md wy la pc_ a1_3 a2_4 a3_5 a4_6 a5_7 a6_8, zAr T 0 a1_3 7 f1, zAr T 0 a2_4 7 f2, zAr T 0 a3_5 7 f3, zAr T 0 a4_6 n4 f4, zAr T 0 a5_7 n4 f5, zAr T 0 a6_8 n4 f6], [zO4 la cr inn a1_9 a2_10 a3_11 a4_12, zAr T 0 a1_9 7 k1, zAr T 0 a2_10 28 k2, zAr T 0 a3_11 7 k3, zAr T 0 a4_12 7 k4], [(lg, .inr (5, [.int gg, .ref a1_13, .ref a2_14])), zAr T 0 a1_13 8 d1, zAr T 0 a2_14 8 d2]]) [0, 3, 2, 1] rfl
          exact ih_9 (i + 1) (rAf (aW cr inn k1) k2 th (d1 i)) (st + (rStp (aW cr inn k1) k2 th (d1 i))) (show (i + 1) ≤ 8 ∧ ((i + 1) : Int) ≤ gg.toInt ∧ gF (aW cr inn k1) k2 cr inn d1 d2 w_ (i + 1) = (true, (rAf (aW cr inn k1) k2 th (d1 i)), (st + (rStp (aW cr inn k1) k2 th (d1 i)))) ∧ (rAf (aW cr inn k1) k2 th (d1 i)) < aPr (aW cr inn k1) 7 ∧ (st + (rStp (aW cr inn k1) k2 th (d1 i))) ≤ 499 * (i + 1) from ⟨by omega, by omega, hgn9, hba1, hba2⟩) (show 8 - (i + 1) < 8 - i from by omega) _ _ ls G (lv_sub hl [0, 2, 1, 4, 5, 6, 7] rfl)
        · have h_65 : gSo (aW cr inn k1) k2 inn th (d1 i) (d2 i) = false := h_65
          have hnf9 : ((fun w => gF (aW cr inn k1) k2 cr inn d1 d2 w gg.toInt.toNat) w_).1 = false := gF_g (gF_n hgf (fun q9 => by rw [h_65] at q9; exact absurd q9.2 (by decide))) (by omega)
          refine lv_if_ne (tgt := 65) hx hb dX3_tryWay_61 (by decide) (fun q => absurd (by decide) q) (fun _ => ?_)
          have hw_74 : bLog T lg gg d1 d2 [(lg, .inr (5, [.int gg, .ref a1_13, .ref a2_14])), zAr T 0 a1_13 8 d1, zAr T 0 a2_14 8 d2] := ⟨a1_13, a2_14, rfl⟩
          have G : zS T A s.heap s [[zO3 t e0 e1 e2 (nI n3) e4 e5 a1_1 a2_2, zAr T 0 a1_1 m1 r1, zAr T 0 a2_2 7 r2], [(lg, .inr (5, [.int gg, .ref a1_13, .ref a2_14])), zAr T 0 a1_13 8 d1, zAr T 0 a2_14 8 d2], [zO0 h md wy la pc_ a1_3 a2_4 a3_5 a4_6 a5_7 a6_8, zAr T 0 a1_3 7 f1, zAr T 0 a2_4 7 f2, zAr T 0 a3_5 7 f3, zAr T 0 a4_6 n4 f4, zAr T 0 a5_7 n4 f5, zAr T 0 a6_8 n4 f6], [zO4 la cr inn a1_9 a2_10 a3_11 a4_12, zAr T 0 a1_9 7 k1, zAr T 0 a2_10 28 k2, zAr T 0 a3_11 7 k3, zAr T 0 a4_12 7 k4]] _ _ := G.re rfl
          have G := G.sub (bs' := [[zO3 t e0 e1 e2 (nI n3) e4 e5 a1_1 a2_2, zAr T 0 a1_1 m1 r1, zAr T 0 a2_2 7 r2], [zO0 h md wy la pc_ a1_3 a2_4 a3_5 a4_6 a5_7 a6_8, zAr T 0 a1_3 7 f1, zAr T 0 a2_4 7 f2, zAr T 0 a3_5 7 f3, zAr T 0 a4_6 n4 f4, zAr T 0 a5_7 n4 f5, zAr T 0 a6_8 n4 f6], [zO4 la cr inn a1_9 a2_10 a3_11 a4_12, zAr T 0 a1_9 7 k1, zAr T 0 a2_10 28 k2, zAr T 0 a3_11 7 k3, zAr T 0 a4_12 7 k4], [(lg, .inr (5, [.int gg, .ref a1_13, .ref a2_14])), zAr T 0 a1_13 8 d1, zAr T 0 a2_14 8 d2]]) [0, 2, 3, 1] rfl
          exact z_back hQz_ (z_vret C hr hlocks G (Nat.le_of_ble_eq_true rfl) (Nat.le_of_ble_eq_true rfl) dX3_tryWay_64 ⟨([zO3 t e0 e1 e2 (nI n3) e4 e5 a1_1 a2_2, zAr T 0 a1_1 m1 r1, zAr T 0 a2_2 7 r2]), n3, e4, e5, r1, rfl, hw_15, (h3.trans (gN_f (f := (fun w => gF (aW cr inn k1) k2 cr inn d1 d2 w gg.toInt.toNat)) (n := w_) hnf9).symm), (by rw [gLM_f (f := (fun w => gF (aW cr inn k1) k2 cr inn d1 d2 w gg.toInt.toNat)) (n := w_) hnf9]; exact h45), (gRw_f (f := (fun w => gF (aW cr inn k1) k2 cr inn d1 d2 w gg.toInt.toNat)) (n := w_) hnf9 hrw)⟩)
      · have h_59 : ((d1 i).toInt < 0 ∨ cr.toInt ≤ (d1 i).toInt ∨ 7 ≤ (d1 i).toInt) := h_59
        have hnf9 : ((fun w => gF (aW cr inn k1) k2 cr inn d1 d2 w gg.toInt.toNat) w_).1 = false := gF_g (gF_n hgf (fun q9 => by have q8 := q9.1; omega)) (by omega)
        refine lv_if_eq (tgt := 64) hx hb dX3_tryWay_43 (by decide) (fun _ => ?_) (fun q => absurd (by decide) q)
        have hw_75 : bWays T h la md wy pc_ f1 f2 f3 f4 f5 f6 n4 [zO0 h md wy la pc_ a1_3 a2_4 a3_5 a4_6 a5_7 a6_8, zAr T 0 a1_3 7 f1, zAr T 0 a2_4 7 f2, zAr T 0 a3_5 7 f3, zAr T 0 a4_6 n4 f4, zAr T 0 a5_7 n4 f5, zAr T 0 a6_8 n4 f6] := ⟨a1_3, a2_4, a3_5, a4_6, a5_7, a6_8, rfl⟩
        have G : zS T A s.heap s [[zO3 t e0 e1 e2 (nI n3) e4 e5 a1_1 a2_2, zAr T 0 a1_1 m1 r1, zAr T 0 a2_2 7 r2], [zO0 h md wy la pc_ a1_3 a2_4 a3_5 a4_6 a5_7 a6_8, zAr T 0 a1_3 7 f1, zAr T 0 a2_4 7 f2, zAr T 0 a3_5 7 f3, zAr T 0 a4_6 n4 f4, zAr T 0 a5_7 n4 f5, zAr T 0 a6_8 n4 f6], [(lg, .inr (5, [.int gg, .ref a1_13, .ref a2_14]))], [zAr T 0 a1_13 8 d1], [zAr T 0 a2_14 8 d2], [zO4 la cr inn a1_9 a2_10 a3_11 a4_12, zAr T 0 a1_9 7 k1, zAr T 0 a2_10 28 k2, zAr T 0 a3_11 7 k3, zAr T 0 a4_12 7 k4]] _ _ := G.re rfl
        have hw_76 : bLog T lg gg d1 d2 [(lg, .inr (5, [.int gg, .ref a1_13, .ref a2_14])), zAr T 0 a1_13 8 d1, zAr T 0 a2_14 8 d2] := ⟨a1_13, a2_14, rfl⟩
        have G : zS T A s.heap s [[zO3 t e0 e1 e2 (nI n3) e4 e5 a1_1 a2_2, zAr T 0 a1_1 m1 r1, zAr T 0 a2_2 7 r2], [zO0 h md wy la pc_ a1_3 a2_4 a3_5 a4_6 a5_7 a6_8, zAr T 0 a1_3 7 f1, zAr T 0 a2_4 7 f2, zAr T 0 a3_5 7 f3, zAr T 0 a4_6 n4 f4, zAr T 0 a5_7 n4 f5, zAr T 0 a6_8 n4 f6], [(lg, .inr (5, [.int gg, .ref a1_13, .ref a2_14])), zAr T 0 a1_13 8 d1, zAr T 0 a2_14 8 d2], [zO4 la cr inn a1_9 a2_10 a3_11 a4_12, zAr T 0 a1_9 7 k1, zAr T 0 a2_10 28 k2, zAr T 0 a3_11 7 k3, zAr T 0 a4_12 7 k4]] _ _ := G.re rfl
        have G := G.sub (bs' := [[zO3 t e0 e1 e2 (nI n3) e4 e5 a1_1 a2_2, zAr T 0 a1_1 m1 r1, zAr T 0 a2_2 7 r2], [zO0 h md wy la pc_ a1_3 a2_4 a3_5 a4_6 a5_7 a6_8, zAr T 0 a1_3 7 f1, zAr T 0 a2_4 7 f2, zAr T 0 a3_5 7 f3, zAr T 0 a4_6 n4 f4, zAr T 0 a5_7 n4 f5, zAr T 0 a6_8 n4 f6], [zO4 la cr inn a1_9 a2_10 a3_11 a4_12, zAr T 0 a1_9 7 k1, zAr T 0 a2_10 28 k2, zAr T 0 a3_11 7 k3, zAr T 0 a4_12 7 k4], [(lg, .inr (5, [.int gg, .ref a1_13, .ref a2_14])), zAr T 0 a1_13 8 d1, zAr T 0 a2_14 8 d2]]) [0, 1, 3, 2] rfl
        exact z_back hQz_ (z_vret C hr hlocks G (Nat.le_of_ble_eq_true rfl) (Nat.le_of_ble_eq_true rfl) dX3_tryWay_64 ⟨([zO3 t e0 e1 e2 (nI n3) e4 e5 a1_1 a2_2, zAr T 0 a1_1 m1 r1, zAr T 0 a2_2 7 r2]), n3, e4, e5, r1, rfl, hw_15, (h3.trans (gN_f (f := (fun w => gF (aW cr inn k1) k2 cr inn d1 d2 w gg.toInt.toNat)) (n := w_) hnf9).symm), (by rw [gLM_f (f := (fun w => gF (aW cr inn k1) k2 cr inn d1 d2 w gg.toInt.toNat)) (n := w_) hnf9]; exact h45), (gRw_f (f := (fun w => gF (aW cr inn k1) k2 cr inn d1 d2 w gg.toInt.toNat)) (n := w_) hnf9 hrw)⟩)
set_option maxHeartbeats 4000000 in
set_option maxRecDepth 100000 in
/-- c_e_find -/
theorem c_e_find (l : Launch) (T : zTy) (t : Nat) (e0 : Int32) (e1 : Int32) (e2 : Int32) (e3 : Int32) (e4 : Int32) (e5 : Int32) (r1 : Nat → Int32) (m1 : Nat) (r2 : Nat → Int32) (wf : va_W) (h : Nat) (la : Nat) (md : Int32) (wy : Int32) (pc_ : Int32) (f1 : Nat → Int32) (f2 : Nat → Int32) (f3 : Nat → Int32) (f4 : Nat → Int32) (f5 : Nat → Int32) (f6 : Nat → Int32) (n4 : Nat) (ww : va_W) (cr : Int32) (inn : Int32) (k1 : Nat → Int32) (k2 : Nat → Int32) (k3 : Nat → Int32) (k4 : Nat → Int32) (z : va_W) (lg : Nat) (gg : Int32) (d1 : Nat → Int32) (d2 : Nat → Int32) (wg : va_W) (hwf : bFit T t e0 e1 e2 e3 e4 e5 r1 m1 r2 wf) (hww : bWays T h la md wy pc_ f1 f2 f3 f4 f5 f6 n4 ww) (hz : bLand T la cr inn k1 k2 k3 k4 z) (hg : bLog T lg gg d1 d2 wg) (hn : n4 ≤ 131072) (hI : zLI cr k1 k3) (hTt : zTab cr inn k1 k2 wy pc_ f1 f2 f5 n4) (hLq : zLq cr k1 k2) (hfw : zFw m1) (hgg : 0 ≤ gg.toInt ∧ gg.toInt ≤ 8) : zMv l T yX3_find cX3_find 4 5 1 (2 * (zFl m1 wy - m1)) [.ref t, .ref h, .ref lg] [wf, ww, z, wg] (fun bs => ∃ (w2 : va_W) (s3 : Nat) (s4 : Int32) (s5 : Int32) (g1 : Nat → Int32), bs = [w2, ww, z, wg] ∧ bFit T t e0 e1 e2 (nI s3) s4 s5 g1 (zFl m1 wy) r2 w2 ∧ s3 = gN (fun w => gF (aW cr inn k1) k2 cr inn d1 d2 w gg.toInt.toNat) (aPr (aW cr inn k1) 7) ∧ (s4 = (gLM (fun w => gF (aW cr inn k1) k2 cr inn d1 d2 w gg.toInt.toNat) (aPr (aW cr inn k1) 7)).1 ∧ s5 = (gLM (fun w => gF (aW cr inn k1) k2 cr inn d1 d2 w gg.toInt.toNat) (aPr (aW cr inn k1) 7)).2) ∧ gRw (fun w => gF (aW cr inn k1) k2 cr inn d1 d2 w gg.toInt.toNat) (aPr (aW cr inn k1) 7) g1 ∧ s3 ≤ 16384 ∧ s3 ≤ zFl m1 wy) := by
  refine zMv_of (own := RX3) (by decide) rfl (Nat.le_of_ble_eq_true rfl) ?_
  intro p e s m args below meth c A ls C hr hlocks hnm hAe G hl
  refine zHide (fun Qz_ hQz_ => ?_)
  have hx := C.1
  have hb := C.2.1
  have hl : lv_has ls 4 [(0, .ref t), (1, .ref h), (2, .ref lg)] := hl
  have hcr := hI.1
  have hp79 : aPr (aW cr inn k1) 7 ≤ 16384 := aPr_7 hI
  have hOk9 := (kaOk (inn := inn) hI hLq).1
  have hwN9 : wy = nI (aPr (aW cr inn k1) 7) := hTt.1.trans (zWy_z hI)
  have hwT9 : wy.toInt = ((aPr (aW cr inn k1) 7 : Nat) : Int) := by rw [hwN9, nI_toInt (by omega)]
  refine lv_aload_n hx hb dX3_find_0 rfl (lv_at hl 0 rfl) ?_
  refine lv_aload_n hx hb dX3_find_1 rfl (lv_at hl 1 rfl) ?_
  refine zEx6 hww ?_
  intro a1_1 a2_2 a3_3 a4_4 a5_5 a6_6 hbs9
  clear hww
  subst hbs9
  have G : zS T A s.heap s [wf, [zO0 h md wy la pc_ a1_1 a2_2 a3_3 a4_4 a5_5 a6_6], [zAr T 0 a1_1 7 f1], [zAr T 0 a2_2 7 f2], [zAr T 0 a3_3 7 f3], [zAr T 0 a4_4 n4 f4], [zAr T 0 a5_5 n4 f5], [zAr T 0 a6_6 n4 f6], z, wg] _ _ := G.re rfl
  refine z_get C G clX0 1 rfl 1 (by decide) m_fl_RX3_25 rfl dX3_find_2 ?_
  have hfw2 := zFl_pw (wy := wy) hfw
  have hm2 := zFw_le hfw2
  have hge9 := zFl_ge (n := m1) (wy := wy) (by omega)
  refine z_Vv (bc := [wf]) (br := [[zO0 h md wy la pc_ a1_1 a2_2 a3_3 a4_4 a5_5 a6_6], [zAr T 0 a1_1 7 f1], [zAr T 0 a2_2 7 f2], [zAr T 0 a3_3 7 f3], [zAr T 0 a4_4 n4 f4], [zAr T 0 a5_5 n4 f5], [zAr T 0 a6_6 n4 f6], z, wg]) (As := [.int wy]) (rest := []) C G (c_Fit_grow l T t e0 e1 e2 e3 e4 e5 r1 m1 r2 wf wy hwf (by first | with_reducible assumption | with_reducible rfl | omega | assumption | rfl) (by omega)) (kV_RX3_30 C.2.2.2.2 (Nat.le_of_ble_eq_true rfl) (Nat.le_of_ble_eq_true rfl)) [0] [0] rfl rfl (ci := 3) (qc := (RX3, TX3, 8)) rfl rfl (List.mem_flatten.mpr ⟨_, List.mem_of_getElem? (i := 0) rfl, (bFit_mem hwf).choose_spec⟩) rfl rfl hl.1 dX3_find_5 (Nat.le_of_ble_eq_true rfl) (by show _ + (2 * (zFl m1 wy - m1)) ≤ 2 * (zFl m1 wy - m1); omega) (fun b1 H locs hw G => ?_)
  refine zEx2 hw ?_
  intro w2_7 g1_8
  refine zCu2 ?_
  intro hbs9 h_9
  clear hw
  subst hbs9
  have G : zS T A s.heap s [[zO0 h md wy la pc_ a1_1 a2_2 a3_3 a4_4 a5_5 a6_6], [zAr T 0 a1_1 7 f1], [zAr T 0 a2_2 7 f2], [zAr T 0 a3_3 7 f3], [zAr T 0 a4_4 n4 f4], [zAr T 0 a5_5 n4 f5], [zAr T 0 a6_6 n4 f6], z, wg, w2_7] _ _ := G
  refine lv_aload_n hx hb dX3_find_8 rfl (lv_at hl 0 rfl) ?_
  refine lv_iconst (v := 0) hx hb dX3_find_9 (by decide) ?_
  refine zEx2 h_9 ?_
  intro a1_11 a2_12 hbs9
  clear h_9
  subst hbs9
  have G : zS T A s.heap s [[zO0 h md wy la pc_ a1_1 a2_2 a3_3 a4_4 a5_5 a6_6], [zAr T 0 a1_1 7 f1], [zAr T 0 a2_2 7 f2], [zAr T 0 a3_3 7 f3], [zAr T 0 a4_4 n4 f4], [zAr T 0 a5_5 n4 f5], [zAr T 0 a6_6 n4 f6], z, wg, [zO3 t e0 e1 e2 e3 e4 e5 a1_11 a2_12], [zAr T 0 a1_11 (zFl m1 wy) g1_8], [zAr T 0 a2_12 7 r2]] _ _ := G.re rfl
  refine z_put C G clX3 9 rfl 3 (by decide) m_fl_RX3_34 rfl rfl rfl (Nat.le_of_ble_eq_true rfl) dX3_find_10 (fun H locs G => ?_)
  have G : zS T A s.heap s [[zO0 h md wy la pc_ a1_1 a2_2 a3_3 a4_4 a5_5 a6_6], [zAr T 0 a1_1 7 f1], [zAr T 0 a2_2 7 f2], [zAr T 0 a3_3 7 f3], [zAr T 0 a4_4 n4 f4], [zAr T 0 a5_5 n4 f5], [zAr T 0 a6_6 n4 f6], z, wg, [zO3 t e0 e1 e2 0 e4 e5 a1_11 a2_12], [zAr T 0 a1_11 (zFl m1 wy) g1_8], [zAr T 0 a2_12 7 r2]] _ _ := G
  refine lv_aload_n hx hb dX3_find_13 rfl (lv_at hl 0 rfl) ?_
  refine lv_iconst (v := 0) hx hb dX3_find_14 (by decide) ?_
  refine z_put C G clX3 9 rfl 4 (by decide) m_fl_RX3_37 rfl rfl rfl (Nat.le_of_ble_eq_true rfl) dX3_find_15 (fun H locs G => ?_)
  have G : zS T A s.heap s [[zO0 h md wy la pc_ a1_1 a2_2 a3_3 a4_4 a5_5 a6_6], [zAr T 0 a1_1 7 f1], [zAr T 0 a2_2 7 f2], [zAr T 0 a3_3 7 f3], [zAr T 0 a4_4 n4 f4], [zAr T 0 a5_5 n4 f5], [zAr T 0 a6_6 n4 f6], z, wg, [zO3 t e0 e1 e2 0 0 e5 a1_11 a2_12], [zAr T 0 a1_11 (zFl m1 wy) g1_8], [zAr T 0 a2_12 7 r2]] _ _ := G
  refine lv_aload_n hx hb dX3_find_18 rfl (lv_at hl 0 rfl) ?_
  refine lv_iconst (v := 0) hx hb dX3_find_19 (by decide) ?_
  refine z_put C G clX3 9 rfl 5 (by decide) m_fl_RX3_40 rfl rfl rfl (Nat.le_of_ble_eq_true rfl) dX3_find_20 (fun H locs G => ?_)
  have G : zS T A s.heap s [[zO0 h md wy la pc_ a1_1 a2_2 a3_3 a4_4 a5_5 a6_6], [zAr T 0 a1_1 7 f1], [zAr T 0 a2_2 7 f2], [zAr T 0 a3_3 7 f3], [zAr T 0 a4_4 n4 f4], [zAr T 0 a5_5 n4 f5], [zAr T 0 a6_6 n4 f6], z, wg, [zO3 t e0 e1 e2 0 0 0 a1_11 a2_12], [zAr T 0 a1_11 (zFl m1 wy) g1_8], [zAr T 0 a2_12 7 r2]] _ _ := G
  refine lv_iconst (v := 0) hx hb dX3_find_23 (by decide) ?_
  refine lv_istore_n (lv' := [(3, .int 0), (0, .ref t), (1, .ref h), (2, .ref lg)]) hx hb dX3_find_24 rfl hl (by decide) (zLvf_h rfl) (fun ls hl => ?_)
  refine zEx4 hz ?_
  intro a1_13 a2_14 a3_15 a4_16 hbs9
  clear hz
  subst hbs9
  have G : zS T A s.heap s [[zO0 h md wy la pc_ a1_1 a2_2 a3_3 a4_4 a5_5 a6_6], [zAr T 0 a1_1 7 f1], [zAr T 0 a2_2 7 f2], [zAr T 0 a3_3 7 f3], [zAr T 0 a4_4 n4 f4], [zAr T 0 a5_5 n4 f5], [zAr T 0 a6_6 n4 f6], [zO4 la cr inn a1_13 a2_14 a3_15 a4_16], [zAr T 0 a1_13 7 k1], [zAr T 0 a2_14 28 k2], [zAr T 0 a3_15 7 k3], [zAr T 0 a4_16 7 k4], wg, [zO3 t e0 e1 e2 0 0 0 a1_11 a2_12], [zAr T 0 a1_11 (zFl m1 wy) g1_8], [zAr T 0 a2_12 7 r2]] _ _ := G.re rfl
  refine zEx2 hg ?_
  intro a1_17 a2_18 hbs9
  clear hg
  subst hbs9
  have G : zS T A s.heap s [[zO0 h md wy la pc_ a1_1 a2_2 a3_3 a4_4 a5_5 a6_6], [zAr T 0 a1_1 7 f1], [zAr T 0 a2_2 7 f2], [zAr T 0 a3_3 7 f3], [zAr T 0 a4_4 n4 f4], [zAr T 0 a5_5 n4 f5], [zAr T 0 a6_6 n4 f6], [zO4 la cr inn a1_13 a2_14 a3_15 a4_16], [zAr T 0 a1_13 7 k1], [zAr T 0 a2_14 28 k2], [zAr T 0 a3_15 7 k3], [zAr T 0 a4_16 7 k4], [(lg, .inr (5, [.int gg, .ref a1_17, .ref a2_18]))], [zAr T 0 a1_17 8 d1], [zAr T 0 a2_18 8 d2], [zO3 t e0 e1 e2 0 0 0 a1_11 a2_12], [zAr T 0 a1_11 (zFl m1 wy) g1_8], [zAr T 0 a2_12 7 r2]] _ _ := G.re rfl
  have hw_19 : bWays T h la md wy pc_ f1 f2 f3 f4 f5 f6 n4 [zO0 h md wy la pc_ a1_1 a2_2 a3_3 a4_4 a5_5 a6_6, zAr T 0 a1_1 7 f1, zAr T 0 a2_2 7 f2, zAr T 0 a3_3 7 f3, zAr T 0 a4_4 n4 f4, zAr T 0 a5_5 n4 f5, zAr T 0 a6_6 n4 f6] := ⟨a1_1, a2_2, a3_3, a4_4, a5_5, a6_6, rfl⟩
  have G : zS T A s.heap s [[zO0 h md wy la pc_ a1_1 a2_2 a3_3 a4_4 a5_5 a6_6, zAr T 0 a1_1 7 f1, zAr T 0 a2_2 7 f2, zAr T 0 a3_3 7 f3, zAr T 0 a4_4 n4 f4, zAr T 0 a5_5 n4 f5, zAr T 0 a6_6 n4 f6], [zO4 la cr inn a1_13 a2_14 a3_15 a4_16], [zAr T 0 a1_13 7 k1], [zAr T 0 a2_14 28 k2], [zAr T 0 a3_15 7 k3], [zAr T 0 a4_16 7 k4], [(lg, .inr (5, [.int gg, .ref a1_17, .ref a2_18]))], [zAr T 0 a1_17 8 d1], [zAr T 0 a2_18 8 d2], [zO3 t e0 e1 e2 0 0 0 a1_11 a2_12], [zAr T 0 a1_11 (zFl m1 wy) g1_8], [zAr T 0 a2_12 7 r2]] _ _ := G.re rfl
  have hw_20 : bFit T t e0 e1 e2 0 0 0 g1_8 (zFl m1 wy) r2 [zO3 t e0 e1 e2 0 0 0 a1_11 a2_12, zAr T 0 a1_11 (zFl m1 wy) g1_8, zAr T 0 a2_12 7 r2] := ⟨a1_11, a2_12, rfl⟩
  have G : zS T A s.heap s [[zO0 h md wy la pc_ a1_1 a2_2 a3_3 a4_4 a5_5 a6_6, zAr T 0 a1_1 7 f1, zAr T 0 a2_2 7 f2, zAr T 0 a3_3 7 f3, zAr T 0 a4_4 n4 f4, zAr T 0 a5_5 n4 f5, zAr T 0 a6_6 n4 f6], [zO4 la cr inn a1_13 a2_14 a3_15 a4_16], [zAr T 0 a1_13 7 k1], [zAr T 0 a2_14 28 k2], [zAr T 0 a3_15 7 k3], [zAr T 0 a4_16 7 k4], [(lg, .inr (5, [.int gg, .ref a1_17, .ref a2_18]))], [zAr T 0 a1_17 8 d1], [zAr T 0 a2_18 8 d2], [zO3 t e0 e1 e2 0 0 0 a1_11 a2_12, zAr T 0 a1_11 (zFl m1 wy) g1_8, zAr T 0 a2_12 7 r2]] _ _ := G.re rfl
  have hw_21 : bLand T la cr inn k1 k2 k3 k4 [zO4 la cr inn a1_13 a2_14 a3_15 a4_16, zAr T 0 a1_13 7 k1, zAr T 0 a2_14 28 k2, zAr T 0 a3_15 7 k3, zAr T 0 a4_16 7 k4] := ⟨a1_13, a2_14, a3_15, a4_16, rfl⟩
  have G : zS T A s.heap s [[zO0 h md wy la pc_ a1_1 a2_2 a3_3 a4_4 a5_5 a6_6, zAr T 0 a1_1 7 f1, zAr T 0 a2_2 7 f2, zAr T 0 a3_3 7 f3, zAr T 0 a4_4 n4 f4, zAr T 0 a5_5 n4 f5, zAr T 0 a6_6 n4 f6], [zO4 la cr inn a1_13 a2_14 a3_15 a4_16, zAr T 0 a1_13 7 k1, zAr T 0 a2_14 28 k2, zAr T 0 a3_15 7 k3, zAr T 0 a4_16 7 k4], [(lg, .inr (5, [.int gg, .ref a1_17, .ref a2_18]))], [zAr T 0 a1_17 8 d1], [zAr T 0 a2_18 8 d2], [zO3 t e0 e1 e2 0 0 0 a1_11 a2_12, zAr T 0 a1_11 (zFl m1 wy) g1_8, zAr T 0 a2_12 7 r2]] _ _ := G.re rfl
  have hw_22 : bLog T lg gg d1 d2 [(lg, .inr (5, [.int gg, .ref a1_17, .ref a2_18])), zAr T 0 a1_17 8 d1, zAr T 0 a2_18 8 d2] := ⟨a1_17, a2_18, rfl⟩
  have G : zS T A s.heap s [[zO0 h md wy la pc_ a1_1 a2_2 a3_3 a4_4 a5_5 a6_6, zAr T 0 a1_1 7 f1, zAr T 0 a2_2 7 f2, zAr T 0 a3_3 7 f3, zAr T 0 a4_4 n4 f4, zAr T 0 a5_5 n4 f5, zAr T 0 a6_6 n4 f6], [zO4 la cr inn a1_13 a2_14 a3_15 a4_16, zAr T 0 a1_13 7 k1, zAr T 0 a2_14 28 k2, zAr T 0 a3_15 7 k3, zAr T 0 a4_16 7 k4], [(lg, .inr (5, [.int gg, .ref a1_17, .ref a2_18])), zAr T 0 a1_17 8 d1, zAr T 0 a2_18 8 d2], [zO3 t e0 e1 e2 0 0 0 a1_11 a2_12, zAr T 0 a1_11 (zFl m1 wy) g1_8, zAr T 0 a2_12 7 r2]] _ _ := G.re rfl
  refine z_lp6 (T := T) 25 (fun (i : Nat) (wt : va_W) (y3 : Nat) (y4 : Int32) (y5 : Int32) (x1 : Nat → Int32) => [[zO0 h md wy la pc_ a1_1 a2_2 a3_3 a4_4 a5_5 a6_6, zAr T 0 a1_1 7 f1, zAr T 0 a2_2 7 f2, zAr T 0 a3_3 7 f3, zAr T 0 a4_4 n4 f4, zAr T 0 a5_5 n4 f5, zAr T 0 a6_6 n4 f6], [zO4 la cr inn a1_13 a2_14 a3_15 a4_16, zAr T 0 a1_13 7 k1, zAr T 0 a2_14 28 k2, zAr T 0 a3_15 7 k3, zAr T 0 a4_16 7 k4], [(lg, .inr (5, [.int gg, .ref a1_17, .ref a2_18])), zAr T 0 a1_17 8 d1, zAr T 0 a2_18 8 d2], wt]) (fun (i : Nat) (wt : va_W) (y3 : Nat) (y4 : Int32) (y5 : Int32) (x1 : Nat → Int32) => [(3, .int (nI i)), (0, .ref t), (1, .ref h), (2, .ref lg)]) (fun (i : Nat) (wt : va_W) (y3 : Nat) (y4 : Int32) (y5 : Int32) (x1 : Nat → Int32) => bFit T t e0 e1 e2 (nI y3) y4 y5 x1 (zFl m1 wy) r2 wt ∧ i ≤ aPr (aW cr inn k1) 7 ∧ y3 = gN (fun w => gF (aW cr inn k1) k2 cr inn d1 d2 w gg.toInt.toNat) i ∧ (y4 = (gLM (fun w => gF (aW cr inn k1) k2 cr inn d1 d2 w gg.toInt.toNat) i).1 ∧ y5 = (gLM (fun w => gF (aW cr inn k1) k2 cr inn d1 d2 w gg.toInt.toNat) i).2) ∧ gRw (fun w => gF (aW cr inn k1) k2 cr inn d1 d2 w gg.toInt.toNat) i x1) (fun (i : Nat) (wt : va_W) (y3 : Nat) (y4 : Int32) (y5 : Int32) (x1 : Nat → Int32) => aPr (aW cr inn k1) 7 - i) ?_ 0 ([zO3 t e0 e1 e2 0 0 0 a1_11 a2_12, zAr T 0 a1_11 (zFl m1 wy) g1_8, zAr T 0 a2_12 7 r2]) 0 0 0 g1_8 (show bFit T t e0 e1 e2 (nI 0) 0 0 g1_8 (zFl m1 wy) r2 ([zO3 t e0 e1 e2 0 0 0 a1_11 a2_12, zAr T 0 a1_11 (zFl m1 wy) g1_8, zAr T 0 a2_12 7 r2]) ∧ 0 ≤ aPr (aW cr inn k1) 7 ∧ 0 = gN (fun w => gF (aW cr inn k1) k2 cr inn d1 d2 w gg.toInt.toNat) 0 ∧ (0 = (gLM (fun w => gF (aW cr inn k1) k2 cr inn d1 d2 w gg.toInt.toNat) 0).1 ∧ 0 = (gLM (fun w => gF (aW cr inn k1) k2 cr inn d1 d2 w gg.toInt.toNat) 0).2) ∧ gRw (fun w => gF (aW cr inn k1) k2 cr inn d1 d2 w gg.toInt.toNat) 0 g1_8 from ⟨hw_20, (Nat.zero_le _), rfl, ⟨rfl, rfl⟩, (fun w hw => absurd hw (by omega))⟩) G (lv_sub hl [0, 1, 2, 3] rfl)
  intro i wt y3 y4 y5 x1 hI9 ih_25 H locs ls G hl
  replace hI9 : bFit T t e0 e1 e2 (nI y3) y4 y5 x1 (zFl m1 wy) r2 wt ∧ i ≤ aPr (aW cr inn k1) 7 ∧ y3 = gN (fun w => gF (aW cr inn k1) k2 cr inn d1 d2 w gg.toInt.toNat) i ∧ (y4 = (gLM (fun w => gF (aW cr inn k1) k2 cr inn d1 d2 w gg.toInt.toNat) i).1 ∧ y5 = (gLM (fun w => gF (aW cr inn k1) k2 cr inn d1 d2 w gg.toInt.toNat) i).2) ∧ gRw (fun w => gF (aW cr inn k1) k2 cr inn d1 d2 w gg.toInt.toNat) i x1 := hI9
  refine zAn5 hI9 ?_
  intro hwt hi h3 h45 hrw
  clear hI9
  replace G : zS T A s.heap s [[zO0 h md wy la pc_ a1_1 a2_2 a3_3 a4_4 a5_5 a6_6, zAr T 0 a1_1 7 f1, zAr T 0 a2_2 7 f2, zAr T 0 a3_3 7 f3, zAr T 0 a4_4 n4 f4, zAr T 0 a5_5 n4 f5, zAr T 0 a6_6 n4 f6], [zO4 la cr inn a1_13 a2_14 a3_15 a4_16, zAr T 0 a1_13 7 k1, zAr T 0 a2_14 28 k2, zAr T 0 a3_15 7 k3, zAr T 0 a4_16 7 k4], [(lg, .inr (5, [.int gg, .ref a1_17, .ref a2_18])), zAr T 0 a1_17 8 d1, zAr T 0 a2_18 8 d2], wt] _ _ := G
  replace hl : lv_has ls 4 [(3, .int (nI i)), (0, .ref t), (1, .ref h), (2, .ref lg)] := hl
  refine lv_iload_n hx hb dX3_find_25 rfl (lv_at hl 0 rfl) ?_
  refine lv_aload_n hx hb dX3_find_26 rfl (lv_at hl 2 rfl) ?_
  have G : zS T A s.heap s [[zO0 h md wy la pc_ a1_1 a2_2 a3_3 a4_4 a5_5 a6_6], [zAr T 0 a1_1 7 f1], [zAr T 0 a2_2 7 f2], [zAr T 0 a3_3 7 f3], [zAr T 0 a4_4 n4 f4], [zAr T 0 a5_5 n4 f5], [zAr T 0 a6_6 n4 f6], [zO4 la cr inn a1_13 a2_14 a3_15 a4_16, zAr T 0 a1_13 7 k1, zAr T 0 a2_14 28 k2, zAr T 0 a3_15 7 k3, zAr T 0 a4_16 7 k4], [(lg, .inr (5, [.int gg, .ref a1_17, .ref a2_18])), zAr T 0 a1_17 8 d1, zAr T 0 a2_18 8 d2], wt] _ _ := G.re rfl
  refine z_get C G clX0 0 rfl 1 (by decide) m_fl_RX3_25 rfl dX3_find_27 ?_
  refine lv_icmp_ge (tgt := 53) hx hb dX3_find_30 (by decide) (fun c_23 => ?_) (fun c_23 => ?_)
  · have c_23n : wy.toInt ≤ (i : Int) := by have q := (fa_le _ _).mp c_23; rw [nI_toInt (n := i) (by omega)] at q; exact q
    have hw_24 : bWays T h la md wy pc_ f1 f2 f3 f4 f5 f6 n4 [zO0 h md wy la pc_ a1_1 a2_2 a3_3 a4_4 a5_5 a6_6, zAr T 0 a1_1 7 f1, zAr T 0 a2_2 7 f2, zAr T 0 a3_3 7 f3, zAr T 0 a4_4 n4 f4, zAr T 0 a5_5 n4 f5, zAr T 0 a6_6 n4 f6] := ⟨a1_1, a2_2, a3_3, a4_4, a5_5, a6_6, rfl⟩
    have G : zS T A s.heap s [[zO0 h md wy la pc_ a1_1 a2_2 a3_3 a4_4 a5_5 a6_6, zAr T 0 a1_1 7 f1, zAr T 0 a2_2 7 f2, zAr T 0 a3_3 7 f3, zAr T 0 a4_4 n4 f4, zAr T 0 a5_5 n4 f5, zAr T 0 a6_6 n4 f6], [zO4 la cr inn a1_13 a2_14 a3_15 a4_16, zAr T 0 a1_13 7 k1, zAr T 0 a2_14 28 k2, zAr T 0 a3_15 7 k3, zAr T 0 a4_16 7 k4], [(lg, .inr (5, [.int gg, .ref a1_17, .ref a2_18])), zAr T 0 a1_17 8 d1, zAr T 0 a2_18 8 d2], wt] _ _ := G.re rfl
    have G := G.sub (bs' := [wt, [zO0 h md wy la pc_ a1_1 a2_2 a3_3 a4_4 a5_5 a6_6, zAr T 0 a1_1 7 f1, zAr T 0 a2_2 7 f2, zAr T 0 a3_3 7 f3, zAr T 0 a4_4 n4 f4, zAr T 0 a5_5 n4 f5, zAr T 0 a6_6 n4 f6], [zO4 la cr inn a1_13 a2_14 a3_15 a4_16, zAr T 0 a1_13 7 k1, zAr T 0 a2_14 28 k2, zAr T 0 a3_15 7 k3, zAr T 0 a4_16 7 k4], [(lg, .inr (5, [.int gg, .ref a1_17, .ref a2_18])), zAr T 0 a1_17 8 d1, zAr T 0 a2_18 8 d2]]) [3, 0, 1, 2] rfl
    exact z_back hQz_ (z_vret C hr hlocks G (Nat.le_of_ble_eq_true rfl) (by omega) dX3_find_53 ⟨wt, y3, y4, y5, x1, rfl, hwt, (by rw [h3, show i = aPr (aW cr inn k1) 7 by omega]), (by rw [show aPr (aW cr inn k1) 7 = i by omega]; exact h45), (by rw [show aPr (aW cr inn k1) 7 = i by omega]; exact hrw), (by have q9 := gN_le (f := (fun w => gF (aW cr inn k1) k2 cr inn d1 d2 w gg.toInt.toNat)) i; omega), (by have q9 := gN_le (f := (fun w => gF (aW cr inn k1) k2 cr inn d1 d2 w gg.toInt.toNat)) i; omega)⟩)
  · have c_23n : ¬ wy.toInt ≤ (i : Int) := fun q => c_23 ((fa_le _ _).mpr (by rw [nI_toInt (n := i) (by omega)]; exact q))
    refine lv_iload_n hx hb dX3_find_33 rfl (lv_at hl 0 rfl) ?_
    refine lv_sipush (v := 16383) hx hb dX3_find_34 (by decide) ?_
    refine lv_icmp_gt (tgt := 53) hx hb dX3_find_37 (by decide) (fun c_25 => ?_) (fun c_25 => ?_)
    · have c_25n : 16383 < i := (nI_ltI (a := 16383) (b := i) (by omega) (by omega)).mp c_25
      have hw_26 : bWays T h la md wy pc_ f1 f2 f3 f4 f5 f6 n4 [zO0 h md wy la pc_ a1_1 a2_2 a3_3 a4_4 a5_5 a6_6, zAr T 0 a1_1 7 f1, zAr T 0 a2_2 7 f2, zAr T 0 a3_3 7 f3, zAr T 0 a4_4 n4 f4, zAr T 0 a5_5 n4 f5, zAr T 0 a6_6 n4 f6] := ⟨a1_1, a2_2, a3_3, a4_4, a5_5, a6_6, rfl⟩
      have G : zS T A s.heap s [[zO0 h md wy la pc_ a1_1 a2_2 a3_3 a4_4 a5_5 a6_6, zAr T 0 a1_1 7 f1, zAr T 0 a2_2 7 f2, zAr T 0 a3_3 7 f3, zAr T 0 a4_4 n4 f4, zAr T 0 a5_5 n4 f5, zAr T 0 a6_6 n4 f6], [zO4 la cr inn a1_13 a2_14 a3_15 a4_16, zAr T 0 a1_13 7 k1, zAr T 0 a2_14 28 k2, zAr T 0 a3_15 7 k3, zAr T 0 a4_16 7 k4], [(lg, .inr (5, [.int gg, .ref a1_17, .ref a2_18])), zAr T 0 a1_17 8 d1, zAr T 0 a2_18 8 d2], wt] _ _ := G.re rfl
      have G := G.sub (bs' := [wt, [zO0 h md wy la pc_ a1_1 a2_2 a3_3 a4_4 a5_5 a6_6, zAr T 0 a1_1 7 f1, zAr T 0 a2_2 7 f2, zAr T 0 a3_3 7 f3, zAr T 0 a4_4 n4 f4, zAr T 0 a5_5 n4 f5, zAr T 0 a6_6 n4 f6], [zO4 la cr inn a1_13 a2_14 a3_15 a4_16, zAr T 0 a1_13 7 k1, zAr T 0 a2_14 28 k2, zAr T 0 a3_15 7 k3, zAr T 0 a4_16 7 k4], [(lg, .inr (5, [.int gg, .ref a1_17, .ref a2_18])), zAr T 0 a1_17 8 d1, zAr T 0 a2_18 8 d2]]) [3, 0, 1, 2] rfl
      exact z_back hQz_ (z_vret C hr hlocks G (Nat.le_of_ble_eq_true rfl) (by omega) dX3_find_53 ⟨wt, y3, y4, y5, x1, rfl, hwt, (by rw [h3, show i = aPr (aW cr inn k1) 7 by omega]), (by rw [show aPr (aW cr inn k1) 7 = i by omega]; exact h45), (by rw [show aPr (aW cr inn k1) 7 = i by omega]; exact hrw), (by have q9 := gN_le (f := (fun w => gF (aW cr inn k1) k2 cr inn d1 d2 w gg.toInt.toNat)) i; omega), (by have q9 := gN_le (f := (fun w => gF (aW cr inn k1) k2 cr inn d1 d2 w gg.toInt.toNat)) i; omega)⟩)
    · have c_25n : ¬ 16383 < i := fun q => c_25 ((nI_ltI (a := 16383) (b := i) (by omega) (by omega)).mpr q)
      refine lv_aload_n hx hb dX3_find_40 rfl (lv_at hl 1 rfl) ?_
      refine lv_aload_n hx hb dX3_find_41 rfl (lv_at hl 2 rfl) ?_
      refine lv_aload_n hx hb dX3_find_42 rfl (lv_at hl 3 rfl) ?_
      refine lv_iload_n hx hb dX3_find_43 rfl (lv_at hl 0 rfl) ?_
      have hw_27 : bWays T h la md wy pc_ f1 f2 f3 f4 f5 f6 n4 [zO0 h md wy la pc_ a1_1 a2_2 a3_3 a4_4 a5_5 a6_6, zAr T 0 a1_1 7 f1, zAr T 0 a2_2 7 f2, zAr T 0 a3_3 7 f3, zAr T 0 a4_4 n4 f4, zAr T 0 a5_5 n4 f5, zAr T 0 a6_6 n4 f6] := ⟨a1_1, a2_2, a3_3, a4_4, a5_5, a6_6, rfl⟩
      have G : zS T A s.heap s [[zO0 h md wy la pc_ a1_1 a2_2 a3_3 a4_4 a5_5 a6_6, zAr T 0 a1_1 7 f1, zAr T 0 a2_2 7 f2, zAr T 0 a3_3 7 f3, zAr T 0 a4_4 n4 f4, zAr T 0 a5_5 n4 f5, zAr T 0 a6_6 n4 f6], [zO4 la cr inn a1_13 a2_14 a3_15 a4_16, zAr T 0 a1_13 7 k1, zAr T 0 a2_14 28 k2, zAr T 0 a3_15 7 k3, zAr T 0 a4_16 7 k4], [(lg, .inr (5, [.int gg, .ref a1_17, .ref a2_18])), zAr T 0 a1_17 8 d1, zAr T 0 a2_18 8 d2], wt] _ _ := G.re rfl
      refine z_Vv (bc := [wt, [zO0 h md wy la pc_ a1_1 a2_2 a3_3 a4_4 a5_5 a6_6, zAr T 0 a1_1 7 f1, zAr T 0 a2_2 7 f2, zAr T 0 a3_3 7 f3, zAr T 0 a4_4 n4 f4, zAr T 0 a5_5 n4 f5, zAr T 0 a6_6 n4 f6], [zO4 la cr inn a1_13 a2_14 a3_15 a4_16, zAr T 0 a1_13 7 k1, zAr T 0 a2_14 28 k2, zAr T 0 a3_15 7 k3, zAr T 0 a4_16 7 k4], [(lg, .inr (5, [.int gg, .ref a1_17, .ref a2_18])), zAr T 0 a1_17 8 d1, zAr T 0 a2_18 8 d2]]) (br := []) (As := [.ref h, .ref lg, .int (nI i)]) (rest := []) C G (c_e_tryWay l T t e0 e1 e2 y4 y5 x1 (zFl m1 wy) r2 wt y3 h la md wy pc_ f1 f2 f3 f4 f5 f6 n4 ([zO0 h md wy la pc_ a1_1 a2_2 a3_3 a4_4 a5_5 a6_6, zAr T 0 a1_1 7 f1, zAr T 0 a2_2 7 f2, zAr T 0 a3_3 7 f3, zAr T 0 a4_4 n4 f4, zAr T 0 a5_5 n4 f5, zAr T 0 a6_6 n4 f6]) cr inn k1 k2 k3 k4 ([zO4 la cr inn a1_13 a2_14 a3_15 a4_16, zAr T 0 a1_13 7 k1, zAr T 0 a2_14 28 k2, zAr T 0 a3_15 7 k3, zAr T 0 a4_16 7 k4]) lg gg d1 d2 ([(lg, .inr (5, [.int gg, .ref a1_17, .ref a2_18])), zAr T 0 a1_17 8 d1, zAr T 0 a2_18 8 d2]) i hwt hw_27 hw_21 hw_22 (by first | with_reducible assumption | with_reducible rfl | omega | assumption | rfl) (by first | with_reducible assumption | with_reducible rfl | omega | assumption | rfl) (by first | with_reducible assumption | with_reducible rfl | omega | assumption | rfl) (by first | with_reducible assumption | with_reducible rfl | omega | assumption | rfl) (by omega) (by omega) hm2 (by first | with_reducible assumption | with_reducible rfl | omega | assumption | rfl) h3 h45 hrw) (kV_RX3_43 C.2.2.2.2 (Nat.le_of_ble_eq_true rfl) (Nat.le_of_ble_eq_true rfl)) [3, 0, 1, 2] [0, 0, 0, 0] rfl rfl (ci := 3) (qc := (RX3, TX3, 8)) rfl rfl (List.mem_flatten.mpr ⟨_, List.mem_of_getElem? (i := 0) rfl, (bFit_mem hwt).choose_spec⟩) rfl rfl hl.1 dX3_find_44 (Nat.le_of_ble_eq_true rfl) (by show _ + 0 ≤ 2 * (zFl m1 wy - m1); omega) (fun b1 H locs hw G => ?_)
      refine zEx5 hw ?_
      intro w2_28 s3_29 s4_30 s5_31 g1_32
      refine zCu5 ?_
      intro hbs9 h_33 h_34 h_35 h_36
      clear hw
      subst hbs9
      have G : zS T A s.heap s [w2_28, [zO0 h md wy la pc_ a1_1 a2_2 a3_3 a4_4 a5_5 a6_6, zAr T 0 a1_1 7 f1, zAr T 0 a2_2 7 f2, zAr T 0 a3_3 7 f3, zAr T 0 a4_4 n4 f4, zAr T 0 a5_5 n4 f5, zAr T 0 a6_6 n4 f6], [zO4 la cr inn a1_13 a2_14 a3_15 a4_16, zAr T 0 a1_13 7 k1, zAr T 0 a2_14 28 k2, zAr T 0 a3_15 7 k3, zAr T 0 a4_16 7 k4], [(lg, .inr (5, [.int gg, .ref a1_17, .ref a2_18])), zAr T 0 a1_17 8 d1, zAr T 0 a2_18 8 d2]] _ _ := G
      refine lv_iinc (v := nI (i + 1)) (lv' := [(3, .int (nI (i + 1))), (0, .ref t), (1, .ref h), (2, .ref lg)]) hx hb dX3_find_47 hl (k := 0) rfl (z_inc i 1) (by decide) (zLvf_h rfl) (fun ls hl => ?_)
      refine lv_goto (tgt := 25) hx hb dX3_find_50 (by decide) ?_
      have G := G.sub (bs' := [[zO0 h md wy la pc_ a1_1 a2_2 a3_3 a4_4 a5_5 a6_6, zAr T 0 a1_1 7 f1, zAr T 0 a2_2 7 f2, zAr T 0 a3_3 7 f3, zAr T 0 a4_4 n4 f4, zAr T 0 a5_5 n4 f5, zAr T 0 a6_6 n4 f6], [zO4 la cr inn a1_13 a2_14 a3_15 a4_16, zAr T 0 a1_13 7 k1, zAr T 0 a2_14 28 k2, zAr T 0 a3_15 7 k3, zAr T 0 a4_16 7 k4], [(lg, .inr (5, [.int gg, .ref a1_17, .ref a2_18])), zAr T 0 a1_17 8 d1, zAr T 0 a2_18 8 d2], w2_28]) [1, 2, 3, 0] rfl
      exact ih_25 (i + 1) w2_28 s3_29 s4_30 s5_31 g1_32 (show bFit T t e0 e1 e2 (nI s3_29) s4_30 s5_31 g1_32 (zFl m1 wy) r2 w2_28 ∧ (i + 1) ≤ aPr (aW cr inn k1) 7 ∧ s3_29 = gN (fun w => gF (aW cr inn k1) k2 cr inn d1 d2 w gg.toInt.toNat) (i + 1) ∧ (s4_30 = (gLM (fun w => gF (aW cr inn k1) k2 cr inn d1 d2 w gg.toInt.toNat) (i + 1)).1 ∧ s5_31 = (gLM (fun w => gF (aW cr inn k1) k2 cr inn d1 d2 w gg.toInt.toNat) (i + 1)).2) ∧ gRw (fun w => gF (aW cr inn k1) k2 cr inn d1 d2 w gg.toInt.toNat) (i + 1) g1_32 from ⟨h_33, (by omega), h_34, h_35, h_36⟩) (show aPr (aW cr inn k1) 7 - (i + 1) < aPr (aW cr inn k1) 7 - i from by omega) _ _ ls G (lv_sub hl [0, 1, 2, 3] rfl)
set_option maxHeartbeats 4000000 in
set_option maxRecDepth 100000 in
/-- fit -/
theorem c_e_fit (l : Launch) (T : zTy) (xo : Nat) (t : Nat) (im : Nat) (mk : Nat) (rd : Nat) (po : Nat) (co : Nat) (tr : Nat) (wa : Nat) (wb_ : Nat) (fi : Nat) (cd : Nat) (l0 : Nat) (l1 : Nat) (d0 : Nat) (d1 : Nat) (g0 : Nat) (g1 : Nat) (ln : Int32) (fl : Int32) (pl : Int32) (ft : Nat → Int32) (fk : Nat → Int32) (wt : va_W) (cr0_ : Int32) (inn0_ : Int32) (k10_ : Nat → Int32) (k20_ : Nat → Int32) (k30_ : Nat → Int32) (k40_ : Nat → Int32) (z0_ : va_W) (cr1_ : Int32) (inn1_ : Int32) (k11_ : Nat → Int32) (k21_ : Nat → Int32) (k31_ : Nat → Int32) (k41_ : Nat → Int32) (z1_ : va_W) (gg0_ : Int32) (q10_ : Nat → Int32) (q20_ : Nat → Int32) (wg0_ : va_W) (gg1_ : Int32) (q11_ : Nat → Int32) (q21_ : Nat → Int32) (wg1_ : va_W) (laA : Nat) (mdA : Int32) (wyA : Int32) (pc_A : Int32) (f1A : Nat → Int32) (f2A : Nat → Int32) (f3A : Nat → Int32) (f4A : Nat → Int32) (f5A : Nat → Int32) (f6A : Nat → Int32) (n4A : Nat) (wwA : va_W) (laB : Nat) (mdB : Int32) (wyB : Int32) (pc_B : Int32) (f1B : Nat → Int32) (f2B : Nat → Int32) (f3B : Nat → Int32) (f4B : Nat → Int32) (f5B : Nat → Int32) (f6B : Nat → Int32) (n4B : Nat) (wwB : va_W) (e0f : Int32) (e1f : Int32) (e2f : Int32) (e3f : Int32) (e4f : Int32) (e5f : Int32) (r1f : Nat → Int32) (m1f : Nat) (r2f : Nat → Int32) (wff : va_W) (i1 : Int32) (i2 : Int32) (ht : bTold T t l0 l1 d0 d1 g0 g1 ln fl pl ft fk wt) (hK : zKT fk) (hz0_ : bLand T l0 cr0_ inn0_ k10_ k20_ k30_ k40_ z0_) (hI0_ : zLI cr0_ k10_ k30_) (hz1_ : bLand T l1 cr1_ inn1_ k11_ k21_ k31_ k41_ z1_) (hI1_ : zLI cr1_ k11_ k31_) (hg0_ : bLog T g0 gg0_ q10_ q20_ wg0_) (hg1_ : bLog T g1 gg1_ q11_ q21_ wg1_) (hwwA : bWays T wa laA mdA wyA pc_A f1A f2A f3A f4A f5A f6A n4A wwA) (hpwA : zPw n4A) (hmdA : mdA = 0 ∨ laA = l0) (hwmA : 0 ≤ wyA.toInt ∧ wyA.toInt ≤ 16384) (hTbA : mdA = 0 ∨ zTab cr0_ inn0_ k10_ k20_ wyA pc_A f1A f2A f5A n4A) (hLq0 : zLq cr0_ k10_ k20_) (hwwB : bWays T wb_ laB mdB wyB pc_B f1B f2B f3B f4B f5B f6B n4B wwB) (hpwB : zPw n4B) (hmdB : mdB = 0 ∨ laB = l1) (hwmB : 0 ≤ wyB.toInt ∧ wyB.toInt ≤ 16384) (hTbB : mdB = 0 ∨ zTab cr1_ inn1_ k11_ k21_ wyB pc_B f1B f2B f5B n4B) (hLq1 : zLq cr1_ k11_ k21_) (hwff : bFit T fi e0f e1f e2f e3f e4f e5f r1f m1f r2f wff) (hfw : zFw m1f) (hf3 : 0 ≤ e3f.toInt) (hFI : (¬ e0f = 0 → e1f.toInt = 0 ∧ ¬ mdA = 0 ∨ e1f.toInt = 1 ∧ ¬ mdB = 0)) (hFt00 : (¬ e0f = 0 → e1f.toInt = 0 → e2f.toInt = 0 → gFt (fun w => gF (aW cr0_ inn0_ k10_) k20_ cr0_ inn0_ q10_ q20_ w gg0_.toInt.toNat) (aPr (aW cr0_ inn0_ k10_) 7) e3f e4f e5f r1f m1f)) (hFt01 : (¬ e0f = 0 → e1f.toInt = 0 → e2f.toInt = 1 → gFt (fun w => gF (aW cr0_ inn0_ k10_) k20_ cr0_ inn0_ q11_ q21_ w gg1_.toInt.toNat) (aPr (aW cr0_ inn0_ k10_) 7) e3f e4f e5f r1f m1f)) (hFt10 : (¬ e0f = 0 → e1f.toInt = 1 → e2f.toInt = 0 → gFt (fun w => gF (aW cr1_ inn1_ k11_) k21_ cr1_ inn1_ q10_ q20_ w gg0_.toInt.toNat) (aPr (aW cr1_ inn1_ k11_) 7) e3f e4f e5f r1f m1f)) (hFt11 : (¬ e0f = 0 → e1f.toInt = 1 → e2f.toInt = 1 → gFt (fun w => gF (aW cr1_ inn1_ k11_) k21_ cr1_ inn1_ q11_ q21_ w gg1_.toInt.toNat) (aPr (aW cr1_ inn1_ k11_) 7) e3f e4f e5f r1f m1f)) (hGg0 : 0 ≤ gg0_.toInt ∧ gg0_.toInt ≤ 8) (hGg1 : 0 ≤ gg1_.toInt ∧ gg1_.toInt ≤ 8) : zMi l T yX11_fit cX11_fit 5 (some .boolean) 7 4 (6 * (zNA (i1.toInt = 0 ∧ 0 < (fk 0).toInt ∧ (0 ≤ i2.toInt ∧ i2.toInt < (fk 2).toInt ∧ i2.toInt < 2) ∧ (e0f.toInt = 0 ∨ ¬ e1f.toInt = i1.toInt ∨ ¬ e2f.toInt = i2.toInt)) mdA n4A (zPl cr0_ inn0_ k10_) - n4A) + 6 * (zNA (i1.toInt = 1 ∧ 1 < (fk 0).toInt ∧ (0 ≤ i2.toInt ∧ i2.toInt < (fk 2).toInt ∧ i2.toInt < 2) ∧ (e0f.toInt = 0 ∨ ¬ e1f.toInt = i1.toInt ∨ ¬ e2f.toInt = i2.toInt)) mdB n4B (zPl cr1_ inn1_ k11_) - n4B) + 2 * (zNF (i1.toInt = 1 ∧ 1 < (fk 0).toInt ∧ (0 ≤ i2.toInt ∧ i2.toInt < (fk 2).toInt ∧ i2.toInt < 2) ∧ (e0f.toInt = 0 ∨ ¬ e1f.toInt = i1.toInt ∨ ¬ e2f.toInt = i2.toInt)) (zNF (i1.toInt = 0 ∧ 0 < (fk 0).toInt ∧ (0 ≤ i2.toInt ∧ i2.toInt < (fk 2).toInt ∧ i2.toInt < 2) ∧ (e0f.toInt = 0 ∨ ¬ e1f.toInt = i1.toInt ∨ ¬ e2f.toInt = i2.toInt)) m1f (zMw mdA wyA cr0_ inn0_ k10_)) (zMw mdB wyB cr1_ inn1_ k11_) - m1f)) [.ref xo, .int i1, .int i2] [[zO10 xo t im mk rd po co tr wa wb_ fi cd], wt, z0_, z1_, wg0_, wg1_, wwA, wwB, wff] (fun (r : Int32) bs => ∃ (laA_2 : Nat) (mdA_2 : Int32) (wyA_2 : Int32) (pc_A_2 : Int32) (f1A_2 : Nat → Int32) (f2A_2 : Nat → Int32) (f3A_2 : Nat → Int32) (f4A_2 : Nat → Int32) (f5A_2 : Nat → Int32) (f6A_2 : Nat → Int32) (n4A_2 : Nat) (wwA_2 : va_W) (laB_2 : Nat) (mdB_2 : Int32) (wyB_2 : Int32) (pc_B_2 : Int32) (f1B_2 : Nat → Int32) (f2B_2 : Nat → Int32) (f3B_2 : Nat → Int32) (f4B_2 : Nat → Int32) (f5B_2 : Nat → Int32) (f6B_2 : Nat → Int32) (n4B_2 : Nat) (wwB_2 : va_W) (e0f_2 : Int32) (e1f_2 : Int32) (e2f_2 : Int32) (e3f_2 : Int32) (e4f_2 : Int32) (e5f_2 : Int32) (r1f_2 : Nat → Int32) (m1f_2 : Nat) (r2f_2 : Nat → Int32) (wff_2 : va_W), bs = [[zO10 xo t im mk rd po co tr wa wb_ fi cd], wt, z0_, z1_, wg0_, wg1_, wwA_2, wwB_2, wff_2] ∧ bWays T wa laA_2 mdA_2 wyA_2 pc_A_2 f1A_2 f2A_2 f3A_2 f4A_2 f5A_2 f6A_2 n4A_2 wwA_2 ∧ (mdA_2 = 0 ∨ laA_2 = l0) ∧ (0 ≤ wyA_2.toInt ∧ wyA_2.toInt ≤ 16384) ∧ n4A_2 = zNA (i1.toInt = 0 ∧ 0 < (fk 0).toInt ∧ (0 ≤ i2.toInt ∧ i2.toInt < (fk 2).toInt ∧ i2.toInt < 2) ∧ (e0f.toInt = 0 ∨ ¬ e1f.toInt = i1.toInt ∨ ¬ e2f.toInt = i2.toInt)) mdA n4A (zPl cr0_ inn0_ k10_) ∧ zPw n4A_2 ∧ (¬ mdA = 0 → ¬ mdA_2 = 0) ∧ (mdA_2 = 0 ∨ zTab cr0_ inn0_ k10_ k20_ wyA_2 pc_A_2 f1A_2 f2A_2 f5A_2 n4A_2) ∧ bWays T wb_ laB_2 mdB_2 wyB_2 pc_B_2 f1B_2 f2B_2 f3B_2 f4B_2 f5B_2 f6B_2 n4B_2 wwB_2 ∧ (mdB_2 = 0 ∨ laB_2 = l1) ∧ (0 ≤ wyB_2.toInt ∧ wyB_2.toInt ≤ 16384) ∧ n4B_2 = zNA (i1.toInt = 1 ∧ 1 < (fk 0).toInt ∧ (0 ≤ i2.toInt ∧ i2.toInt < (fk 2).toInt ∧ i2.toInt < 2) ∧ (e0f.toInt = 0 ∨ ¬ e1f.toInt = i1.toInt ∨ ¬ e2f.toInt = i2.toInt)) mdB n4B (zPl cr1_ inn1_ k11_) ∧ zPw n4B_2 ∧ (¬ mdB = 0 → ¬ mdB_2 = 0) ∧ (mdB_2 = 0 ∨ zTab cr1_ inn1_ k11_ k21_ wyB_2 pc_B_2 f1B_2 f2B_2 f5B_2 n4B_2) ∧ bFit T fi e0f_2 e1f_2 e2f_2 e3f_2 e4f_2 e5f_2 r1f_2 m1f_2 r2f_2 wff_2 ∧ m1f_2 = zNF (i1.toInt = 1 ∧ 1 < (fk 0).toInt ∧ (0 ≤ i2.toInt ∧ i2.toInt < (fk 2).toInt ∧ i2.toInt < 2) ∧ (e0f.toInt = 0 ∨ ¬ e1f.toInt = i1.toInt ∨ ¬ e2f.toInt = i2.toInt)) (zNF (i1.toInt = 0 ∧ 0 < (fk 0).toInt ∧ (0 ≤ i2.toInt ∧ i2.toInt < (fk 2).toInt ∧ i2.toInt < 2) ∧ (e0f.toInt = 0 ∨ ¬ e1f.toInt = i1.toInt ∨ ¬ e2f.toInt = i2.toInt)) m1f (zMw mdA wyA cr0_ inn0_ k10_)) (zMw mdB wyB cr1_ inn1_ k11_) ∧ zFw m1f_2 ∧ 0 ≤ e3f_2.toInt ∧ (r = 0 ∧ ¬ ((0 ≤ i1.toInt ∧ i1.toInt < (fk 0).toInt ∧ i1.toInt < 2) ∧ (0 ≤ i2.toInt ∧ i2.toInt < (fk 2).toInt ∧ i2.toInt < 2)) ∨ r = 1 ∧ ((0 ≤ i1.toInt ∧ i1.toInt < (fk 0).toInt ∧ i1.toInt < 2) ∧ (0 ≤ i2.toInt ∧ i2.toInt < (fk 2).toInt ∧ i2.toInt < 2)) ∧ ¬ e0f_2 = 0 ∧ e1f_2.toInt = i1.toInt) ∧ (¬ e0f_2 = 0 → e1f_2.toInt = 0 ∧ ¬ mdA_2 = 0 ∨ e1f_2.toInt = 1 ∧ ¬ mdB_2 = 0) ∧ (¬ e0f_2 = 0 → e1f_2.toInt = 0 → e2f_2.toInt = 0 → gFt (fun w => gF (aW cr0_ inn0_ k10_) k20_ cr0_ inn0_ q10_ q20_ w gg0_.toInt.toNat) (aPr (aW cr0_ inn0_ k10_) 7) e3f_2 e4f_2 e5f_2 r1f_2 m1f_2) ∧ (¬ e0f_2 = 0 → e1f_2.toInt = 0 → e2f_2.toInt = 1 → gFt (fun w => gF (aW cr0_ inn0_ k10_) k20_ cr0_ inn0_ q11_ q21_ w gg1_.toInt.toNat) (aPr (aW cr0_ inn0_ k10_) 7) e3f_2 e4f_2 e5f_2 r1f_2 m1f_2) ∧ (¬ e0f_2 = 0 → e1f_2.toInt = 1 → e2f_2.toInt = 0 → gFt (fun w => gF (aW cr1_ inn1_ k11_) k21_ cr1_ inn1_ q10_ q20_ w gg0_.toInt.toNat) (aPr (aW cr1_ inn1_ k11_) 7) e3f_2 e4f_2 e5f_2 r1f_2 m1f_2) ∧ (¬ e0f_2 = 0 → e1f_2.toInt = 1 → e2f_2.toInt = 1 → gFt (fun w => gF (aW cr1_ inn1_ k11_) k21_ cr1_ inn1_ q11_ q21_ w gg1_.toInt.toNat) (aPr (aW cr1_ inn1_ k11_) 7) e3f_2 e4f_2 e5f_2 r1f_2 m1f_2) ∧ (r = 0 ∨ e2f_2.toInt = i2.toInt)) := by
  refine zMi_of (own := RX11) (by decide) rfl (Nat.le_of_ble_eq_true rfl) ?_
  intro p e s m args below meth c A ls C hr hlocks hnm hAe G hl
  refine zHide (fun Qz_ hQz_ => ?_)
  have hx := C.1
  have hb := C.2.1
  replace hmdA : zHd (mdA = 0 ∨ laA = l0) := hmdA
  replace hTbA : zHd (mdA = 0 ∨ zTab cr0_ inn0_ k10_ k20_ wyA pc_A f1A f2A f5A n4A) := hTbA
  replace hmdB : zHd (mdB = 0 ∨ laB = l1) := hmdB
  replace hTbB : zHd (mdB = 0 ∨ zTab cr1_ inn1_ k11_ k21_ wyB pc_B f1B f2B f5B n4B) := hTbB
  replace hFI : zHd ((¬ e0f = 0 → e1f.toInt = 0 ∧ ¬ mdA = 0 ∨ e1f.toInt = 1 ∧ ¬ mdB = 0)) := hFI
  have hl : lv_has ls 5 [(0, .ref xo), (1, .int i1), (2, .int i2)] := hl
  refine lv_aload_n hx hb dX11_fit_0 rfl (lv_at hl 0 rfl) ?_
  refine z_get C G clX11 0 rfl 0 (by decide) m_fl_RX11_10 rfl dX11_fit_1 ?_
  refine lv_iload_n hx hb dX11_fit_4 rfl (lv_at hl 1 rfl) ?_
  refine z_Vq (bc := [wt]) (br := [[zO10 xo t im mk rd po co tr wa wb_ fi cd], z0_, z1_, wg0_, wg1_, wwA, wwB, wff]) (As := [.int i1]) (rest := []) C G (c_landAt l T t l0 l1 d0 d1 g0 g1 ln fl pl ft fk wt i1 ht) (kV_RX11_121 C.2.2.2.2 (Nat.le_of_ble_eq_true rfl) (Nat.le_of_ble_eq_true rfl)) [1] [1] rfl rfl (ci := 8) (qc := (RX9, TX9, 8)) rfl rfl (List.mem_flatten.mpr ⟨_, List.mem_of_getElem? (i := 0) rfl, (bTold_mem ht).choose_spec⟩) rfl rfl hl.1 dX11_fit_5 (Nat.le_of_ble_eq_true rfl) (by show _ + 0 ≤ 6 * (zNA (i1.toInt = 0 ∧ 0 < (fk 0).toInt ∧ (0 ≤ i2.toInt ∧ i2.toInt < (fk 2).toInt ∧ i2.toInt < 2) ∧ (e0f.toInt = 0 ∨ ¬ e1f.toInt = i1.toInt ∨ ¬ e2f.toInt = i2.toInt)) mdA n4A (zPl cr0_ inn0_ k10_) - n4A) + 6 * (zNA (i1.toInt = 1 ∧ 1 < (fk 0).toInt ∧ (0 ≤ i2.toInt ∧ i2.toInt < (fk 2).toInt ∧ i2.toInt < 2) ∧ (e0f.toInt = 0 ∨ ¬ e1f.toInt = i1.toInt ∨ ¬ e2f.toInt = i2.toInt)) mdB n4B (zPl cr1_ inn1_ k11_) - n4B) + 2 * (zNF (i1.toInt = 1 ∧ 1 < (fk 0).toInt ∧ (0 ≤ i2.toInt ∧ i2.toInt < (fk 2).toInt ∧ i2.toInt < 2) ∧ (e0f.toInt = 0 ∨ ¬ e1f.toInt = i1.toInt ∨ ¬ e2f.toInt = i2.toInt)) (zNF (i1.toInt = 0 ∧ 0 < (fk 0).toInt ∧ (0 ≤ i2.toInt ∧ i2.toInt < (fk 2).toInt ∧ i2.toInt < 2) ∧ (e0f.toInt = 0 ∨ ¬ e1f.toInt = i1.toInt ∨ ¬ e2f.toInt = i2.toInt)) m1f (zMw mdA wyA cr0_ inn0_ k10_)) (zMw mdB wyB cr1_ inn1_ k11_) - m1f); omega) (fun r_2 b1 H locs hw G => ?_)
  refine zAn2 hw ?_
  intro hbs9 hc_1
  clear hw
  subst hbs9
  have G : zS T A s.heap s [[zO10 xo t im mk rd po co tr wa wb_ fi cd], z0_, z1_, wg0_, wg1_, wwA, wwB, wff, wt] _ _ := G
  rcases hc_1 with ⟨rfl, h_3⟩ | ⟨rfl, h_4, h_5⟩ | ⟨rfl, h_6, h_7⟩
  · have h_3 : (i1.toInt < 0 ∨ (fk 0).toInt ≤ i1.toInt ∨ 2 ≤ i1.toInt) := h_3
    refine lv_astore_nN (lv' := [(3, .null), (0, .ref xo), (1, .int i1), (2, .int i2)]) hx hb dX11_fit_8 rfl hl (by decide) (zLvf_h rfl) (fun ls hl => ?_)
    refine lv_aload_n hx hb dX11_fit_9 rfl (lv_at hl 1 rfl) ?_
    refine z_get C G clX11 0 rfl 0 (by decide) m_fl_RX11_10 rfl dX11_fit_10 ?_
    refine lv_iload_n hx hb dX11_fit_13 rfl (lv_at hl 3 rfl) ?_
    refine z_Vq (bc := [wt]) (br := [[zO10 xo t im mk rd po co tr wa wb_ fi cd], z0_, z1_, wg0_, wg1_, wwA, wwB, wff]) (As := [.int i2]) (rest := []) C G (c_logAt l T t l0 l1 d0 d1 g0 g1 ln fl pl ft fk wt i2 ht) (kV_RX11_138 C.2.2.2.2 (Nat.le_of_ble_eq_true rfl) (Nat.le_of_ble_eq_true rfl)) [8] [8] rfl rfl (ci := 8) (qc := (RX9, TX9, 8)) rfl rfl (List.mem_flatten.mpr ⟨_, List.mem_of_getElem? (i := 0) rfl, (bTold_mem ht).choose_spec⟩) rfl rfl hl.1 dX11_fit_14 (Nat.le_of_ble_eq_true rfl) (by show _ + 0 ≤ 6 * (zNA (i1.toInt = 0 ∧ 0 < (fk 0).toInt ∧ (0 ≤ i2.toInt ∧ i2.toInt < (fk 2).toInt ∧ i2.toInt < 2) ∧ (e0f.toInt = 0 ∨ ¬ e1f.toInt = i1.toInt ∨ ¬ e2f.toInt = i2.toInt)) mdA n4A (zPl cr0_ inn0_ k10_) - n4A) + 6 * (zNA (i1.toInt = 1 ∧ 1 < (fk 0).toInt ∧ (0 ≤ i2.toInt ∧ i2.toInt < (fk 2).toInt ∧ i2.toInt < 2) ∧ (e0f.toInt = 0 ∨ ¬ e1f.toInt = i1.toInt ∨ ¬ e2f.toInt = i2.toInt)) mdB n4B (zPl cr1_ inn1_ k11_) - n4B) + 2 * (zNF (i1.toInt = 1 ∧ 1 < (fk 0).toInt ∧ (0 ≤ i2.toInt ∧ i2.toInt < (fk 2).toInt ∧ i2.toInt < 2) ∧ (e0f.toInt = 0 ∨ ¬ e1f.toInt = i1.toInt ∨ ¬ e2f.toInt = i2.toInt)) (zNF (i1.toInt = 0 ∧ 0 < (fk 0).toInt ∧ (0 ≤ i2.toInt ∧ i2.toInt < (fk 2).toInt ∧ i2.toInt < 2) ∧ (e0f.toInt = 0 ∨ ¬ e1f.toInt = i1.toInt ∨ ¬ e2f.toInt = i2.toInt)) m1f (zMw mdA wyA cr0_ inn0_ k10_)) (zMw mdB wyB cr1_ inn1_ k11_) - m1f); omega) (fun r_9 b1 H locs hw G => ?_)
    refine zAn2 hw ?_
    intro hbs9 hc_8
    clear hw
    subst hbs9
    have G : zS T A s.heap s [[zO10 xo t im mk rd po co tr wa wb_ fi cd], z0_, z1_, wg0_, wg1_, wwA, wwB, wff, wt] _ _ := G
    rcases hc_8 with ⟨rfl, h_10⟩ | ⟨rfl, h_11, h_12⟩ | ⟨rfl, h_13, h_14⟩
    · have h_10 : (i2.toInt < 0 ∨ (fk 2).toInt ≤ i2.toInt ∨ 2 ≤ i2.toInt) := h_10
      refine lv_astoreN (lv' := [(4, .null), (3, .null), (0, .ref xo), (1, .int i1), (2, .int i2)]) hx hb dX11_fit_17 hl (by decide) (zLvf_h rfl) (fun ls hl => ?_)
      refine lv_aload_nN hx hb dX11_fit_19 rfl (lv_at hl 1 rfl) ?_
      refine lv_ifnullN (tgt := 28) hx hb dX11_fit_20 (by decide) ?_
      refine lv_iconst (v := 0) hx hb dX11_fit_28 (by decide) ?_
      have G := G.sub (bs' := [[zO10 xo t im mk rd po co tr wa wb_ fi cd], wt, z0_, z1_, wg0_, wg1_, wwA, wwB, wff]) [0, 8, 1, 2, 3, 4, 5, 6, 7] rfl
      exact z_back hQz_ (z_zret C hr hlocks G (Nat.le_of_ble_eq_true rfl) (by omega) dX11_fit_29 rfl ⟨laA, mdA, wyA, pc_A, f1A, f2A, f3A, f4A, f5A, f6A, n4A, wwA, laB, mdB, wyB, pc_B, f1B, f2B, f3B, f4B, f5B, f6B, n4B, wwB, e0f, e1f, e2f, e3f, e4f, e5f, r1f, m1f, r2f, wff, rfl, hwwA, hmdA, hwmA, (zNA_n (by omega)).symm, hpwA, (fun q => q), hTbA, hwwB, hmdB, hwmB, (zNA_n (by omega)).symm, hpwB, (fun q => q), hTbB, hwff, (((zNF_n (c := (i1.toInt = 1 ∧ 1 < (fk 0).toInt ∧ (0 ≤ i2.toInt ∧ i2.toInt < (fk 2).toInt ∧ i2.toInt < 2) ∧ (e0f.toInt = 0 ∨ ¬ e1f.toInt = i1.toInt ∨ ¬ e2f.toInt = i2.toInt))) (by omega)).trans (zNF_n (by omega))).symm), hfw, hf3, (Or.inl ⟨rfl, by omega⟩), hFI, hFt00, hFt01, hFt10, hFt11, (Or.inl rfl)⟩)
    · have h_11 : i2.toInt = 0 := h_11
      have h_12 : 0 < (fk 2).toInt := h_12
      refine lv_astore (lv' := [(4, .ref g0), (3, .null), (0, .ref xo), (1, .int i1), (2, .int i2)]) hx hb dX11_fit_17 hl (by decide) (zLvf_h rfl) (fun ls hl => ?_)
      refine lv_aload_nN hx hb dX11_fit_19 rfl (lv_at hl 1 rfl) ?_
      refine lv_ifnullN (tgt := 28) hx hb dX11_fit_20 (by decide) ?_
      refine lv_iconst (v := 0) hx hb dX11_fit_28 (by decide) ?_
      have G := G.sub (bs' := [[zO10 xo t im mk rd po co tr wa wb_ fi cd], wt, z0_, z1_, wg0_, wg1_, wwA, wwB, wff]) [0, 8, 1, 2, 3, 4, 5, 6, 7] rfl
      exact z_back hQz_ (z_zret C hr hlocks G (Nat.le_of_ble_eq_true rfl) (by omega) dX11_fit_29 rfl ⟨laA, mdA, wyA, pc_A, f1A, f2A, f3A, f4A, f5A, f6A, n4A, wwA, laB, mdB, wyB, pc_B, f1B, f2B, f3B, f4B, f5B, f6B, n4B, wwB, e0f, e1f, e2f, e3f, e4f, e5f, r1f, m1f, r2f, wff, rfl, hwwA, hmdA, hwmA, (zNA_n (by omega)).symm, hpwA, (fun q => q), hTbA, hwwB, hmdB, hwmB, (zNA_n (by omega)).symm, hpwB, (fun q => q), hTbB, hwff, (((zNF_n (c := (i1.toInt = 1 ∧ 1 < (fk 0).toInt ∧ (0 ≤ i2.toInt ∧ i2.toInt < (fk 2).toInt ∧ i2.toInt < 2) ∧ (e0f.toInt = 0 ∨ ¬ e1f.toInt = i1.toInt ∨ ¬ e2f.toInt = i2.toInt))) (by omega)).trans (zNF_n (by omega))).symm), hfw, hf3, (Or.inl ⟨rfl, by omega⟩), hFI, hFt00, hFt01, hFt10, hFt11, (Or.inl rfl)⟩)
    · have h_13 : i2.toInt = 1 := h_13
      have h_14 : 1 < (fk 2).toInt := h_14
      refine lv_astore (lv' := [(4, .ref g1), (3, .null), (0, .ref xo), (1, .int i1), (2, .int i2)]) hx hb dX11_fit_17 hl (by decide) (zLvf_h rfl) (fun ls hl => ?_)
      refine lv_aload_nN hx hb dX11_fit_19 rfl (lv_at hl 1 rfl) ?_
      refine lv_ifnullN (tgt := 28) hx hb dX11_fit_20 (by decide) ?_
      refine lv_iconst (v := 0) hx hb dX11_fit_28 (by decide) ?_
      have G := G.sub (bs' := [[zO10 xo t im mk rd po co tr wa wb_ fi cd], wt, z0_, z1_, wg0_, wg1_, wwA, wwB, wff]) [0, 8, 1, 2, 3, 4, 5, 6, 7] rfl
      exact z_back hQz_ (z_zret C hr hlocks G (Nat.le_of_ble_eq_true rfl) (by omega) dX11_fit_29 rfl ⟨laA, mdA, wyA, pc_A, f1A, f2A, f3A, f4A, f5A, f6A, n4A, wwA, laB, mdB, wyB, pc_B, f1B, f2B, f3B, f4B, f5B, f6B, n4B, wwB, e0f, e1f, e2f, e3f, e4f, e5f, r1f, m1f, r2f, wff, rfl, hwwA, hmdA, hwmA, (zNA_n (by omega)).symm, hpwA, (fun q => q), hTbA, hwwB, hmdB, hwmB, (zNA_n (by omega)).symm, hpwB, (fun q => q), hTbB, hwff, (((zNF_n (c := (i1.toInt = 1 ∧ 1 < (fk 0).toInt ∧ (0 ≤ i2.toInt ∧ i2.toInt < (fk 2).toInt ∧ i2.toInt < 2) ∧ (e0f.toInt = 0 ∨ ¬ e1f.toInt = i1.toInt ∨ ¬ e2f.toInt = i2.toInt))) (by omega)).trans (zNF_n (by omega))).symm), hfw, hf3, (Or.inl ⟨rfl, by omega⟩), hFI, hFt00, hFt01, hFt10, hFt11, (Or.inl rfl)⟩)
  · have h_4 : i1.toInt = 0 := h_4
    have h_5 : 0 < (fk 0).toInt := h_5
    refine lv_astore_n (lv' := [(3, .ref l0), (0, .ref xo), (1, .int i1), (2, .int i2)]) hx hb dX11_fit_8 rfl hl (by decide) (zLvf_h rfl) (fun ls hl => ?_)
    refine lv_aload_n hx hb dX11_fit_9 rfl (lv_at hl 1 rfl) ?_
    refine z_get C G clX11 0 rfl 0 (by decide) m_fl_RX11_10 rfl dX11_fit_10 ?_
    refine lv_iload_n hx hb dX11_fit_13 rfl (lv_at hl 3 rfl) ?_
    refine z_Vq (bc := [wt]) (br := [[zO10 xo t im mk rd po co tr wa wb_ fi cd], z0_, z1_, wg0_, wg1_, wwA, wwB, wff]) (As := [.int i2]) (rest := []) C G (c_logAt l T t l0 l1 d0 d1 g0 g1 ln fl pl ft fk wt i2 ht) (kV_RX11_138 C.2.2.2.2 (Nat.le_of_ble_eq_true rfl) (Nat.le_of_ble_eq_true rfl)) [8] [8] rfl rfl (ci := 8) (qc := (RX9, TX9, 8)) rfl rfl (List.mem_flatten.mpr ⟨_, List.mem_of_getElem? (i := 0) rfl, (bTold_mem ht).choose_spec⟩) rfl rfl hl.1 dX11_fit_14 (Nat.le_of_ble_eq_true rfl) (by show _ + 0 ≤ 6 * (zNA (i1.toInt = 0 ∧ 0 < (fk 0).toInt ∧ (0 ≤ i2.toInt ∧ i2.toInt < (fk 2).toInt ∧ i2.toInt < 2) ∧ (e0f.toInt = 0 ∨ ¬ e1f.toInt = i1.toInt ∨ ¬ e2f.toInt = i2.toInt)) mdA n4A (zPl cr0_ inn0_ k10_) - n4A) + 6 * (zNA (i1.toInt = 1 ∧ 1 < (fk 0).toInt ∧ (0 ≤ i2.toInt ∧ i2.toInt < (fk 2).toInt ∧ i2.toInt < 2) ∧ (e0f.toInt = 0 ∨ ¬ e1f.toInt = i1.toInt ∨ ¬ e2f.toInt = i2.toInt)) mdB n4B (zPl cr1_ inn1_ k11_) - n4B) + 2 * (zNF (i1.toInt = 1 ∧ 1 < (fk 0).toInt ∧ (0 ≤ i2.toInt ∧ i2.toInt < (fk 2).toInt ∧ i2.toInt < 2) ∧ (e0f.toInt = 0 ∨ ¬ e1f.toInt = i1.toInt ∨ ¬ e2f.toInt = i2.toInt)) (zNF (i1.toInt = 0 ∧ 0 < (fk 0).toInt ∧ (0 ≤ i2.toInt ∧ i2.toInt < (fk 2).toInt ∧ i2.toInt < 2) ∧ (e0f.toInt = 0 ∨ ¬ e1f.toInt = i1.toInt ∨ ¬ e2f.toInt = i2.toInt)) m1f (zMw mdA wyA cr0_ inn0_ k10_)) (zMw mdB wyB cr1_ inn1_ k11_) - m1f); omega) (fun r_16 b1 H locs hw G => ?_)
    refine zAn2 hw ?_
    intro hbs9 hc_15
    clear hw
    subst hbs9
    have G : zS T A s.heap s [[zO10 xo t im mk rd po co tr wa wb_ fi cd], z0_, z1_, wg0_, wg1_, wwA, wwB, wff, wt] _ _ := G
    rcases hc_15 with ⟨rfl, h_17⟩ | ⟨rfl, h_18, h_19⟩ | ⟨rfl, h_20, h_21⟩
    · have h_17 : (i2.toInt < 0 ∨ (fk 2).toInt ≤ i2.toInt ∨ 2 ≤ i2.toInt) := h_17
      refine lv_astoreN (lv' := [(4, .null), (3, .ref l0), (0, .ref xo), (1, .int i1), (2, .int i2)]) hx hb dX11_fit_17 hl (by decide) (zLvf_h rfl) (fun ls hl => ?_)
      refine lv_aload_n hx hb dX11_fit_19 rfl (lv_at hl 1 rfl) ?_
      refine lv_ifnull hx hb dX11_fit_20 ?_
      refine lv_aloadN hx hb dX11_fit_23 (lv_at hl 0 rfl) ?_
      refine lv_ifnonnullN hx hb dX11_fit_25 ?_
      refine lv_iconst (v := 0) hx hb dX11_fit_28 (by decide) ?_
      have G := G.sub (bs' := [[zO10 xo t im mk rd po co tr wa wb_ fi cd], wt, z0_, z1_, wg0_, wg1_, wwA, wwB, wff]) [0, 8, 1, 2, 3, 4, 5, 6, 7] rfl
      exact z_back hQz_ (z_zret C hr hlocks G (Nat.le_of_ble_eq_true rfl) (by omega) dX11_fit_29 rfl ⟨laA, mdA, wyA, pc_A, f1A, f2A, f3A, f4A, f5A, f6A, n4A, wwA, laB, mdB, wyB, pc_B, f1B, f2B, f3B, f4B, f5B, f6B, n4B, wwB, e0f, e1f, e2f, e3f, e4f, e5f, r1f, m1f, r2f, wff, rfl, hwwA, hmdA, hwmA, (zNA_n (by omega)).symm, hpwA, (fun q => q), hTbA, hwwB, hmdB, hwmB, (zNA_n (by omega)).symm, hpwB, (fun q => q), hTbB, hwff, (((zNF_n (c := (i1.toInt = 1 ∧ 1 < (fk 0).toInt ∧ (0 ≤ i2.toInt ∧ i2.toInt < (fk 2).toInt ∧ i2.toInt < 2) ∧ (e0f.toInt = 0 ∨ ¬ e1f.toInt = i1.toInt ∨ ¬ e2f.toInt = i2.toInt))) (by omega)).trans (zNF_n (by omega))).symm), hfw, hf3, (Or.inl ⟨rfl, by omega⟩), hFI, hFt00, hFt01, hFt10, hFt11, (Or.inl rfl)⟩)
    · have h_18 : i2.toInt = 0 := h_18
      have h_19 : 0 < (fk 2).toInt := h_19
      refine lv_astore (lv' := [(4, .ref g0), (3, .ref l0), (0, .ref xo), (1, .int i1), (2, .int i2)]) hx hb dX11_fit_17 hl (by decide) (zLvf_h rfl) (fun ls hl => ?_)
      refine lv_aload_n hx hb dX11_fit_19 rfl (lv_at hl 1 rfl) ?_
      refine lv_ifnull hx hb dX11_fit_20 ?_
      refine lv_aload hx hb dX11_fit_23 (lv_at hl 0 rfl) ?_
      refine lv_ifnonnull (tgt := 30) hx hb dX11_fit_25 (by decide) ?_
      refine lv_aload_n hx hb dX11_fit_30 rfl (lv_at hl 2 rfl) ?_
      refine z_get C G clX11 0 rfl 9 (by decide) m_fl_RX11_65 rfl dX11_fit_31 ?_
      refine zEx2 hwff ?_
      intro a1_22 a2_23 hbs9
      clear hwff
      subst hbs9
      have G : zS T A s.heap s [[zO10 xo t im mk rd po co tr wa wb_ fi cd], z0_, z1_, wg0_, wg1_, wwA, wwB, [zO3 fi e0f e1f e2f e3f e4f e5f a1_22 a2_23], [zAr T 0 a1_22 m1f r1f], [zAr T 0 a2_23 7 r2f], wt] _ _ := G.re rfl
      refine z_get C G clX3 7 rfl 0 (by decide) m_fl_RX11_109 rfl dX11_fit_34 ?_
      refine lv_if_eq (tgt := 62) hx hb dX11_fit_37 (by decide) (fun c_24 => ?_) (fun c_24 => ?_)
      · have c_24n : e0f.toInt = (0 : Int) := (fa_eq _ _).mp c_24
        refine lv_aload_n hx hb dX11_fit_62 rfl (lv_at hl 2 rfl) ?_
        refine z_get C G clX11 0 rfl 9 (by decide) m_fl_RX11_65 rfl dX11_fit_63 ?_
        refine lv_aload_n hx hb dX11_fit_66 rfl (lv_at hl 2 rfl) ?_
        refine lv_iload_n hx hb dX11_fit_67 rfl (lv_at hl 3 rfl) ?_
        refine lv_aload_n hx hb dX11_fit_68 rfl (lv_at hl 1 rfl) ?_
        have hcF : (i1.toInt = 0 ∧ 0 < (fk 0).toInt ∧ (0 ≤ i2.toInt ∧ i2.toInt < (fk 2).toInt ∧ i2.toInt < 2) ∧ (e0f.toInt = 0 ∨ ¬ e1f.toInt = i1.toInt ∨ ¬ e2f.toInt = i2.toInt)) := by omega
        have hcN : ¬ (i1.toInt = 1 ∧ 1 < (fk 0).toInt ∧ (0 ≤ i2.toInt ∧ i2.toInt < (fk 2).toInt ∧ i2.toInt < 2) ∧ (e0f.toInt = 0 ∨ ¬ e1f.toInt = i1.toInt ∨ ¬ e2f.toInt = i2.toInt)) := by omega
        have hNAm : zNA (i1.toInt = 0 ∧ 0 < (fk 0).toInt ∧ (0 ≤ i2.toInt ∧ i2.toInt < (fk 2).toInt ∧ i2.toInt < 2) ∧ (e0f.toInt = 0 ∨ ¬ e1f.toInt = i1.toInt ∨ ¬ e2f.toInt = i2.toInt)) mdA n4A (zPl cr0_ inn0_ k10_) = zMk mdA n4A (zPl cr0_ inn0_ k10_) := zNA_y hcF
        have hNAo : zNA (i1.toInt = 1 ∧ 1 < (fk 0).toInt ∧ (0 ≤ i2.toInt ∧ i2.toInt < (fk 2).toInt ∧ i2.toInt < 2) ∧ (e0f.toInt = 0 ∨ ¬ e1f.toInt = i1.toInt ∨ ¬ e2f.toInt = i2.toInt)) mdB n4B (zPl cr1_ inn1_ k11_) = n4B := zNA_n hcN
        have hn9 : zMk mdA n4A (zPl cr0_ inn0_ k10_) ≤ 131072 := zPw_le (zMk_pw hpwA)
        refine z_Vq (bc := [[zO10 xo t im mk rd po co tr wa wb_ fi cd], wwA, z0_]) (br := [z1_, wg0_, wg1_, wwB, [zO3 fi e0f e1f e2f e3f e4f e5f a1_22 a2_23], [zAr T 0 a1_22 m1f r1f], [zAr T 0 a2_23 7 r2f], wt]) (As := [.int i1, .ref l0]) (rest := [.ref fi]) C G (c_f_waysInA l T xo t im mk rd po co tr wa wb_ fi cd i1 laA mdA wyA pc_A f1A f2A f3A f4A f5A f6A n4A wwA l0 cr0_ inn0_ k10_ k20_ k30_ k40_ z0_ hwwA hz0_ hI0_ hpwA hmdA (kaOk hI0_ hLq0).1 hTbA (by omega)) (kV_RX11_235 C.2.2.2.2 (Nat.le_of_ble_eq_true rfl) (Nat.le_of_ble_eq_true rfl)) [0, 5, 1] [0, 0, 3] rfl rfl (ci := 10) (qc := (RX11, TX11, 11)) rfl rfl (List.mem_flatten.mpr ⟨_, List.mem_of_getElem? (i := 0) rfl, List.mem_cons_self⟩) rfl rfl hl.1 dX11_fit_69 (Nat.le_of_ble_eq_true rfl) (by show _ + (6 * (zMk mdA n4A (zPl cr0_ inn0_ k10_) - n4A)) ≤ 6 * (zNA (i1.toInt = 0 ∧ 0 < (fk 0).toInt ∧ (0 ≤ i2.toInt ∧ i2.toInt < (fk 2).toInt ∧ i2.toInt < 2) ∧ (e0f.toInt = 0 ∨ ¬ e1f.toInt = i1.toInt ∨ ¬ e2f.toInt = i2.toInt)) mdA n4A (zPl cr0_ inn0_ k10_) - n4A) + 6 * (zNA (i1.toInt = 1 ∧ 1 < (fk 0).toInt ∧ (0 ≤ i2.toInt ∧ i2.toInt < (fk 2).toInt ∧ i2.toInt < 2) ∧ (e0f.toInt = 0 ∨ ¬ e1f.toInt = i1.toInt ∨ ¬ e2f.toInt = i2.toInt)) mdB n4B (zPl cr1_ inn1_ k11_) - n4B) + 2 * (zNF (i1.toInt = 1 ∧ 1 < (fk 0).toInt ∧ (0 ≤ i2.toInt ∧ i2.toInt < (fk 2).toInt ∧ i2.toInt < 2) ∧ (e0f.toInt = 0 ∨ ¬ e1f.toInt = i1.toInt ∨ ¬ e2f.toInt = i2.toInt)) (zNF (i1.toInt = 0 ∧ 0 < (fk 0).toInt ∧ (0 ≤ i2.toInt ∧ i2.toInt < (fk 2).toInt ∧ i2.toInt < 2) ∧ (e0f.toInt = 0 ∨ ¬ e1f.toInt = i1.toInt ∨ ¬ e2f.toInt = i2.toInt)) m1f (zMw mdA wyA cr0_ inn0_ k10_)) (zMw mdB wyB cr1_ inn1_ k11_) - m1f); omega) (fun r_39 b1 H locs hw G => ?_)
        refine zEx9 hw ?_
        intro w2_25 m2_26 wy2_27 pc2_28 g1_29 g2_30 g4_31 g5_32 g6_33
        refine zCu6 ?_
        intro hbs9 h_34 h_35 h_36 h_37 h_38
        clear hw
        subst hbs9
        have G : zS T A s.heap s [z1_, wg0_, wg1_, wwB, [zO3 fi e0f e1f e2f e3f e4f e5f a1_22 a2_23], [zAr T 0 a1_22 m1f r1f], [zAr T 0 a2_23 7 r2f], wt, [zO10 xo t im mk rd po co tr wa wb_ fi cd], w2_25, z0_] _ _ := G
        subst h_34
        have hwy9 : 0 ≤ wy2_27.toInt ∧ wy2_27.toInt ≤ 16384 := by have q9 := zWy_in (inn := inn0_) hI0_; rw [h_36]; exact ⟨by omega, q9.2⟩
        have hmw9 : wy2_27 = (zMw mdA wyA cr0_ inn0_ k10_) := by unfold zMw; by_cases q9 : mdA = 0 <;> first | (rw [if_pos q9]; exact h_36) | (rw [if_neg q9]; exact h_36.trans ((hTbA.resolve_left q9).1).symm)
        have hNF : zNF (i1.toInt = 1 ∧ 1 < (fk 0).toInt ∧ (0 ≤ i2.toInt ∧ i2.toInt < (fk 2).toInt ∧ i2.toInt < 2) ∧ (e0f.toInt = 0 ∨ ¬ e1f.toInt = i1.toInt ∨ ¬ e2f.toInt = i2.toInt)) (zNF (i1.toInt = 0 ∧ 0 < (fk 0).toInt ∧ (0 ≤ i2.toInt ∧ i2.toInt < (fk 2).toInt ∧ i2.toInt < 2) ∧ (e0f.toInt = 0 ∨ ¬ e1f.toInt = i1.toInt ∨ ¬ e2f.toInt = i2.toInt)) m1f (zMw mdA wyA cr0_ inn0_ k10_)) (zMw mdB wyB cr1_ inn1_ k11_) = zFl m1f wy2_27 := by rw [zNF_n (c := (i1.toInt = 1 ∧ 1 < (fk 0).toInt ∧ (0 ≤ i2.toInt ∧ i2.toInt < (fk 2).toInt ∧ i2.toInt < 2) ∧ (e0f.toInt = 0 ∨ ¬ e1f.toInt = i1.toInt ∨ ¬ e2f.toInt = i2.toInt))) hcN, zNF_y hcF, hmw9]
        have hfw9 := zFl_pw (wy := wy2_27) hfw
        refine lv_aload hx hb dX11_fit_72 (lv_at hl 0 rfl) ?_
        have hw_40 : bFit T fi e0f e1f e2f e3f e4f e5f r1f m1f r2f [zO3 fi e0f e1f e2f e3f e4f e5f a1_22 a2_23, zAr T 0 a1_22 m1f r1f, zAr T 0 a2_23 7 r2f] := ⟨a1_22, a2_23, rfl⟩
        have G : zS T A s.heap s [z1_, wg0_, wg1_, wwB, [zO3 fi e0f e1f e2f e3f e4f e5f a1_22 a2_23, zAr T 0 a1_22 m1f r1f, zAr T 0 a2_23 7 r2f], wt, [zO10 xo t im mk rd po co tr wa wb_ fi cd], w2_25, z0_] _ _ := G.re rfl
        refine z_Vv (bc := [[zO3 fi e0f e1f e2f e3f e4f e5f a1_22 a2_23, zAr T 0 a1_22 m1f r1f, zAr T 0 a2_23 7 r2f], w2_25, z0_, wg0_]) (br := [z1_, wg1_, wwB, wt, [zO10 xo t im mk rd po co tr wa wb_ fi cd]]) (As := [.ref wa, .ref g0]) (rest := []) C G (c_e_find l T fi e0f e1f e2f e3f e4f e5f r1f m1f r2f ([zO3 fi e0f e1f e2f e3f e4f e5f a1_22 a2_23, zAr T 0 a1_22 m1f r1f, zAr T 0 a2_23 7 r2f]) wa l0 m2_26 wy2_27 pc2_28 g1_29 g2_30 f3A g4_31 g5_32 g6_33 (zMk mdA n4A (zPl cr0_ inn0_ k10_)) w2_25 cr0_ inn0_ k10_ k20_ k30_ k40_ z0_ g0 gg0_ q10_ q20_ wg0_ hw_40 h_35 hz0_ hg0_ hn9 hI0_ h_38 hLq0 hfw hGg0) (kV_RX11_298 C.2.2.2.2 (Nat.le_of_ble_eq_true rfl) (Nat.le_of_ble_eq_true rfl)) [4, 7, 8, 1] [1, 2, 2, 0] rfl rfl (ci := 3) (qc := (RX3, TX3, 8)) rfl rfl (List.mem_flatten.mpr ⟨_, List.mem_of_getElem? (i := 0) rfl, (bFit_mem hw_40).choose_spec⟩) rfl rfl hl.1 dX11_fit_74 (Nat.le_of_ble_eq_true rfl) (by show _ + (2 * (zFl m1f wy2_27 - m1f)) ≤ 6 * (zNA (i1.toInt = 0 ∧ 0 < (fk 0).toInt ∧ (0 ≤ i2.toInt ∧ i2.toInt < (fk 2).toInt ∧ i2.toInt < 2) ∧ (e0f.toInt = 0 ∨ ¬ e1f.toInt = i1.toInt ∨ ¬ e2f.toInt = i2.toInt)) mdA n4A (zPl cr0_ inn0_ k10_) - n4A) + 6 * (zNA (i1.toInt = 1 ∧ 1 < (fk 0).toInt ∧ (0 ≤ i2.toInt ∧ i2.toInt < (fk 2).toInt ∧ i2.toInt < 2) ∧ (e0f.toInt = 0 ∨ ¬ e1f.toInt = i1.toInt ∨ ¬ e2f.toInt = i2.toInt)) mdB n4B (zPl cr1_ inn1_ k11_) - n4B) + 2 * (zNF (i1.toInt = 1 ∧ 1 < (fk 0).toInt ∧ (0 ≤ i2.toInt ∧ i2.toInt < (fk 2).toInt ∧ i2.toInt < 2) ∧ (e0f.toInt = 0 ∨ ¬ e1f.toInt = i1.toInt ∨ ¬ e2f.toInt = i2.toInt)) (zNF (i1.toInt = 0 ∧ 0 < (fk 0).toInt ∧ (0 ≤ i2.toInt ∧ i2.toInt < (fk 2).toInt ∧ i2.toInt < 2) ∧ (e0f.toInt = 0 ∨ ¬ e1f.toInt = i1.toInt ∨ ¬ e2f.toInt = i2.toInt)) m1f (zMw mdA wyA cr0_ inn0_ k10_)) (zMw mdB wyB cr1_ inn1_ k11_) - m1f); omega) (fun b1 H locs hw G => ?_)
        refine zEx5 hw ?_
        intro w2_41 s3_42 s4_43 s5_44 g1_45
        refine zCu7 ?_
        intro hbs9 h_46 h_47 h_48 h_49 h_50 h_51
        clear hw
        subst hbs9
        have G : zS T A s.heap s [z1_, wg1_, wwB, wt, [zO10 xo t im mk rd po co tr wa wb_ fi cd], w2_41, w2_25, z0_, wg0_] _ _ := G
        have h39 : 0 ≤ (nI s3_42).toInt := by rw [nI_toInt (by omega)]; omega
        have hft9 : gFt (fun w => gF (aW cr0_ inn0_ k10_) k20_ cr0_ inn0_ q10_ q20_ w gg0_.toInt.toNat) (aPr (aW cr0_ inn0_ k10_) 7) (nI s3_42) s4_43 s5_44 g1_45 (zFl m1f wy2_27) := ⟨congrArg nI h_47, h_48.1, h_48.2, h_49, by rw [← h_47]; exact h_51⟩
        refine lv_aload_n hx hb dX11_fit_77 rfl (lv_at hl 2 rfl) ?_
        refine z_get C G clX11 4 rfl 9 (by decide) m_fl_RX11_65 rfl dX11_fit_78 ?_
        refine lv_iload_n hx hb dX11_fit_81 rfl (lv_at hl 3 rfl) ?_
        refine zEx2 h_46 ?_
        intro a1_53 a2_54 hbs9
        clear h_46
        subst hbs9
        have G : zS T A s.heap s [z1_, wg1_, wwB, wt, [zO10 xo t im mk rd po co tr wa wb_ fi cd], [zO3 fi e0f e1f e2f (nI s3_42) s4_43 s5_44 a1_53 a2_54], [zAr T 0 a1_53 (zFl m1f wy2_27) g1_45], [zAr T 0 a2_54 7 r2f], w2_25, z0_, wg0_] _ _ := G.re rfl
        refine z_put C G clX3 5 rfl 1 (by decide) m_fl_RX11_292 rfl rfl rfl (Nat.le_of_ble_eq_true rfl) dX11_fit_82 (fun H locs G => ?_)
        have G : zS T A s.heap s [z1_, wg1_, wwB, wt, [zO10 xo t im mk rd po co tr wa wb_ fi cd], [zO3 fi e0f i1 e2f (nI s3_42) s4_43 s5_44 a1_53 a2_54], [zAr T 0 a1_53 (zFl m1f wy2_27) g1_45], [zAr T 0 a2_54 7 r2f], w2_25, z0_, wg0_] _ _ := G
        refine lv_aload_n hx hb dX11_fit_85 rfl (lv_at hl 2 rfl) ?_
        refine z_get C G clX11 4 rfl 9 (by decide) m_fl_RX11_65 rfl dX11_fit_86 ?_
        refine lv_iload_n hx hb dX11_fit_89 rfl (lv_at hl 4 rfl) ?_
        refine z_put C G clX3 5 rfl 2 (by decide) m_fl_RX11_295 rfl rfl rfl (Nat.le_of_ble_eq_true rfl) dX11_fit_90 (fun H locs G => ?_)
        have G : zS T A s.heap s [z1_, wg1_, wwB, wt, [zO10 xo t im mk rd po co tr wa wb_ fi cd], [zO3 fi e0f i1 i2 (nI s3_42) s4_43 s5_44 a1_53 a2_54], [zAr T 0 a1_53 (zFl m1f wy2_27) g1_45], [zAr T 0 a2_54 7 r2f], w2_25, z0_, wg0_] _ _ := G
        refine lv_aload_n hx hb dX11_fit_93 rfl (lv_at hl 2 rfl) ?_
        refine z_get C G clX11 4 rfl 9 (by decide) m_fl_RX11_65 rfl dX11_fit_94 ?_
        refine lv_iconst (v := 1) hx hb dX11_fit_97 (by decide) ?_
        refine z_put C G clX3 5 rfl 0 (by decide) m_fl_RX11_109 rfl rfl rfl (Nat.le_of_ble_eq_true rfl) dX11_fit_98 (fun H locs G => ?_)
        have G : zS T A s.heap s [z1_, wg1_, wwB, wt, [zO10 xo t im mk rd po co tr wa wb_ fi cd], [zO3 fi 1 i1 i2 (nI s3_42) s4_43 s5_44 a1_53 a2_54], [zAr T 0 a1_53 (zFl m1f wy2_27) g1_45], [zAr T 0 a2_54 7 r2f], w2_25, z0_, wg0_] _ _ := G
        refine lv_iconst (v := 1) hx hb dX11_fit_101 (by decide) ?_
        have hw_55 : bFit T fi 1 i1 i2 (nI s3_42) s4_43 s5_44 g1_45 (zFl m1f wy2_27) r2f [zO3 fi 1 i1 i2 (nI s3_42) s4_43 s5_44 a1_53 a2_54, zAr T 0 a1_53 (zFl m1f wy2_27) g1_45, zAr T 0 a2_54 7 r2f] := ⟨a1_53, a2_54, rfl⟩
        have G : zS T A s.heap s [z1_, wg1_, wwB, wt, [zO10 xo t im mk rd po co tr wa wb_ fi cd], [zO3 fi 1 i1 i2 (nI s3_42) s4_43 s5_44 a1_53 a2_54, zAr T 0 a1_53 (zFl m1f wy2_27) g1_45, zAr T 0 a2_54 7 r2f], w2_25, z0_, wg0_] _ _ := G.re rfl
        have G := G.sub (bs' := [[zO10 xo t im mk rd po co tr wa wb_ fi cd], wt, z0_, z1_, wg0_, wg1_, w2_25, wwB, [zO3 fi 1 i1 i2 (nI s3_42) s4_43 s5_44 a1_53 a2_54, zAr T 0 a1_53 (zFl m1f wy2_27) g1_45, zAr T 0 a2_54 7 r2f]]) [4, 3, 7, 0, 8, 1, 6, 2, 5] rfl
        exact z_back hQz_ (z_zret C hr hlocks G (Nat.le_of_ble_eq_true rfl) (by omega) dX11_fit_102 rfl ⟨l0, m2_26, wy2_27, pc2_28, g1_29, g2_30, f3A, g4_31, g5_32, g6_33, (zMk mdA n4A (zPl cr0_ inn0_ k10_)), w2_25, laB, mdB, wyB, pc_B, f1B, f2B, f3B, f4B, f5B, f6B, n4B, wwB, 1, i1, i2, (nI s3_42), s4_43, s5_44, g1_45, (zFl m1f wy2_27), r2f, ([zO3 fi 1 i1 i2 (nI s3_42) s4_43 s5_44 a1_53 a2_54, zAr T 0 a1_53 (zFl m1f wy2_27) g1_45, zAr T 0 a2_54 7 r2f]), rfl, h_35, (Or.inr rfl), hwy9, hNAm.symm, (zMk_pw hpwA), (fun _ => h_37), (Or.inr h_38), hwwB, hmdB, hwmB, (zNA_n (by omega)).symm, hpwB, (fun q => q), hTbB, hw_55, hNF.symm, hfw9, h39, (Or.inr ⟨rfl, by omega, by decide, rfl⟩), (fun _ => Or.inl ⟨by omega, h_37⟩), (fun _ _ _ => hft9), (fun _ y1 y2 => by exfalso; omega), (fun _ y1 y2 => by exfalso; omega), (fun _ y1 y2 => by exfalso; omega), (Or.inr rfl)⟩)
      · have c_24n : ¬ e0f.toInt = (0 : Int) := fun q => c_24 ((fa_eq _ _).mpr q)
        refine lv_aload_n hx hb dX11_fit_40 rfl (lv_at hl 2 rfl) ?_
        refine z_get C G clX11 0 rfl 9 (by decide) m_fl_RX11_65 rfl dX11_fit_41 ?_
        refine z_get C G clX3 7 rfl 1 (by decide) m_fl_RX11_292 rfl dX11_fit_44 ?_
        refine lv_iload_n hx hb dX11_fit_47 rfl (lv_at hl 3 rfl) ?_
        refine lv_icmp_ne (tgt := 62) hx hb dX11_fit_48 (by decide) (fun c_56 => ?_) (fun c_56 => ?_)
        · have c_56n : ¬ e1f.toInt = i1.toInt := fun q => c_56 ((fa_eq _ _).mpr q)
          refine lv_aload_n hx hb dX11_fit_62 rfl (lv_at hl 2 rfl) ?_
          refine z_get C G clX11 0 rfl 9 (by decide) m_fl_RX11_65 rfl dX11_fit_63 ?_
          refine lv_aload_n hx hb dX11_fit_66 rfl (lv_at hl 2 rfl) ?_
          refine lv_iload_n hx hb dX11_fit_67 rfl (lv_at hl 3 rfl) ?_
          refine lv_aload_n hx hb dX11_fit_68 rfl (lv_at hl 1 rfl) ?_
          have hcF : (i1.toInt = 0 ∧ 0 < (fk 0).toInt ∧ (0 ≤ i2.toInt ∧ i2.toInt < (fk 2).toInt ∧ i2.toInt < 2) ∧ (e0f.toInt = 0 ∨ ¬ e1f.toInt = i1.toInt ∨ ¬ e2f.toInt = i2.toInt)) := by omega
          have hcN : ¬ (i1.toInt = 1 ∧ 1 < (fk 0).toInt ∧ (0 ≤ i2.toInt ∧ i2.toInt < (fk 2).toInt ∧ i2.toInt < 2) ∧ (e0f.toInt = 0 ∨ ¬ e1f.toInt = i1.toInt ∨ ¬ e2f.toInt = i2.toInt)) := by omega
          have hNAm : zNA (i1.toInt = 0 ∧ 0 < (fk 0).toInt ∧ (0 ≤ i2.toInt ∧ i2.toInt < (fk 2).toInt ∧ i2.toInt < 2) ∧ (e0f.toInt = 0 ∨ ¬ e1f.toInt = i1.toInt ∨ ¬ e2f.toInt = i2.toInt)) mdA n4A (zPl cr0_ inn0_ k10_) = zMk mdA n4A (zPl cr0_ inn0_ k10_) := zNA_y hcF
          have hNAo : zNA (i1.toInt = 1 ∧ 1 < (fk 0).toInt ∧ (0 ≤ i2.toInt ∧ i2.toInt < (fk 2).toInt ∧ i2.toInt < 2) ∧ (e0f.toInt = 0 ∨ ¬ e1f.toInt = i1.toInt ∨ ¬ e2f.toInt = i2.toInt)) mdB n4B (zPl cr1_ inn1_ k11_) = n4B := zNA_n hcN
          have hn9 : zMk mdA n4A (zPl cr0_ inn0_ k10_) ≤ 131072 := zPw_le (zMk_pw hpwA)
          refine z_Vq (bc := [[zO10 xo t im mk rd po co tr wa wb_ fi cd], wwA, z0_]) (br := [z1_, wg0_, wg1_, wwB, [zO3 fi e0f e1f e2f e3f e4f e5f a1_22 a2_23], [zAr T 0 a1_22 m1f r1f], [zAr T 0 a2_23 7 r2f], wt]) (As := [.int i1, .ref l0]) (rest := [.ref fi]) C G (c_f_waysInA l T xo t im mk rd po co tr wa wb_ fi cd i1 laA mdA wyA pc_A f1A f2A f3A f4A f5A f6A n4A wwA l0 cr0_ inn0_ k10_ k20_ k30_ k40_ z0_ hwwA hz0_ hI0_ hpwA hmdA (kaOk hI0_ hLq0).1 hTbA (by omega)) (kV_RX11_235 C.2.2.2.2 (Nat.le_of_ble_eq_true rfl) (Nat.le_of_ble_eq_true rfl)) [0, 5, 1] [0, 0, 3] rfl rfl (ci := 10) (qc := (RX11, TX11, 11)) rfl rfl (List.mem_flatten.mpr ⟨_, List.mem_of_getElem? (i := 0) rfl, List.mem_cons_self⟩) rfl rfl hl.1 dX11_fit_69 (Nat.le_of_ble_eq_true rfl) (by show _ + (6 * (zMk mdA n4A (zPl cr0_ inn0_ k10_) - n4A)) ≤ 6 * (zNA (i1.toInt = 0 ∧ 0 < (fk 0).toInt ∧ (0 ≤ i2.toInt ∧ i2.toInt < (fk 2).toInt ∧ i2.toInt < 2) ∧ (e0f.toInt = 0 ∨ ¬ e1f.toInt = i1.toInt ∨ ¬ e2f.toInt = i2.toInt)) mdA n4A (zPl cr0_ inn0_ k10_) - n4A) + 6 * (zNA (i1.toInt = 1 ∧ 1 < (fk 0).toInt ∧ (0 ≤ i2.toInt ∧ i2.toInt < (fk 2).toInt ∧ i2.toInt < 2) ∧ (e0f.toInt = 0 ∨ ¬ e1f.toInt = i1.toInt ∨ ¬ e2f.toInt = i2.toInt)) mdB n4B (zPl cr1_ inn1_ k11_) - n4B) + 2 * (zNF (i1.toInt = 1 ∧ 1 < (fk 0).toInt ∧ (0 ≤ i2.toInt ∧ i2.toInt < (fk 2).toInt ∧ i2.toInt < 2) ∧ (e0f.toInt = 0 ∨ ¬ e1f.toInt = i1.toInt ∨ ¬ e2f.toInt = i2.toInt)) (zNF (i1.toInt = 0 ∧ 0 < (fk 0).toInt ∧ (0 ≤ i2.toInt ∧ i2.toInt < (fk 2).toInt ∧ i2.toInt < 2) ∧ (e0f.toInt = 0 ∨ ¬ e1f.toInt = i1.toInt ∨ ¬ e2f.toInt = i2.toInt)) m1f (zMw mdA wyA cr0_ inn0_ k10_)) (zMw mdB wyB cr1_ inn1_ k11_) - m1f); omega) (fun r_71 b1 H locs hw G => ?_)
          refine zEx9 hw ?_
          intro w2_57 m2_58 wy2_59 pc2_60 g1_61 g2_62 g4_63 g5_64 g6_65
          refine zCu6 ?_
          intro hbs9 h_66 h_67 h_68 h_69 h_70
          clear hw
          subst hbs9
          have G : zS T A s.heap s [z1_, wg0_, wg1_, wwB, [zO3 fi e0f e1f e2f e3f e4f e5f a1_22 a2_23], [zAr T 0 a1_22 m1f r1f], [zAr T 0 a2_23 7 r2f], wt, [zO10 xo t im mk rd po co tr wa wb_ fi cd], w2_57, z0_] _ _ := G
          subst h_66
          have hwy9 : 0 ≤ wy2_59.toInt ∧ wy2_59.toInt ≤ 16384 := by have q9 := zWy_in (inn := inn0_) hI0_; rw [h_68]; exact ⟨by omega, q9.2⟩
          have hmw9 : wy2_59 = (zMw mdA wyA cr0_ inn0_ k10_) := by unfold zMw; by_cases q9 : mdA = 0 <;> first | (rw [if_pos q9]; exact h_68) | (rw [if_neg q9]; exact h_68.trans ((hTbA.resolve_left q9).1).symm)
          have hNF : zNF (i1.toInt = 1 ∧ 1 < (fk 0).toInt ∧ (0 ≤ i2.toInt ∧ i2.toInt < (fk 2).toInt ∧ i2.toInt < 2) ∧ (e0f.toInt = 0 ∨ ¬ e1f.toInt = i1.toInt ∨ ¬ e2f.toInt = i2.toInt)) (zNF (i1.toInt = 0 ∧ 0 < (fk 0).toInt ∧ (0 ≤ i2.toInt ∧ i2.toInt < (fk 2).toInt ∧ i2.toInt < 2) ∧ (e0f.toInt = 0 ∨ ¬ e1f.toInt = i1.toInt ∨ ¬ e2f.toInt = i2.toInt)) m1f (zMw mdA wyA cr0_ inn0_ k10_)) (zMw mdB wyB cr1_ inn1_ k11_) = zFl m1f wy2_59 := by rw [zNF_n (c := (i1.toInt = 1 ∧ 1 < (fk 0).toInt ∧ (0 ≤ i2.toInt ∧ i2.toInt < (fk 2).toInt ∧ i2.toInt < 2) ∧ (e0f.toInt = 0 ∨ ¬ e1f.toInt = i1.toInt ∨ ¬ e2f.toInt = i2.toInt))) hcN, zNF_y hcF, hmw9]
          have hfw9 := zFl_pw (wy := wy2_59) hfw
          refine lv_aload hx hb dX11_fit_72 (lv_at hl 0 rfl) ?_
          have hw_72 : bFit T fi e0f e1f e2f e3f e4f e5f r1f m1f r2f [zO3 fi e0f e1f e2f e3f e4f e5f a1_22 a2_23, zAr T 0 a1_22 m1f r1f, zAr T 0 a2_23 7 r2f] := ⟨a1_22, a2_23, rfl⟩
          have G : zS T A s.heap s [z1_, wg0_, wg1_, wwB, [zO3 fi e0f e1f e2f e3f e4f e5f a1_22 a2_23, zAr T 0 a1_22 m1f r1f, zAr T 0 a2_23 7 r2f], wt, [zO10 xo t im mk rd po co tr wa wb_ fi cd], w2_57, z0_] _ _ := G.re rfl
          refine z_Vv (bc := [[zO3 fi e0f e1f e2f e3f e4f e5f a1_22 a2_23, zAr T 0 a1_22 m1f r1f, zAr T 0 a2_23 7 r2f], w2_57, z0_, wg0_]) (br := [z1_, wg1_, wwB, wt, [zO10 xo t im mk rd po co tr wa wb_ fi cd]]) (As := [.ref wa, .ref g0]) (rest := []) C G (c_e_find l T fi e0f e1f e2f e3f e4f e5f r1f m1f r2f ([zO3 fi e0f e1f e2f e3f e4f e5f a1_22 a2_23, zAr T 0 a1_22 m1f r1f, zAr T 0 a2_23 7 r2f]) wa l0 m2_58 wy2_59 pc2_60 g1_61 g2_62 f3A g4_63 g5_64 g6_65 (zMk mdA n4A (zPl cr0_ inn0_ k10_)) w2_57 cr0_ inn0_ k10_ k20_ k30_ k40_ z0_ g0 gg0_ q10_ q20_ wg0_ hw_72 h_67 hz0_ hg0_ hn9 hI0_ h_70 hLq0 hfw hGg0) (kV_RX11_298 C.2.2.2.2 (Nat.le_of_ble_eq_true rfl) (Nat.le_of_ble_eq_true rfl)) [4, 7, 8, 1] [1, 2, 2, 0] rfl rfl (ci := 3) (qc := (RX3, TX3, 8)) rfl rfl (List.mem_flatten.mpr ⟨_, List.mem_of_getElem? (i := 0) rfl, (bFit_mem hw_72).choose_spec⟩) rfl rfl hl.1 dX11_fit_74 (Nat.le_of_ble_eq_true rfl) (by show _ + (2 * (zFl m1f wy2_59 - m1f)) ≤ 6 * (zNA (i1.toInt = 0 ∧ 0 < (fk 0).toInt ∧ (0 ≤ i2.toInt ∧ i2.toInt < (fk 2).toInt ∧ i2.toInt < 2) ∧ (e0f.toInt = 0 ∨ ¬ e1f.toInt = i1.toInt ∨ ¬ e2f.toInt = i2.toInt)) mdA n4A (zPl cr0_ inn0_ k10_) - n4A) + 6 * (zNA (i1.toInt = 1 ∧ 1 < (fk 0).toInt ∧ (0 ≤ i2.toInt ∧ i2.toInt < (fk 2).toInt ∧ i2.toInt < 2) ∧ (e0f.toInt = 0 ∨ ¬ e1f.toInt = i1.toInt ∨ ¬ e2f.toInt = i2.toInt)) mdB n4B (zPl cr1_ inn1_ k11_) - n4B) + 2 * (zNF (i1.toInt = 1 ∧ 1 < (fk 0).toInt ∧ (0 ≤ i2.toInt ∧ i2.toInt < (fk 2).toInt ∧ i2.toInt < 2) ∧ (e0f.toInt = 0 ∨ ¬ e1f.toInt = i1.toInt ∨ ¬ e2f.toInt = i2.toInt)) (zNF (i1.toInt = 0 ∧ 0 < (fk 0).toInt ∧ (0 ≤ i2.toInt ∧ i2.toInt < (fk 2).toInt ∧ i2.toInt < 2) ∧ (e0f.toInt = 0 ∨ ¬ e1f.toInt = i1.toInt ∨ ¬ e2f.toInt = i2.toInt)) m1f (zMw mdA wyA cr0_ inn0_ k10_)) (zMw mdB wyB cr1_ inn1_ k11_) - m1f); omega) (fun b1 H locs hw G => ?_)
          refine zEx5 hw ?_
          intro w2_73 s3_74 s4_75 s5_76 g1_77
          refine zCu7 ?_
          intro hbs9 h_78 h_79 h_80 h_81 h_82 h_83
          clear hw
          subst hbs9
          have G : zS T A s.heap s [z1_, wg1_, wwB, wt, [zO10 xo t im mk rd po co tr wa wb_ fi cd], w2_73, w2_57, z0_, wg0_] _ _ := G
          have h39 : 0 ≤ (nI s3_74).toInt := by rw [nI_toInt (by omega)]; omega
          have hft9 : gFt (fun w => gF (aW cr0_ inn0_ k10_) k20_ cr0_ inn0_ q10_ q20_ w gg0_.toInt.toNat) (aPr (aW cr0_ inn0_ k10_) 7) (nI s3_74) s4_75 s5_76 g1_77 (zFl m1f wy2_59) := ⟨congrArg nI h_79, h_80.1, h_80.2, h_81, by rw [← h_79]; exact h_83⟩
          refine lv_aload_n hx hb dX11_fit_77 rfl (lv_at hl 2 rfl) ?_
          refine z_get C G clX11 4 rfl 9 (by decide) m_fl_RX11_65 rfl dX11_fit_78 ?_
          refine lv_iload_n hx hb dX11_fit_81 rfl (lv_at hl 3 rfl) ?_
          refine zEx2 h_78 ?_
          intro a1_85 a2_86 hbs9
          clear h_78
          subst hbs9
          have G : zS T A s.heap s [z1_, wg1_, wwB, wt, [zO10 xo t im mk rd po co tr wa wb_ fi cd], [zO3 fi e0f e1f e2f (nI s3_74) s4_75 s5_76 a1_85 a2_86], [zAr T 0 a1_85 (zFl m1f wy2_59) g1_77], [zAr T 0 a2_86 7 r2f], w2_57, z0_, wg0_] _ _ := G.re rfl
          refine z_put C G clX3 5 rfl 1 (by decide) m_fl_RX11_292 rfl rfl rfl (Nat.le_of_ble_eq_true rfl) dX11_fit_82 (fun H locs G => ?_)
          have G : zS T A s.heap s [z1_, wg1_, wwB, wt, [zO10 xo t im mk rd po co tr wa wb_ fi cd], [zO3 fi e0f i1 e2f (nI s3_74) s4_75 s5_76 a1_85 a2_86], [zAr T 0 a1_85 (zFl m1f wy2_59) g1_77], [zAr T 0 a2_86 7 r2f], w2_57, z0_, wg0_] _ _ := G
          refine lv_aload_n hx hb dX11_fit_85 rfl (lv_at hl 2 rfl) ?_
          refine z_get C G clX11 4 rfl 9 (by decide) m_fl_RX11_65 rfl dX11_fit_86 ?_
          refine lv_iload_n hx hb dX11_fit_89 rfl (lv_at hl 4 rfl) ?_
          refine z_put C G clX3 5 rfl 2 (by decide) m_fl_RX11_295 rfl rfl rfl (Nat.le_of_ble_eq_true rfl) dX11_fit_90 (fun H locs G => ?_)
          have G : zS T A s.heap s [z1_, wg1_, wwB, wt, [zO10 xo t im mk rd po co tr wa wb_ fi cd], [zO3 fi e0f i1 i2 (nI s3_74) s4_75 s5_76 a1_85 a2_86], [zAr T 0 a1_85 (zFl m1f wy2_59) g1_77], [zAr T 0 a2_86 7 r2f], w2_57, z0_, wg0_] _ _ := G
          refine lv_aload_n hx hb dX11_fit_93 rfl (lv_at hl 2 rfl) ?_
          refine z_get C G clX11 4 rfl 9 (by decide) m_fl_RX11_65 rfl dX11_fit_94 ?_
          refine lv_iconst (v := 1) hx hb dX11_fit_97 (by decide) ?_
          refine z_put C G clX3 5 rfl 0 (by decide) m_fl_RX11_109 rfl rfl rfl (Nat.le_of_ble_eq_true rfl) dX11_fit_98 (fun H locs G => ?_)
          have G : zS T A s.heap s [z1_, wg1_, wwB, wt, [zO10 xo t im mk rd po co tr wa wb_ fi cd], [zO3 fi 1 i1 i2 (nI s3_74) s4_75 s5_76 a1_85 a2_86], [zAr T 0 a1_85 (zFl m1f wy2_59) g1_77], [zAr T 0 a2_86 7 r2f], w2_57, z0_, wg0_] _ _ := G
          refine lv_iconst (v := 1) hx hb dX11_fit_101 (by decide) ?_
          have hw_87 : bFit T fi 1 i1 i2 (nI s3_74) s4_75 s5_76 g1_77 (zFl m1f wy2_59) r2f [zO3 fi 1 i1 i2 (nI s3_74) s4_75 s5_76 a1_85 a2_86, zAr T 0 a1_85 (zFl m1f wy2_59) g1_77, zAr T 0 a2_86 7 r2f] := ⟨a1_85, a2_86, rfl⟩
          have G : zS T A s.heap s [z1_, wg1_, wwB, wt, [zO10 xo t im mk rd po co tr wa wb_ fi cd], [zO3 fi 1 i1 i2 (nI s3_74) s4_75 s5_76 a1_85 a2_86, zAr T 0 a1_85 (zFl m1f wy2_59) g1_77, zAr T 0 a2_86 7 r2f], w2_57, z0_, wg0_] _ _ := G.re rfl
          have G := G.sub (bs' := [[zO10 xo t im mk rd po co tr wa wb_ fi cd], wt, z0_, z1_, wg0_, wg1_, w2_57, wwB, [zO3 fi 1 i1 i2 (nI s3_74) s4_75 s5_76 a1_85 a2_86, zAr T 0 a1_85 (zFl m1f wy2_59) g1_77, zAr T 0 a2_86 7 r2f]]) [4, 3, 7, 0, 8, 1, 6, 2, 5] rfl
          exact z_back hQz_ (z_zret C hr hlocks G (Nat.le_of_ble_eq_true rfl) (by omega) dX11_fit_102 rfl ⟨l0, m2_58, wy2_59, pc2_60, g1_61, g2_62, f3A, g4_63, g5_64, g6_65, (zMk mdA n4A (zPl cr0_ inn0_ k10_)), w2_57, laB, mdB, wyB, pc_B, f1B, f2B, f3B, f4B, f5B, f6B, n4B, wwB, 1, i1, i2, (nI s3_74), s4_75, s5_76, g1_77, (zFl m1f wy2_59), r2f, ([zO3 fi 1 i1 i2 (nI s3_74) s4_75 s5_76 a1_85 a2_86, zAr T 0 a1_85 (zFl m1f wy2_59) g1_77, zAr T 0 a2_86 7 r2f]), rfl, h_67, (Or.inr rfl), hwy9, hNAm.symm, (zMk_pw hpwA), (fun _ => h_69), (Or.inr h_70), hwwB, hmdB, hwmB, (zNA_n (by omega)).symm, hpwB, (fun q => q), hTbB, hw_87, hNF.symm, hfw9, h39, (Or.inr ⟨rfl, by omega, by decide, rfl⟩), (fun _ => Or.inl ⟨by omega, h_69⟩), (fun _ _ _ => hft9), (fun _ y1 y2 => by exfalso; omega), (fun _ y1 y2 => by exfalso; omega), (fun _ y1 y2 => by exfalso; omega), (Or.inr rfl)⟩)
        · have c_56n : e1f.toInt = i1.toInt := (fa_eq _ _).mp c_56
          refine lv_aload_n hx hb dX11_fit_51 rfl (lv_at hl 2 rfl) ?_
          refine z_get C G clX11 0 rfl 9 (by decide) m_fl_RX11_65 rfl dX11_fit_52 ?_
          refine z_get C G clX3 7 rfl 2 (by decide) m_fl_RX11_295 rfl dX11_fit_55 ?_
          refine lv_iload_n hx hb dX11_fit_58 rfl (lv_at hl 4 rfl) ?_
          refine lv_icmp_eq (tgt := 101) hx hb dX11_fit_59 (by decide) (fun c_88 => ?_) (fun c_88 => ?_)
          · have c_88n : e2f.toInt = i2.toInt := (fa_eq _ _).mp c_88
            refine lv_iconst (v := 1) hx hb dX11_fit_101 (by decide) ?_
            have hw_89 : bFit T fi e0f e1f e2f e3f e4f e5f r1f m1f r2f [zO3 fi e0f e1f e2f e3f e4f e5f a1_22 a2_23, zAr T 0 a1_22 m1f r1f, zAr T 0 a2_23 7 r2f] := ⟨a1_22, a2_23, rfl⟩
            have G : zS T A s.heap s [[zO10 xo t im mk rd po co tr wa wb_ fi cd], z0_, z1_, wg0_, wg1_, wwA, wwB, [zO3 fi e0f e1f e2f e3f e4f e5f a1_22 a2_23, zAr T 0 a1_22 m1f r1f, zAr T 0 a2_23 7 r2f], wt] _ _ := G.re rfl
            have G := G.sub (bs' := [[zO10 xo t im mk rd po co tr wa wb_ fi cd], wt, z0_, z1_, wg0_, wg1_, wwA, wwB, [zO3 fi e0f e1f e2f e3f e4f e5f a1_22 a2_23, zAr T 0 a1_22 m1f r1f, zAr T 0 a2_23 7 r2f]]) [0, 8, 1, 2, 3, 4, 5, 6, 7] rfl
            exact z_back hQz_ (z_zret C hr hlocks G (Nat.le_of_ble_eq_true rfl) (by omega) dX11_fit_102 rfl ⟨laA, mdA, wyA, pc_A, f1A, f2A, f3A, f4A, f5A, f6A, n4A, wwA, laB, mdB, wyB, pc_B, f1B, f2B, f3B, f4B, f5B, f6B, n4B, wwB, e0f, e1f, e2f, e3f, e4f, e5f, r1f, m1f, r2f, ([zO3 fi e0f e1f e2f e3f e4f e5f a1_22 a2_23, zAr T 0 a1_22 m1f r1f, zAr T 0 a2_23 7 r2f]), rfl, hwwA, hmdA, hwmA, (zNA_n (by omega)).symm, hpwA, (fun q => q), hTbA, hwwB, hmdB, hwmB, (zNA_n (by omega)).symm, hpwB, (fun q => q), hTbB, hw_89, (((zNF_n (c := (i1.toInt = 1 ∧ 1 < (fk 0).toInt ∧ (0 ≤ i2.toInt ∧ i2.toInt < (fk 2).toInt ∧ i2.toInt < 2) ∧ (e0f.toInt = 0 ∨ ¬ e1f.toInt = i1.toInt ∨ ¬ e2f.toInt = i2.toInt))) (by omega)).trans (zNF_n (by omega))).symm), hfw, hf3, (Or.inr ⟨rfl, by omega, (fun q => absurd (congrArg Int32.toInt q) (by show ¬ _ = (0 : Int); omega)), by omega⟩), hFI, hFt00, hFt01, hFt10, hFt11, (Or.inr (by omega))⟩)
          · have c_88n : ¬ e2f.toInt = i2.toInt := fun q => c_88 ((fa_eq _ _).mpr q)
            refine lv_aload_n hx hb dX11_fit_62 rfl (lv_at hl 2 rfl) ?_
            refine z_get C G clX11 0 rfl 9 (by decide) m_fl_RX11_65 rfl dX11_fit_63 ?_
            refine lv_aload_n hx hb dX11_fit_66 rfl (lv_at hl 2 rfl) ?_
            refine lv_iload_n hx hb dX11_fit_67 rfl (lv_at hl 3 rfl) ?_
            refine lv_aload_n hx hb dX11_fit_68 rfl (lv_at hl 1 rfl) ?_
            have hcF : (i1.toInt = 0 ∧ 0 < (fk 0).toInt ∧ (0 ≤ i2.toInt ∧ i2.toInt < (fk 2).toInt ∧ i2.toInt < 2) ∧ (e0f.toInt = 0 ∨ ¬ e1f.toInt = i1.toInt ∨ ¬ e2f.toInt = i2.toInt)) := by omega
            have hcN : ¬ (i1.toInt = 1 ∧ 1 < (fk 0).toInt ∧ (0 ≤ i2.toInt ∧ i2.toInt < (fk 2).toInt ∧ i2.toInt < 2) ∧ (e0f.toInt = 0 ∨ ¬ e1f.toInt = i1.toInt ∨ ¬ e2f.toInt = i2.toInt)) := by omega
            have hNAm : zNA (i1.toInt = 0 ∧ 0 < (fk 0).toInt ∧ (0 ≤ i2.toInt ∧ i2.toInt < (fk 2).toInt ∧ i2.toInt < 2) ∧ (e0f.toInt = 0 ∨ ¬ e1f.toInt = i1.toInt ∨ ¬ e2f.toInt = i2.toInt)) mdA n4A (zPl cr0_ inn0_ k10_) = zMk mdA n4A (zPl cr0_ inn0_ k10_) := zNA_y hcF
            have hNAo : zNA (i1.toInt = 1 ∧ 1 < (fk 0).toInt ∧ (0 ≤ i2.toInt ∧ i2.toInt < (fk 2).toInt ∧ i2.toInt < 2) ∧ (e0f.toInt = 0 ∨ ¬ e1f.toInt = i1.toInt ∨ ¬ e2f.toInt = i2.toInt)) mdB n4B (zPl cr1_ inn1_ k11_) = n4B := zNA_n hcN
            have hn9 : zMk mdA n4A (zPl cr0_ inn0_ k10_) ≤ 131072 := zPw_le (zMk_pw hpwA)
            refine z_Vq (bc := [[zO10 xo t im mk rd po co tr wa wb_ fi cd], wwA, z0_]) (br := [z1_, wg0_, wg1_, wwB, [zO3 fi e0f e1f e2f e3f e4f e5f a1_22 a2_23], [zAr T 0 a1_22 m1f r1f], [zAr T 0 a2_23 7 r2f], wt]) (As := [.int i1, .ref l0]) (rest := [.ref fi]) C G (c_f_waysInA l T xo t im mk rd po co tr wa wb_ fi cd i1 laA mdA wyA pc_A f1A f2A f3A f4A f5A f6A n4A wwA l0 cr0_ inn0_ k10_ k20_ k30_ k40_ z0_ hwwA hz0_ hI0_ hpwA hmdA (kaOk hI0_ hLq0).1 hTbA (by omega)) (kV_RX11_235 C.2.2.2.2 (Nat.le_of_ble_eq_true rfl) (Nat.le_of_ble_eq_true rfl)) [0, 5, 1] [0, 0, 3] rfl rfl (ci := 10) (qc := (RX11, TX11, 11)) rfl rfl (List.mem_flatten.mpr ⟨_, List.mem_of_getElem? (i := 0) rfl, List.mem_cons_self⟩) rfl rfl hl.1 dX11_fit_69 (Nat.le_of_ble_eq_true rfl) (by show _ + (6 * (zMk mdA n4A (zPl cr0_ inn0_ k10_) - n4A)) ≤ 6 * (zNA (i1.toInt = 0 ∧ 0 < (fk 0).toInt ∧ (0 ≤ i2.toInt ∧ i2.toInt < (fk 2).toInt ∧ i2.toInt < 2) ∧ (e0f.toInt = 0 ∨ ¬ e1f.toInt = i1.toInt ∨ ¬ e2f.toInt = i2.toInt)) mdA n4A (zPl cr0_ inn0_ k10_) - n4A) + 6 * (zNA (i1.toInt = 1 ∧ 1 < (fk 0).toInt ∧ (0 ≤ i2.toInt ∧ i2.toInt < (fk 2).toInt ∧ i2.toInt < 2) ∧ (e0f.toInt = 0 ∨ ¬ e1f.toInt = i1.toInt ∨ ¬ e2f.toInt = i2.toInt)) mdB n4B (zPl cr1_ inn1_ k11_) - n4B) + 2 * (zNF (i1.toInt = 1 ∧ 1 < (fk 0).toInt ∧ (0 ≤ i2.toInt ∧ i2.toInt < (fk 2).toInt ∧ i2.toInt < 2) ∧ (e0f.toInt = 0 ∨ ¬ e1f.toInt = i1.toInt ∨ ¬ e2f.toInt = i2.toInt)) (zNF (i1.toInt = 0 ∧ 0 < (fk 0).toInt ∧ (0 ≤ i2.toInt ∧ i2.toInt < (fk 2).toInt ∧ i2.toInt < 2) ∧ (e0f.toInt = 0 ∨ ¬ e1f.toInt = i1.toInt ∨ ¬ e2f.toInt = i2.toInt)) m1f (zMw mdA wyA cr0_ inn0_ k10_)) (zMw mdB wyB cr1_ inn1_ k11_) - m1f); omega) (fun r_104 b1 H locs hw G => ?_)
            refine zEx9 hw ?_
            intro w2_90 m2_91 wy2_92 pc2_93 g1_94 g2_95 g4_96 g5_97 g6_98
            refine zCu6 ?_
            intro hbs9 h_99 h_100 h_101 h_102 h_103
            clear hw
            subst hbs9
            have G : zS T A s.heap s [z1_, wg0_, wg1_, wwB, [zO3 fi e0f e1f e2f e3f e4f e5f a1_22 a2_23], [zAr T 0 a1_22 m1f r1f], [zAr T 0 a2_23 7 r2f], wt, [zO10 xo t im mk rd po co tr wa wb_ fi cd], w2_90, z0_] _ _ := G
            subst h_99
            have hwy9 : 0 ≤ wy2_92.toInt ∧ wy2_92.toInt ≤ 16384 := by have q9 := zWy_in (inn := inn0_) hI0_; rw [h_101]; exact ⟨by omega, q9.2⟩
            have hmw9 : wy2_92 = (zMw mdA wyA cr0_ inn0_ k10_) := by unfold zMw; by_cases q9 : mdA = 0 <;> first | (rw [if_pos q9]; exact h_101) | (rw [if_neg q9]; exact h_101.trans ((hTbA.resolve_left q9).1).symm)
            have hNF : zNF (i1.toInt = 1 ∧ 1 < (fk 0).toInt ∧ (0 ≤ i2.toInt ∧ i2.toInt < (fk 2).toInt ∧ i2.toInt < 2) ∧ (e0f.toInt = 0 ∨ ¬ e1f.toInt = i1.toInt ∨ ¬ e2f.toInt = i2.toInt)) (zNF (i1.toInt = 0 ∧ 0 < (fk 0).toInt ∧ (0 ≤ i2.toInt ∧ i2.toInt < (fk 2).toInt ∧ i2.toInt < 2) ∧ (e0f.toInt = 0 ∨ ¬ e1f.toInt = i1.toInt ∨ ¬ e2f.toInt = i2.toInt)) m1f (zMw mdA wyA cr0_ inn0_ k10_)) (zMw mdB wyB cr1_ inn1_ k11_) = zFl m1f wy2_92 := by rw [zNF_n (c := (i1.toInt = 1 ∧ 1 < (fk 0).toInt ∧ (0 ≤ i2.toInt ∧ i2.toInt < (fk 2).toInt ∧ i2.toInt < 2) ∧ (e0f.toInt = 0 ∨ ¬ e1f.toInt = i1.toInt ∨ ¬ e2f.toInt = i2.toInt))) hcN, zNF_y hcF, hmw9]
            have hfw9 := zFl_pw (wy := wy2_92) hfw
            refine lv_aload hx hb dX11_fit_72 (lv_at hl 0 rfl) ?_
            have hw_105 : bFit T fi e0f e1f e2f e3f e4f e5f r1f m1f r2f [zO3 fi e0f e1f e2f e3f e4f e5f a1_22 a2_23, zAr T 0 a1_22 m1f r1f, zAr T 0 a2_23 7 r2f] := ⟨a1_22, a2_23, rfl⟩
            have G : zS T A s.heap s [z1_, wg0_, wg1_, wwB, [zO3 fi e0f e1f e2f e3f e4f e5f a1_22 a2_23, zAr T 0 a1_22 m1f r1f, zAr T 0 a2_23 7 r2f], wt, [zO10 xo t im mk rd po co tr wa wb_ fi cd], w2_90, z0_] _ _ := G.re rfl
            refine z_Vv (bc := [[zO3 fi e0f e1f e2f e3f e4f e5f a1_22 a2_23, zAr T 0 a1_22 m1f r1f, zAr T 0 a2_23 7 r2f], w2_90, z0_, wg0_]) (br := [z1_, wg1_, wwB, wt, [zO10 xo t im mk rd po co tr wa wb_ fi cd]]) (As := [.ref wa, .ref g0]) (rest := []) C G (c_e_find l T fi e0f e1f e2f e3f e4f e5f r1f m1f r2f ([zO3 fi e0f e1f e2f e3f e4f e5f a1_22 a2_23, zAr T 0 a1_22 m1f r1f, zAr T 0 a2_23 7 r2f]) wa l0 m2_91 wy2_92 pc2_93 g1_94 g2_95 f3A g4_96 g5_97 g6_98 (zMk mdA n4A (zPl cr0_ inn0_ k10_)) w2_90 cr0_ inn0_ k10_ k20_ k30_ k40_ z0_ g0 gg0_ q10_ q20_ wg0_ hw_105 h_100 hz0_ hg0_ hn9 hI0_ h_103 hLq0 hfw hGg0) (kV_RX11_298 C.2.2.2.2 (Nat.le_of_ble_eq_true rfl) (Nat.le_of_ble_eq_true rfl)) [4, 7, 8, 1] [1, 2, 2, 0] rfl rfl (ci := 3) (qc := (RX3, TX3, 8)) rfl rfl (List.mem_flatten.mpr ⟨_, List.mem_of_getElem? (i := 0) rfl, (bFit_mem hw_105).choose_spec⟩) rfl rfl hl.1 dX11_fit_74 (Nat.le_of_ble_eq_true rfl) (by show _ + (2 * (zFl m1f wy2_92 - m1f)) ≤ 6 * (zNA (i1.toInt = 0 ∧ 0 < (fk 0).toInt ∧ (0 ≤ i2.toInt ∧ i2.toInt < (fk 2).toInt ∧ i2.toInt < 2) ∧ (e0f.toInt = 0 ∨ ¬ e1f.toInt = i1.toInt ∨ ¬ e2f.toInt = i2.toInt)) mdA n4A (zPl cr0_ inn0_ k10_) - n4A) + 6 * (zNA (i1.toInt = 1 ∧ 1 < (fk 0).toInt ∧ (0 ≤ i2.toInt ∧ i2.toInt < (fk 2).toInt ∧ i2.toInt < 2) ∧ (e0f.toInt = 0 ∨ ¬ e1f.toInt = i1.toInt ∨ ¬ e2f.toInt = i2.toInt)) mdB n4B (zPl cr1_ inn1_ k11_) - n4B) + 2 * (zNF (i1.toInt = 1 ∧ 1 < (fk 0).toInt ∧ (0 ≤ i2.toInt ∧ i2.toInt < (fk 2).toInt ∧ i2.toInt < 2) ∧ (e0f.toInt = 0 ∨ ¬ e1f.toInt = i1.toInt ∨ ¬ e2f.toInt = i2.toInt)) (zNF (i1.toInt = 0 ∧ 0 < (fk 0).toInt ∧ (0 ≤ i2.toInt ∧ i2.toInt < (fk 2).toInt ∧ i2.toInt < 2) ∧ (e0f.toInt = 0 ∨ ¬ e1f.toInt = i1.toInt ∨ ¬ e2f.toInt = i2.toInt)) m1f (zMw mdA wyA cr0_ inn0_ k10_)) (zMw mdB wyB cr1_ inn1_ k11_) - m1f); omega) (fun b1 H locs hw G => ?_)
            refine zEx5 hw ?_
            intro w2_106 s3_107 s4_108 s5_109 g1_110
            refine zCu7 ?_
            intro hbs9 h_111 h_112 h_113 h_114 h_115 h_116
            clear hw
            subst hbs9
            have G : zS T A s.heap s [z1_, wg1_, wwB, wt, [zO10 xo t im mk rd po co tr wa wb_ fi cd], w2_106, w2_90, z0_, wg0_] _ _ := G
            have h39 : 0 ≤ (nI s3_107).toInt := by rw [nI_toInt (by omega)]; omega
            have hft9 : gFt (fun w => gF (aW cr0_ inn0_ k10_) k20_ cr0_ inn0_ q10_ q20_ w gg0_.toInt.toNat) (aPr (aW cr0_ inn0_ k10_) 7) (nI s3_107) s4_108 s5_109 g1_110 (zFl m1f wy2_92) := ⟨congrArg nI h_112, h_113.1, h_113.2, h_114, by rw [← h_112]; exact h_116⟩
            refine lv_aload_n hx hb dX11_fit_77 rfl (lv_at hl 2 rfl) ?_
            refine z_get C G clX11 4 rfl 9 (by decide) m_fl_RX11_65 rfl dX11_fit_78 ?_
            refine lv_iload_n hx hb dX11_fit_81 rfl (lv_at hl 3 rfl) ?_
            refine zEx2 h_111 ?_
            intro a1_118 a2_119 hbs9
            clear h_111
            subst hbs9
            have G : zS T A s.heap s [z1_, wg1_, wwB, wt, [zO10 xo t im mk rd po co tr wa wb_ fi cd], [zO3 fi e0f e1f e2f (nI s3_107) s4_108 s5_109 a1_118 a2_119], [zAr T 0 a1_118 (zFl m1f wy2_92) g1_110], [zAr T 0 a2_119 7 r2f], w2_90, z0_, wg0_] _ _ := G.re rfl
            refine z_put C G clX3 5 rfl 1 (by decide) m_fl_RX11_292 rfl rfl rfl (Nat.le_of_ble_eq_true rfl) dX11_fit_82 (fun H locs G => ?_)
            have G : zS T A s.heap s [z1_, wg1_, wwB, wt, [zO10 xo t im mk rd po co tr wa wb_ fi cd], [zO3 fi e0f i1 e2f (nI s3_107) s4_108 s5_109 a1_118 a2_119], [zAr T 0 a1_118 (zFl m1f wy2_92) g1_110], [zAr T 0 a2_119 7 r2f], w2_90, z0_, wg0_] _ _ := G
            refine lv_aload_n hx hb dX11_fit_85 rfl (lv_at hl 2 rfl) ?_
            refine z_get C G clX11 4 rfl 9 (by decide) m_fl_RX11_65 rfl dX11_fit_86 ?_
            refine lv_iload_n hx hb dX11_fit_89 rfl (lv_at hl 4 rfl) ?_
            refine z_put C G clX3 5 rfl 2 (by decide) m_fl_RX11_295 rfl rfl rfl (Nat.le_of_ble_eq_true rfl) dX11_fit_90 (fun H locs G => ?_)
            have G : zS T A s.heap s [z1_, wg1_, wwB, wt, [zO10 xo t im mk rd po co tr wa wb_ fi cd], [zO3 fi e0f i1 i2 (nI s3_107) s4_108 s5_109 a1_118 a2_119], [zAr T 0 a1_118 (zFl m1f wy2_92) g1_110], [zAr T 0 a2_119 7 r2f], w2_90, z0_, wg0_] _ _ := G
            refine lv_aload_n hx hb dX11_fit_93 rfl (lv_at hl 2 rfl) ?_
            refine z_get C G clX11 4 rfl 9 (by decide) m_fl_RX11_65 rfl dX11_fit_94 ?_
            refine lv_iconst (v := 1) hx hb dX11_fit_97 (by decide) ?_
            refine z_put C G clX3 5 rfl 0 (by decide) m_fl_RX11_109 rfl rfl rfl (Nat.le_of_ble_eq_true rfl) dX11_fit_98 (fun H locs G => ?_)
            have G : zS T A s.heap s [z1_, wg1_, wwB, wt, [zO10 xo t im mk rd po co tr wa wb_ fi cd], [zO3 fi 1 i1 i2 (nI s3_107) s4_108 s5_109 a1_118 a2_119], [zAr T 0 a1_118 (zFl m1f wy2_92) g1_110], [zAr T 0 a2_119 7 r2f], w2_90, z0_, wg0_] _ _ := G
            refine lv_iconst (v := 1) hx hb dX11_fit_101 (by decide) ?_
            have hw_120 : bFit T fi 1 i1 i2 (nI s3_107) s4_108 s5_109 g1_110 (zFl m1f wy2_92) r2f [zO3 fi 1 i1 i2 (nI s3_107) s4_108 s5_109 a1_118 a2_119, zAr T 0 a1_118 (zFl m1f wy2_92) g1_110, zAr T 0 a2_119 7 r2f] := ⟨a1_118, a2_119, rfl⟩
            have G : zS T A s.heap s [z1_, wg1_, wwB, wt, [zO10 xo t im mk rd po co tr wa wb_ fi cd], [zO3 fi 1 i1 i2 (nI s3_107) s4_108 s5_109 a1_118 a2_119, zAr T 0 a1_118 (zFl m1f wy2_92) g1_110, zAr T 0 a2_119 7 r2f], w2_90, z0_, wg0_] _ _ := G.re rfl
            have G := G.sub (bs' := [[zO10 xo t im mk rd po co tr wa wb_ fi cd], wt, z0_, z1_, wg0_, wg1_, w2_90, wwB, [zO3 fi 1 i1 i2 (nI s3_107) s4_108 s5_109 a1_118 a2_119, zAr T 0 a1_118 (zFl m1f wy2_92) g1_110, zAr T 0 a2_119 7 r2f]]) [4, 3, 7, 0, 8, 1, 6, 2, 5] rfl
            exact z_back hQz_ (z_zret C hr hlocks G (Nat.le_of_ble_eq_true rfl) (by omega) dX11_fit_102 rfl ⟨l0, m2_91, wy2_92, pc2_93, g1_94, g2_95, f3A, g4_96, g5_97, g6_98, (zMk mdA n4A (zPl cr0_ inn0_ k10_)), w2_90, laB, mdB, wyB, pc_B, f1B, f2B, f3B, f4B, f5B, f6B, n4B, wwB, 1, i1, i2, (nI s3_107), s4_108, s5_109, g1_110, (zFl m1f wy2_92), r2f, ([zO3 fi 1 i1 i2 (nI s3_107) s4_108 s5_109 a1_118 a2_119, zAr T 0 a1_118 (zFl m1f wy2_92) g1_110, zAr T 0 a2_119 7 r2f]), rfl, h_100, (Or.inr rfl), hwy9, hNAm.symm, (zMk_pw hpwA), (fun _ => h_102), (Or.inr h_103), hwwB, hmdB, hwmB, (zNA_n (by omega)).symm, hpwB, (fun q => q), hTbB, hw_120, hNF.symm, hfw9, h39, (Or.inr ⟨rfl, by omega, by decide, rfl⟩), (fun _ => Or.inl ⟨by omega, h_102⟩), (fun _ _ _ => hft9), (fun _ y1 y2 => by exfalso; omega), (fun _ y1 y2 => by exfalso; omega), (fun _ y1 y2 => by exfalso; omega), (Or.inr rfl)⟩)
    · have h_20 : i2.toInt = 1 := h_20
      have h_21 : 1 < (fk 2).toInt := h_21
      refine lv_astore (lv' := [(4, .ref g1), (3, .ref l0), (0, .ref xo), (1, .int i1), (2, .int i2)]) hx hb dX11_fit_17 hl (by decide) (zLvf_h rfl) (fun ls hl => ?_)
      refine lv_aload_n hx hb dX11_fit_19 rfl (lv_at hl 1 rfl) ?_
      refine lv_ifnull hx hb dX11_fit_20 ?_
      refine lv_aload hx hb dX11_fit_23 (lv_at hl 0 rfl) ?_
      refine lv_ifnonnull (tgt := 30) hx hb dX11_fit_25 (by decide) ?_
      refine lv_aload_n hx hb dX11_fit_30 rfl (lv_at hl 2 rfl) ?_
      refine z_get C G clX11 0 rfl 9 (by decide) m_fl_RX11_65 rfl dX11_fit_31 ?_
      refine zEx2 hwff ?_
      intro a1_121 a2_122 hbs9
      clear hwff
      subst hbs9
      have G : zS T A s.heap s [[zO10 xo t im mk rd po co tr wa wb_ fi cd], z0_, z1_, wg0_, wg1_, wwA, wwB, [zO3 fi e0f e1f e2f e3f e4f e5f a1_121 a2_122], [zAr T 0 a1_121 m1f r1f], [zAr T 0 a2_122 7 r2f], wt] _ _ := G.re rfl
      refine z_get C G clX3 7 rfl 0 (by decide) m_fl_RX11_109 rfl dX11_fit_34 ?_
      refine lv_if_eq (tgt := 62) hx hb dX11_fit_37 (by decide) (fun c_123 => ?_) (fun c_123 => ?_)
      · have c_123n : e0f.toInt = (0 : Int) := (fa_eq _ _).mp c_123
        refine lv_aload_n hx hb dX11_fit_62 rfl (lv_at hl 2 rfl) ?_
        refine z_get C G clX11 0 rfl 9 (by decide) m_fl_RX11_65 rfl dX11_fit_63 ?_
        refine lv_aload_n hx hb dX11_fit_66 rfl (lv_at hl 2 rfl) ?_
        refine lv_iload_n hx hb dX11_fit_67 rfl (lv_at hl 3 rfl) ?_
        refine lv_aload_n hx hb dX11_fit_68 rfl (lv_at hl 1 rfl) ?_
        have hcF : (i1.toInt = 0 ∧ 0 < (fk 0).toInt ∧ (0 ≤ i2.toInt ∧ i2.toInt < (fk 2).toInt ∧ i2.toInt < 2) ∧ (e0f.toInt = 0 ∨ ¬ e1f.toInt = i1.toInt ∨ ¬ e2f.toInt = i2.toInt)) := by omega
        have hcN : ¬ (i1.toInt = 1 ∧ 1 < (fk 0).toInt ∧ (0 ≤ i2.toInt ∧ i2.toInt < (fk 2).toInt ∧ i2.toInt < 2) ∧ (e0f.toInt = 0 ∨ ¬ e1f.toInt = i1.toInt ∨ ¬ e2f.toInt = i2.toInt)) := by omega
        have hNAm : zNA (i1.toInt = 0 ∧ 0 < (fk 0).toInt ∧ (0 ≤ i2.toInt ∧ i2.toInt < (fk 2).toInt ∧ i2.toInt < 2) ∧ (e0f.toInt = 0 ∨ ¬ e1f.toInt = i1.toInt ∨ ¬ e2f.toInt = i2.toInt)) mdA n4A (zPl cr0_ inn0_ k10_) = zMk mdA n4A (zPl cr0_ inn0_ k10_) := zNA_y hcF
        have hNAo : zNA (i1.toInt = 1 ∧ 1 < (fk 0).toInt ∧ (0 ≤ i2.toInt ∧ i2.toInt < (fk 2).toInt ∧ i2.toInt < 2) ∧ (e0f.toInt = 0 ∨ ¬ e1f.toInt = i1.toInt ∨ ¬ e2f.toInt = i2.toInt)) mdB n4B (zPl cr1_ inn1_ k11_) = n4B := zNA_n hcN
        have hn9 : zMk mdA n4A (zPl cr0_ inn0_ k10_) ≤ 131072 := zPw_le (zMk_pw hpwA)
        refine z_Vq (bc := [[zO10 xo t im mk rd po co tr wa wb_ fi cd], wwA, z0_]) (br := [z1_, wg0_, wg1_, wwB, [zO3 fi e0f e1f e2f e3f e4f e5f a1_121 a2_122], [zAr T 0 a1_121 m1f r1f], [zAr T 0 a2_122 7 r2f], wt]) (As := [.int i1, .ref l0]) (rest := [.ref fi]) C G (c_f_waysInA l T xo t im mk rd po co tr wa wb_ fi cd i1 laA mdA wyA pc_A f1A f2A f3A f4A f5A f6A n4A wwA l0 cr0_ inn0_ k10_ k20_ k30_ k40_ z0_ hwwA hz0_ hI0_ hpwA hmdA (kaOk hI0_ hLq0).1 hTbA (by omega)) (kV_RX11_235 C.2.2.2.2 (Nat.le_of_ble_eq_true rfl) (Nat.le_of_ble_eq_true rfl)) [0, 5, 1] [0, 0, 3] rfl rfl (ci := 10) (qc := (RX11, TX11, 11)) rfl rfl (List.mem_flatten.mpr ⟨_, List.mem_of_getElem? (i := 0) rfl, List.mem_cons_self⟩) rfl rfl hl.1 dX11_fit_69 (Nat.le_of_ble_eq_true rfl) (by show _ + (6 * (zMk mdA n4A (zPl cr0_ inn0_ k10_) - n4A)) ≤ 6 * (zNA (i1.toInt = 0 ∧ 0 < (fk 0).toInt ∧ (0 ≤ i2.toInt ∧ i2.toInt < (fk 2).toInt ∧ i2.toInt < 2) ∧ (e0f.toInt = 0 ∨ ¬ e1f.toInt = i1.toInt ∨ ¬ e2f.toInt = i2.toInt)) mdA n4A (zPl cr0_ inn0_ k10_) - n4A) + 6 * (zNA (i1.toInt = 1 ∧ 1 < (fk 0).toInt ∧ (0 ≤ i2.toInt ∧ i2.toInt < (fk 2).toInt ∧ i2.toInt < 2) ∧ (e0f.toInt = 0 ∨ ¬ e1f.toInt = i1.toInt ∨ ¬ e2f.toInt = i2.toInt)) mdB n4B (zPl cr1_ inn1_ k11_) - n4B) + 2 * (zNF (i1.toInt = 1 ∧ 1 < (fk 0).toInt ∧ (0 ≤ i2.toInt ∧ i2.toInt < (fk 2).toInt ∧ i2.toInt < 2) ∧ (e0f.toInt = 0 ∨ ¬ e1f.toInt = i1.toInt ∨ ¬ e2f.toInt = i2.toInt)) (zNF (i1.toInt = 0 ∧ 0 < (fk 0).toInt ∧ (0 ≤ i2.toInt ∧ i2.toInt < (fk 2).toInt ∧ i2.toInt < 2) ∧ (e0f.toInt = 0 ∨ ¬ e1f.toInt = i1.toInt ∨ ¬ e2f.toInt = i2.toInt)) m1f (zMw mdA wyA cr0_ inn0_ k10_)) (zMw mdB wyB cr1_ inn1_ k11_) - m1f); omega) (fun r_138 b1 H locs hw G => ?_)
        refine zEx9 hw ?_
        intro w2_124 m2_125 wy2_126 pc2_127 g1_128 g2_129 g4_130 g5_131 g6_132
        refine zCu6 ?_
        intro hbs9 h_133 h_134 h_135 h_136 h_137
        clear hw
        subst hbs9
        have G : zS T A s.heap s [z1_, wg0_, wg1_, wwB, [zO3 fi e0f e1f e2f e3f e4f e5f a1_121 a2_122], [zAr T 0 a1_121 m1f r1f], [zAr T 0 a2_122 7 r2f], wt, [zO10 xo t im mk rd po co tr wa wb_ fi cd], w2_124, z0_] _ _ := G
        subst h_133
        have hwy9 : 0 ≤ wy2_126.toInt ∧ wy2_126.toInt ≤ 16384 := by have q9 := zWy_in (inn := inn0_) hI0_; rw [h_135]; exact ⟨by omega, q9.2⟩
        have hmw9 : wy2_126 = (zMw mdA wyA cr0_ inn0_ k10_) := by unfold zMw; by_cases q9 : mdA = 0 <;> first | (rw [if_pos q9]; exact h_135) | (rw [if_neg q9]; exact h_135.trans ((hTbA.resolve_left q9).1).symm)
        have hNF : zNF (i1.toInt = 1 ∧ 1 < (fk 0).toInt ∧ (0 ≤ i2.toInt ∧ i2.toInt < (fk 2).toInt ∧ i2.toInt < 2) ∧ (e0f.toInt = 0 ∨ ¬ e1f.toInt = i1.toInt ∨ ¬ e2f.toInt = i2.toInt)) (zNF (i1.toInt = 0 ∧ 0 < (fk 0).toInt ∧ (0 ≤ i2.toInt ∧ i2.toInt < (fk 2).toInt ∧ i2.toInt < 2) ∧ (e0f.toInt = 0 ∨ ¬ e1f.toInt = i1.toInt ∨ ¬ e2f.toInt = i2.toInt)) m1f (zMw mdA wyA cr0_ inn0_ k10_)) (zMw mdB wyB cr1_ inn1_ k11_) = zFl m1f wy2_126 := by rw [zNF_n (c := (i1.toInt = 1 ∧ 1 < (fk 0).toInt ∧ (0 ≤ i2.toInt ∧ i2.toInt < (fk 2).toInt ∧ i2.toInt < 2) ∧ (e0f.toInt = 0 ∨ ¬ e1f.toInt = i1.toInt ∨ ¬ e2f.toInt = i2.toInt))) hcN, zNF_y hcF, hmw9]
        have hfw9 := zFl_pw (wy := wy2_126) hfw
        refine lv_aload hx hb dX11_fit_72 (lv_at hl 0 rfl) ?_
        have hw_139 : bFit T fi e0f e1f e2f e3f e4f e5f r1f m1f r2f [zO3 fi e0f e1f e2f e3f e4f e5f a1_121 a2_122, zAr T 0 a1_121 m1f r1f, zAr T 0 a2_122 7 r2f] := ⟨a1_121, a2_122, rfl⟩
        have G : zS T A s.heap s [z1_, wg0_, wg1_, wwB, [zO3 fi e0f e1f e2f e3f e4f e5f a1_121 a2_122, zAr T 0 a1_121 m1f r1f, zAr T 0 a2_122 7 r2f], wt, [zO10 xo t im mk rd po co tr wa wb_ fi cd], w2_124, z0_] _ _ := G.re rfl
        refine z_Vv (bc := [[zO3 fi e0f e1f e2f e3f e4f e5f a1_121 a2_122, zAr T 0 a1_121 m1f r1f, zAr T 0 a2_122 7 r2f], w2_124, z0_, wg1_]) (br := [z1_, wg0_, wwB, wt, [zO10 xo t im mk rd po co tr wa wb_ fi cd]]) (As := [.ref wa, .ref g1]) (rest := []) C G (c_e_find l T fi e0f e1f e2f e3f e4f e5f r1f m1f r2f ([zO3 fi e0f e1f e2f e3f e4f e5f a1_121 a2_122, zAr T 0 a1_121 m1f r1f, zAr T 0 a2_122 7 r2f]) wa l0 m2_125 wy2_126 pc2_127 g1_128 g2_129 f3A g4_130 g5_131 g6_132 (zMk mdA n4A (zPl cr0_ inn0_ k10_)) w2_124 cr0_ inn0_ k10_ k20_ k30_ k40_ z0_ g1 gg1_ q11_ q21_ wg1_ hw_139 h_134 hz0_ hg1_ hn9 hI0_ h_137 hLq0 hfw hGg1) (kV_RX11_298 C.2.2.2.2 (Nat.le_of_ble_eq_true rfl) (Nat.le_of_ble_eq_true rfl)) [4, 7, 8, 2] [2, 1, 2, 0] rfl rfl (ci := 3) (qc := (RX3, TX3, 8)) rfl rfl (List.mem_flatten.mpr ⟨_, List.mem_of_getElem? (i := 0) rfl, (bFit_mem hw_139).choose_spec⟩) rfl rfl hl.1 dX11_fit_74 (Nat.le_of_ble_eq_true rfl) (by show _ + (2 * (zFl m1f wy2_126 - m1f)) ≤ 6 * (zNA (i1.toInt = 0 ∧ 0 < (fk 0).toInt ∧ (0 ≤ i2.toInt ∧ i2.toInt < (fk 2).toInt ∧ i2.toInt < 2) ∧ (e0f.toInt = 0 ∨ ¬ e1f.toInt = i1.toInt ∨ ¬ e2f.toInt = i2.toInt)) mdA n4A (zPl cr0_ inn0_ k10_) - n4A) + 6 * (zNA (i1.toInt = 1 ∧ 1 < (fk 0).toInt ∧ (0 ≤ i2.toInt ∧ i2.toInt < (fk 2).toInt ∧ i2.toInt < 2) ∧ (e0f.toInt = 0 ∨ ¬ e1f.toInt = i1.toInt ∨ ¬ e2f.toInt = i2.toInt)) mdB n4B (zPl cr1_ inn1_ k11_) - n4B) + 2 * (zNF (i1.toInt = 1 ∧ 1 < (fk 0).toInt ∧ (0 ≤ i2.toInt ∧ i2.toInt < (fk 2).toInt ∧ i2.toInt < 2) ∧ (e0f.toInt = 0 ∨ ¬ e1f.toInt = i1.toInt ∨ ¬ e2f.toInt = i2.toInt)) (zNF (i1.toInt = 0 ∧ 0 < (fk 0).toInt ∧ (0 ≤ i2.toInt ∧ i2.toInt < (fk 2).toInt ∧ i2.toInt < 2) ∧ (e0f.toInt = 0 ∨ ¬ e1f.toInt = i1.toInt ∨ ¬ e2f.toInt = i2.toInt)) m1f (zMw mdA wyA cr0_ inn0_ k10_)) (zMw mdB wyB cr1_ inn1_ k11_) - m1f); omega) (fun b1 H locs hw G => ?_)
        refine zEx5 hw ?_
        intro w2_140 s3_141 s4_142 s5_143 g1_144
        refine zCu7 ?_
        intro hbs9 h_145 h_146 h_147 h_148 h_149 h_150
        clear hw
        subst hbs9
        have G : zS T A s.heap s [z1_, wg0_, wwB, wt, [zO10 xo t im mk rd po co tr wa wb_ fi cd], w2_140, w2_124, z0_, wg1_] _ _ := G
        have h39 : 0 ≤ (nI s3_141).toInt := by rw [nI_toInt (by omega)]; omega
        have hft9 : gFt (fun w => gF (aW cr0_ inn0_ k10_) k20_ cr0_ inn0_ q11_ q21_ w gg1_.toInt.toNat) (aPr (aW cr0_ inn0_ k10_) 7) (nI s3_141) s4_142 s5_143 g1_144 (zFl m1f wy2_126) := ⟨congrArg nI h_146, h_147.1, h_147.2, h_148, by rw [← h_146]; exact h_150⟩
        refine lv_aload_n hx hb dX11_fit_77 rfl (lv_at hl 2 rfl) ?_
        refine z_get C G clX11 4 rfl 9 (by decide) m_fl_RX11_65 rfl dX11_fit_78 ?_
        refine lv_iload_n hx hb dX11_fit_81 rfl (lv_at hl 3 rfl) ?_
        refine zEx2 h_145 ?_
        intro a1_152 a2_153 hbs9
        clear h_145
        subst hbs9
        have G : zS T A s.heap s [z1_, wg0_, wwB, wt, [zO10 xo t im mk rd po co tr wa wb_ fi cd], [zO3 fi e0f e1f e2f (nI s3_141) s4_142 s5_143 a1_152 a2_153], [zAr T 0 a1_152 (zFl m1f wy2_126) g1_144], [zAr T 0 a2_153 7 r2f], w2_124, z0_, wg1_] _ _ := G.re rfl
        refine z_put C G clX3 5 rfl 1 (by decide) m_fl_RX11_292 rfl rfl rfl (Nat.le_of_ble_eq_true rfl) dX11_fit_82 (fun H locs G => ?_)
        have G : zS T A s.heap s [z1_, wg0_, wwB, wt, [zO10 xo t im mk rd po co tr wa wb_ fi cd], [zO3 fi e0f i1 e2f (nI s3_141) s4_142 s5_143 a1_152 a2_153], [zAr T 0 a1_152 (zFl m1f wy2_126) g1_144], [zAr T 0 a2_153 7 r2f], w2_124, z0_, wg1_] _ _ := G
        refine lv_aload_n hx hb dX11_fit_85 rfl (lv_at hl 2 rfl) ?_
        refine z_get C G clX11 4 rfl 9 (by decide) m_fl_RX11_65 rfl dX11_fit_86 ?_
        refine lv_iload_n hx hb dX11_fit_89 rfl (lv_at hl 4 rfl) ?_
        refine z_put C G clX3 5 rfl 2 (by decide) m_fl_RX11_295 rfl rfl rfl (Nat.le_of_ble_eq_true rfl) dX11_fit_90 (fun H locs G => ?_)
        have G : zS T A s.heap s [z1_, wg0_, wwB, wt, [zO10 xo t im mk rd po co tr wa wb_ fi cd], [zO3 fi e0f i1 i2 (nI s3_141) s4_142 s5_143 a1_152 a2_153], [zAr T 0 a1_152 (zFl m1f wy2_126) g1_144], [zAr T 0 a2_153 7 r2f], w2_124, z0_, wg1_] _ _ := G
        refine lv_aload_n hx hb dX11_fit_93 rfl (lv_at hl 2 rfl) ?_
        refine z_get C G clX11 4 rfl 9 (by decide) m_fl_RX11_65 rfl dX11_fit_94 ?_
        refine lv_iconst (v := 1) hx hb dX11_fit_97 (by decide) ?_
        refine z_put C G clX3 5 rfl 0 (by decide) m_fl_RX11_109 rfl rfl rfl (Nat.le_of_ble_eq_true rfl) dX11_fit_98 (fun H locs G => ?_)
        have G : zS T A s.heap s [z1_, wg0_, wwB, wt, [zO10 xo t im mk rd po co tr wa wb_ fi cd], [zO3 fi 1 i1 i2 (nI s3_141) s4_142 s5_143 a1_152 a2_153], [zAr T 0 a1_152 (zFl m1f wy2_126) g1_144], [zAr T 0 a2_153 7 r2f], w2_124, z0_, wg1_] _ _ := G
        refine lv_iconst (v := 1) hx hb dX11_fit_101 (by decide) ?_
        have hw_154 : bFit T fi 1 i1 i2 (nI s3_141) s4_142 s5_143 g1_144 (zFl m1f wy2_126) r2f [zO3 fi 1 i1 i2 (nI s3_141) s4_142 s5_143 a1_152 a2_153, zAr T 0 a1_152 (zFl m1f wy2_126) g1_144, zAr T 0 a2_153 7 r2f] := ⟨a1_152, a2_153, rfl⟩
        have G : zS T A s.heap s [z1_, wg0_, wwB, wt, [zO10 xo t im mk rd po co tr wa wb_ fi cd], [zO3 fi 1 i1 i2 (nI s3_141) s4_142 s5_143 a1_152 a2_153, zAr T 0 a1_152 (zFl m1f wy2_126) g1_144, zAr T 0 a2_153 7 r2f], w2_124, z0_, wg1_] _ _ := G.re rfl
        have G := G.sub (bs' := [[zO10 xo t im mk rd po co tr wa wb_ fi cd], wt, z0_, z1_, wg0_, wg1_, w2_124, wwB, [zO3 fi 1 i1 i2 (nI s3_141) s4_142 s5_143 a1_152 a2_153, zAr T 0 a1_152 (zFl m1f wy2_126) g1_144, zAr T 0 a2_153 7 r2f]]) [4, 3, 7, 0, 1, 8, 6, 2, 5] rfl
        exact z_back hQz_ (z_zret C hr hlocks G (Nat.le_of_ble_eq_true rfl) (by omega) dX11_fit_102 rfl ⟨l0, m2_125, wy2_126, pc2_127, g1_128, g2_129, f3A, g4_130, g5_131, g6_132, (zMk mdA n4A (zPl cr0_ inn0_ k10_)), w2_124, laB, mdB, wyB, pc_B, f1B, f2B, f3B, f4B, f5B, f6B, n4B, wwB, 1, i1, i2, (nI s3_141), s4_142, s5_143, g1_144, (zFl m1f wy2_126), r2f, ([zO3 fi 1 i1 i2 (nI s3_141) s4_142 s5_143 a1_152 a2_153, zAr T 0 a1_152 (zFl m1f wy2_126) g1_144, zAr T 0 a2_153 7 r2f]), rfl, h_134, (Or.inr rfl), hwy9, hNAm.symm, (zMk_pw hpwA), (fun _ => h_136), (Or.inr h_137), hwwB, hmdB, hwmB, (zNA_n (by omega)).symm, hpwB, (fun q => q), hTbB, hw_154, hNF.symm, hfw9, h39, (Or.inr ⟨rfl, by omega, by decide, rfl⟩), (fun _ => Or.inl ⟨by omega, h_136⟩), (fun _ y1 y2 => by exfalso; omega), (fun _ _ _ => hft9), (fun _ y1 y2 => by exfalso; omega), (fun _ y1 y2 => by exfalso; omega), (Or.inr rfl)⟩)
      · have c_123n : ¬ e0f.toInt = (0 : Int) := fun q => c_123 ((fa_eq _ _).mpr q)
        refine lv_aload_n hx hb dX11_fit_40 rfl (lv_at hl 2 rfl) ?_
        refine z_get C G clX11 0 rfl 9 (by decide) m_fl_RX11_65 rfl dX11_fit_41 ?_
        refine z_get C G clX3 7 rfl 1 (by decide) m_fl_RX11_292 rfl dX11_fit_44 ?_
        refine lv_iload_n hx hb dX11_fit_47 rfl (lv_at hl 3 rfl) ?_
        refine lv_icmp_ne (tgt := 62) hx hb dX11_fit_48 (by decide) (fun c_155 => ?_) (fun c_155 => ?_)
        · have c_155n : ¬ e1f.toInt = i1.toInt := fun q => c_155 ((fa_eq _ _).mpr q)
          refine lv_aload_n hx hb dX11_fit_62 rfl (lv_at hl 2 rfl) ?_
          refine z_get C G clX11 0 rfl 9 (by decide) m_fl_RX11_65 rfl dX11_fit_63 ?_
          refine lv_aload_n hx hb dX11_fit_66 rfl (lv_at hl 2 rfl) ?_
          refine lv_iload_n hx hb dX11_fit_67 rfl (lv_at hl 3 rfl) ?_
          refine lv_aload_n hx hb dX11_fit_68 rfl (lv_at hl 1 rfl) ?_
          have hcF : (i1.toInt = 0 ∧ 0 < (fk 0).toInt ∧ (0 ≤ i2.toInt ∧ i2.toInt < (fk 2).toInt ∧ i2.toInt < 2) ∧ (e0f.toInt = 0 ∨ ¬ e1f.toInt = i1.toInt ∨ ¬ e2f.toInt = i2.toInt)) := by omega
          have hcN : ¬ (i1.toInt = 1 ∧ 1 < (fk 0).toInt ∧ (0 ≤ i2.toInt ∧ i2.toInt < (fk 2).toInt ∧ i2.toInt < 2) ∧ (e0f.toInt = 0 ∨ ¬ e1f.toInt = i1.toInt ∨ ¬ e2f.toInt = i2.toInt)) := by omega
          have hNAm : zNA (i1.toInt = 0 ∧ 0 < (fk 0).toInt ∧ (0 ≤ i2.toInt ∧ i2.toInt < (fk 2).toInt ∧ i2.toInt < 2) ∧ (e0f.toInt = 0 ∨ ¬ e1f.toInt = i1.toInt ∨ ¬ e2f.toInt = i2.toInt)) mdA n4A (zPl cr0_ inn0_ k10_) = zMk mdA n4A (zPl cr0_ inn0_ k10_) := zNA_y hcF
          have hNAo : zNA (i1.toInt = 1 ∧ 1 < (fk 0).toInt ∧ (0 ≤ i2.toInt ∧ i2.toInt < (fk 2).toInt ∧ i2.toInt < 2) ∧ (e0f.toInt = 0 ∨ ¬ e1f.toInt = i1.toInt ∨ ¬ e2f.toInt = i2.toInt)) mdB n4B (zPl cr1_ inn1_ k11_) = n4B := zNA_n hcN
          have hn9 : zMk mdA n4A (zPl cr0_ inn0_ k10_) ≤ 131072 := zPw_le (zMk_pw hpwA)
          refine z_Vq (bc := [[zO10 xo t im mk rd po co tr wa wb_ fi cd], wwA, z0_]) (br := [z1_, wg0_, wg1_, wwB, [zO3 fi e0f e1f e2f e3f e4f e5f a1_121 a2_122], [zAr T 0 a1_121 m1f r1f], [zAr T 0 a2_122 7 r2f], wt]) (As := [.int i1, .ref l0]) (rest := [.ref fi]) C G (c_f_waysInA l T xo t im mk rd po co tr wa wb_ fi cd i1 laA mdA wyA pc_A f1A f2A f3A f4A f5A f6A n4A wwA l0 cr0_ inn0_ k10_ k20_ k30_ k40_ z0_ hwwA hz0_ hI0_ hpwA hmdA (kaOk hI0_ hLq0).1 hTbA (by omega)) (kV_RX11_235 C.2.2.2.2 (Nat.le_of_ble_eq_true rfl) (Nat.le_of_ble_eq_true rfl)) [0, 5, 1] [0, 0, 3] rfl rfl (ci := 10) (qc := (RX11, TX11, 11)) rfl rfl (List.mem_flatten.mpr ⟨_, List.mem_of_getElem? (i := 0) rfl, List.mem_cons_self⟩) rfl rfl hl.1 dX11_fit_69 (Nat.le_of_ble_eq_true rfl) (by show _ + (6 * (zMk mdA n4A (zPl cr0_ inn0_ k10_) - n4A)) ≤ 6 * (zNA (i1.toInt = 0 ∧ 0 < (fk 0).toInt ∧ (0 ≤ i2.toInt ∧ i2.toInt < (fk 2).toInt ∧ i2.toInt < 2) ∧ (e0f.toInt = 0 ∨ ¬ e1f.toInt = i1.toInt ∨ ¬ e2f.toInt = i2.toInt)) mdA n4A (zPl cr0_ inn0_ k10_) - n4A) + 6 * (zNA (i1.toInt = 1 ∧ 1 < (fk 0).toInt ∧ (0 ≤ i2.toInt ∧ i2.toInt < (fk 2).toInt ∧ i2.toInt < 2) ∧ (e0f.toInt = 0 ∨ ¬ e1f.toInt = i1.toInt ∨ ¬ e2f.toInt = i2.toInt)) mdB n4B (zPl cr1_ inn1_ k11_) - n4B) + 2 * (zNF (i1.toInt = 1 ∧ 1 < (fk 0).toInt ∧ (0 ≤ i2.toInt ∧ i2.toInt < (fk 2).toInt ∧ i2.toInt < 2) ∧ (e0f.toInt = 0 ∨ ¬ e1f.toInt = i1.toInt ∨ ¬ e2f.toInt = i2.toInt)) (zNF (i1.toInt = 0 ∧ 0 < (fk 0).toInt ∧ (0 ≤ i2.toInt ∧ i2.toInt < (fk 2).toInt ∧ i2.toInt < 2) ∧ (e0f.toInt = 0 ∨ ¬ e1f.toInt = i1.toInt ∨ ¬ e2f.toInt = i2.toInt)) m1f (zMw mdA wyA cr0_ inn0_ k10_)) (zMw mdB wyB cr1_ inn1_ k11_) - m1f); omega) (fun r_170 b1 H locs hw G => ?_)
          refine zEx9 hw ?_
          intro w2_156 m2_157 wy2_158 pc2_159 g1_160 g2_161 g4_162 g5_163 g6_164
          refine zCu6 ?_
          intro hbs9 h_165 h_166 h_167 h_168 h_169
          clear hw
          subst hbs9
          have G : zS T A s.heap s [z1_, wg0_, wg1_, wwB, [zO3 fi e0f e1f e2f e3f e4f e5f a1_121 a2_122], [zAr T 0 a1_121 m1f r1f], [zAr T 0 a2_122 7 r2f], wt, [zO10 xo t im mk rd po co tr wa wb_ fi cd], w2_156, z0_] _ _ := G
          subst h_165
          have hwy9 : 0 ≤ wy2_158.toInt ∧ wy2_158.toInt ≤ 16384 := by have q9 := zWy_in (inn := inn0_) hI0_; rw [h_167]; exact ⟨by omega, q9.2⟩
          have hmw9 : wy2_158 = (zMw mdA wyA cr0_ inn0_ k10_) := by unfold zMw; by_cases q9 : mdA = 0 <;> first | (rw [if_pos q9]; exact h_167) | (rw [if_neg q9]; exact h_167.trans ((hTbA.resolve_left q9).1).symm)
          have hNF : zNF (i1.toInt = 1 ∧ 1 < (fk 0).toInt ∧ (0 ≤ i2.toInt ∧ i2.toInt < (fk 2).toInt ∧ i2.toInt < 2) ∧ (e0f.toInt = 0 ∨ ¬ e1f.toInt = i1.toInt ∨ ¬ e2f.toInt = i2.toInt)) (zNF (i1.toInt = 0 ∧ 0 < (fk 0).toInt ∧ (0 ≤ i2.toInt ∧ i2.toInt < (fk 2).toInt ∧ i2.toInt < 2) ∧ (e0f.toInt = 0 ∨ ¬ e1f.toInt = i1.toInt ∨ ¬ e2f.toInt = i2.toInt)) m1f (zMw mdA wyA cr0_ inn0_ k10_)) (zMw mdB wyB cr1_ inn1_ k11_) = zFl m1f wy2_158 := by rw [zNF_n (c := (i1.toInt = 1 ∧ 1 < (fk 0).toInt ∧ (0 ≤ i2.toInt ∧ i2.toInt < (fk 2).toInt ∧ i2.toInt < 2) ∧ (e0f.toInt = 0 ∨ ¬ e1f.toInt = i1.toInt ∨ ¬ e2f.toInt = i2.toInt))) hcN, zNF_y hcF, hmw9]
          have hfw9 := zFl_pw (wy := wy2_158) hfw
          refine lv_aload hx hb dX11_fit_72 (lv_at hl 0 rfl) ?_
          have hw_171 : bFit T fi e0f e1f e2f e3f e4f e5f r1f m1f r2f [zO3 fi e0f e1f e2f e3f e4f e5f a1_121 a2_122, zAr T 0 a1_121 m1f r1f, zAr T 0 a2_122 7 r2f] := ⟨a1_121, a2_122, rfl⟩
          have G : zS T A s.heap s [z1_, wg0_, wg1_, wwB, [zO3 fi e0f e1f e2f e3f e4f e5f a1_121 a2_122, zAr T 0 a1_121 m1f r1f, zAr T 0 a2_122 7 r2f], wt, [zO10 xo t im mk rd po co tr wa wb_ fi cd], w2_156, z0_] _ _ := G.re rfl
          refine z_Vv (bc := [[zO3 fi e0f e1f e2f e3f e4f e5f a1_121 a2_122, zAr T 0 a1_121 m1f r1f, zAr T 0 a2_122 7 r2f], w2_156, z0_, wg1_]) (br := [z1_, wg0_, wwB, wt, [zO10 xo t im mk rd po co tr wa wb_ fi cd]]) (As := [.ref wa, .ref g1]) (rest := []) C G (c_e_find l T fi e0f e1f e2f e3f e4f e5f r1f m1f r2f ([zO3 fi e0f e1f e2f e3f e4f e5f a1_121 a2_122, zAr T 0 a1_121 m1f r1f, zAr T 0 a2_122 7 r2f]) wa l0 m2_157 wy2_158 pc2_159 g1_160 g2_161 f3A g4_162 g5_163 g6_164 (zMk mdA n4A (zPl cr0_ inn0_ k10_)) w2_156 cr0_ inn0_ k10_ k20_ k30_ k40_ z0_ g1 gg1_ q11_ q21_ wg1_ hw_171 h_166 hz0_ hg1_ hn9 hI0_ h_169 hLq0 hfw hGg1) (kV_RX11_298 C.2.2.2.2 (Nat.le_of_ble_eq_true rfl) (Nat.le_of_ble_eq_true rfl)) [4, 7, 8, 2] [2, 1, 2, 0] rfl rfl (ci := 3) (qc := (RX3, TX3, 8)) rfl rfl (List.mem_flatten.mpr ⟨_, List.mem_of_getElem? (i := 0) rfl, (bFit_mem hw_171).choose_spec⟩) rfl rfl hl.1 dX11_fit_74 (Nat.le_of_ble_eq_true rfl) (by show _ + (2 * (zFl m1f wy2_158 - m1f)) ≤ 6 * (zNA (i1.toInt = 0 ∧ 0 < (fk 0).toInt ∧ (0 ≤ i2.toInt ∧ i2.toInt < (fk 2).toInt ∧ i2.toInt < 2) ∧ (e0f.toInt = 0 ∨ ¬ e1f.toInt = i1.toInt ∨ ¬ e2f.toInt = i2.toInt)) mdA n4A (zPl cr0_ inn0_ k10_) - n4A) + 6 * (zNA (i1.toInt = 1 ∧ 1 < (fk 0).toInt ∧ (0 ≤ i2.toInt ∧ i2.toInt < (fk 2).toInt ∧ i2.toInt < 2) ∧ (e0f.toInt = 0 ∨ ¬ e1f.toInt = i1.toInt ∨ ¬ e2f.toInt = i2.toInt)) mdB n4B (zPl cr1_ inn1_ k11_) - n4B) + 2 * (zNF (i1.toInt = 1 ∧ 1 < (fk 0).toInt ∧ (0 ≤ i2.toInt ∧ i2.toInt < (fk 2).toInt ∧ i2.toInt < 2) ∧ (e0f.toInt = 0 ∨ ¬ e1f.toInt = i1.toInt ∨ ¬ e2f.toInt = i2.toInt)) (zNF (i1.toInt = 0 ∧ 0 < (fk 0).toInt ∧ (0 ≤ i2.toInt ∧ i2.toInt < (fk 2).toInt ∧ i2.toInt < 2) ∧ (e0f.toInt = 0 ∨ ¬ e1f.toInt = i1.toInt ∨ ¬ e2f.toInt = i2.toInt)) m1f (zMw mdA wyA cr0_ inn0_ k10_)) (zMw mdB wyB cr1_ inn1_ k11_) - m1f); omega) (fun b1 H locs hw G => ?_)
          refine zEx5 hw ?_
          intro w2_172 s3_173 s4_174 s5_175 g1_176
          refine zCu7 ?_
          intro hbs9 h_177 h_178 h_179 h_180 h_181 h_182
          clear hw
          subst hbs9
          have G : zS T A s.heap s [z1_, wg0_, wwB, wt, [zO10 xo t im mk rd po co tr wa wb_ fi cd], w2_172, w2_156, z0_, wg1_] _ _ := G
          have h39 : 0 ≤ (nI s3_173).toInt := by rw [nI_toInt (by omega)]; omega
          have hft9 : gFt (fun w => gF (aW cr0_ inn0_ k10_) k20_ cr0_ inn0_ q11_ q21_ w gg1_.toInt.toNat) (aPr (aW cr0_ inn0_ k10_) 7) (nI s3_173) s4_174 s5_175 g1_176 (zFl m1f wy2_158) := ⟨congrArg nI h_178, h_179.1, h_179.2, h_180, by rw [← h_178]; exact h_182⟩
          refine lv_aload_n hx hb dX11_fit_77 rfl (lv_at hl 2 rfl) ?_
          refine z_get C G clX11 4 rfl 9 (by decide) m_fl_RX11_65 rfl dX11_fit_78 ?_
          refine lv_iload_n hx hb dX11_fit_81 rfl (lv_at hl 3 rfl) ?_
          refine zEx2 h_177 ?_
          intro a1_184 a2_185 hbs9
          clear h_177
          subst hbs9
          have G : zS T A s.heap s [z1_, wg0_, wwB, wt, [zO10 xo t im mk rd po co tr wa wb_ fi cd], [zO3 fi e0f e1f e2f (nI s3_173) s4_174 s5_175 a1_184 a2_185], [zAr T 0 a1_184 (zFl m1f wy2_158) g1_176], [zAr T 0 a2_185 7 r2f], w2_156, z0_, wg1_] _ _ := G.re rfl
          refine z_put C G clX3 5 rfl 1 (by decide) m_fl_RX11_292 rfl rfl rfl (Nat.le_of_ble_eq_true rfl) dX11_fit_82 (fun H locs G => ?_)
          have G : zS T A s.heap s [z1_, wg0_, wwB, wt, [zO10 xo t im mk rd po co tr wa wb_ fi cd], [zO3 fi e0f i1 e2f (nI s3_173) s4_174 s5_175 a1_184 a2_185], [zAr T 0 a1_184 (zFl m1f wy2_158) g1_176], [zAr T 0 a2_185 7 r2f], w2_156, z0_, wg1_] _ _ := G
          refine lv_aload_n hx hb dX11_fit_85 rfl (lv_at hl 2 rfl) ?_
          refine z_get C G clX11 4 rfl 9 (by decide) m_fl_RX11_65 rfl dX11_fit_86 ?_
          refine lv_iload_n hx hb dX11_fit_89 rfl (lv_at hl 4 rfl) ?_
          refine z_put C G clX3 5 rfl 2 (by decide) m_fl_RX11_295 rfl rfl rfl (Nat.le_of_ble_eq_true rfl) dX11_fit_90 (fun H locs G => ?_)
          have G : zS T A s.heap s [z1_, wg0_, wwB, wt, [zO10 xo t im mk rd po co tr wa wb_ fi cd], [zO3 fi e0f i1 i2 (nI s3_173) s4_174 s5_175 a1_184 a2_185], [zAr T 0 a1_184 (zFl m1f wy2_158) g1_176], [zAr T 0 a2_185 7 r2f], w2_156, z0_, wg1_] _ _ := G
          refine lv_aload_n hx hb dX11_fit_93 rfl (lv_at hl 2 rfl) ?_
          refine z_get C G clX11 4 rfl 9 (by decide) m_fl_RX11_65 rfl dX11_fit_94 ?_
          refine lv_iconst (v := 1) hx hb dX11_fit_97 (by decide) ?_
          refine z_put C G clX3 5 rfl 0 (by decide) m_fl_RX11_109 rfl rfl rfl (Nat.le_of_ble_eq_true rfl) dX11_fit_98 (fun H locs G => ?_)
          have G : zS T A s.heap s [z1_, wg0_, wwB, wt, [zO10 xo t im mk rd po co tr wa wb_ fi cd], [zO3 fi 1 i1 i2 (nI s3_173) s4_174 s5_175 a1_184 a2_185], [zAr T 0 a1_184 (zFl m1f wy2_158) g1_176], [zAr T 0 a2_185 7 r2f], w2_156, z0_, wg1_] _ _ := G
          refine lv_iconst (v := 1) hx hb dX11_fit_101 (by decide) ?_
          have hw_186 : bFit T fi 1 i1 i2 (nI s3_173) s4_174 s5_175 g1_176 (zFl m1f wy2_158) r2f [zO3 fi 1 i1 i2 (nI s3_173) s4_174 s5_175 a1_184 a2_185, zAr T 0 a1_184 (zFl m1f wy2_158) g1_176, zAr T 0 a2_185 7 r2f] := ⟨a1_184, a2_185, rfl⟩
          have G : zS T A s.heap s [z1_, wg0_, wwB, wt, [zO10 xo t im mk rd po co tr wa wb_ fi cd], [zO3 fi 1 i1 i2 (nI s3_173) s4_174 s5_175 a1_184 a2_185, zAr T 0 a1_184 (zFl m1f wy2_158) g1_176, zAr T 0 a2_185 7 r2f], w2_156, z0_, wg1_] _ _ := G.re rfl
          have G := G.sub (bs' := [[zO10 xo t im mk rd po co tr wa wb_ fi cd], wt, z0_, z1_, wg0_, wg1_, w2_156, wwB, [zO3 fi 1 i1 i2 (nI s3_173) s4_174 s5_175 a1_184 a2_185, zAr T 0 a1_184 (zFl m1f wy2_158) g1_176, zAr T 0 a2_185 7 r2f]]) [4, 3, 7, 0, 1, 8, 6, 2, 5] rfl
          exact z_back hQz_ (z_zret C hr hlocks G (Nat.le_of_ble_eq_true rfl) (by omega) dX11_fit_102 rfl ⟨l0, m2_157, wy2_158, pc2_159, g1_160, g2_161, f3A, g4_162, g5_163, g6_164, (zMk mdA n4A (zPl cr0_ inn0_ k10_)), w2_156, laB, mdB, wyB, pc_B, f1B, f2B, f3B, f4B, f5B, f6B, n4B, wwB, 1, i1, i2, (nI s3_173), s4_174, s5_175, g1_176, (zFl m1f wy2_158), r2f, ([zO3 fi 1 i1 i2 (nI s3_173) s4_174 s5_175 a1_184 a2_185, zAr T 0 a1_184 (zFl m1f wy2_158) g1_176, zAr T 0 a2_185 7 r2f]), rfl, h_166, (Or.inr rfl), hwy9, hNAm.symm, (zMk_pw hpwA), (fun _ => h_168), (Or.inr h_169), hwwB, hmdB, hwmB, (zNA_n (by omega)).symm, hpwB, (fun q => q), hTbB, hw_186, hNF.symm, hfw9, h39, (Or.inr ⟨rfl, by omega, by decide, rfl⟩), (fun _ => Or.inl ⟨by omega, h_168⟩), (fun _ y1 y2 => by exfalso; omega), (fun _ _ _ => hft9), (fun _ y1 y2 => by exfalso; omega), (fun _ y1 y2 => by exfalso; omega), (Or.inr rfl)⟩)
        · have c_155n : e1f.toInt = i1.toInt := (fa_eq _ _).mp c_155
          refine lv_aload_n hx hb dX11_fit_51 rfl (lv_at hl 2 rfl) ?_
          refine z_get C G clX11 0 rfl 9 (by decide) m_fl_RX11_65 rfl dX11_fit_52 ?_
          refine z_get C G clX3 7 rfl 2 (by decide) m_fl_RX11_295 rfl dX11_fit_55 ?_
          refine lv_iload_n hx hb dX11_fit_58 rfl (lv_at hl 4 rfl) ?_
          refine lv_icmp_eq (tgt := 101) hx hb dX11_fit_59 (by decide) (fun c_187 => ?_) (fun c_187 => ?_)
          · have c_187n : e2f.toInt = i2.toInt := (fa_eq _ _).mp c_187
            refine lv_iconst (v := 1) hx hb dX11_fit_101 (by decide) ?_
            have hw_188 : bFit T fi e0f e1f e2f e3f e4f e5f r1f m1f r2f [zO3 fi e0f e1f e2f e3f e4f e5f a1_121 a2_122, zAr T 0 a1_121 m1f r1f, zAr T 0 a2_122 7 r2f] := ⟨a1_121, a2_122, rfl⟩
            have G : zS T A s.heap s [[zO10 xo t im mk rd po co tr wa wb_ fi cd], z0_, z1_, wg0_, wg1_, wwA, wwB, [zO3 fi e0f e1f e2f e3f e4f e5f a1_121 a2_122, zAr T 0 a1_121 m1f r1f, zAr T 0 a2_122 7 r2f], wt] _ _ := G.re rfl
            have G := G.sub (bs' := [[zO10 xo t im mk rd po co tr wa wb_ fi cd], wt, z0_, z1_, wg0_, wg1_, wwA, wwB, [zO3 fi e0f e1f e2f e3f e4f e5f a1_121 a2_122, zAr T 0 a1_121 m1f r1f, zAr T 0 a2_122 7 r2f]]) [0, 8, 1, 2, 3, 4, 5, 6, 7] rfl
            exact z_back hQz_ (z_zret C hr hlocks G (Nat.le_of_ble_eq_true rfl) (by omega) dX11_fit_102 rfl ⟨laA, mdA, wyA, pc_A, f1A, f2A, f3A, f4A, f5A, f6A, n4A, wwA, laB, mdB, wyB, pc_B, f1B, f2B, f3B, f4B, f5B, f6B, n4B, wwB, e0f, e1f, e2f, e3f, e4f, e5f, r1f, m1f, r2f, ([zO3 fi e0f e1f e2f e3f e4f e5f a1_121 a2_122, zAr T 0 a1_121 m1f r1f, zAr T 0 a2_122 7 r2f]), rfl, hwwA, hmdA, hwmA, (zNA_n (by omega)).symm, hpwA, (fun q => q), hTbA, hwwB, hmdB, hwmB, (zNA_n (by omega)).symm, hpwB, (fun q => q), hTbB, hw_188, (((zNF_n (c := (i1.toInt = 1 ∧ 1 < (fk 0).toInt ∧ (0 ≤ i2.toInt ∧ i2.toInt < (fk 2).toInt ∧ i2.toInt < 2) ∧ (e0f.toInt = 0 ∨ ¬ e1f.toInt = i1.toInt ∨ ¬ e2f.toInt = i2.toInt))) (by omega)).trans (zNF_n (by omega))).symm), hfw, hf3, (Or.inr ⟨rfl, by omega, (fun q => absurd (congrArg Int32.toInt q) (by show ¬ _ = (0 : Int); omega)), by omega⟩), hFI, hFt00, hFt01, hFt10, hFt11, (Or.inr (by omega))⟩)
          · have c_187n : ¬ e2f.toInt = i2.toInt := fun q => c_187 ((fa_eq _ _).mpr q)
            refine lv_aload_n hx hb dX11_fit_62 rfl (lv_at hl 2 rfl) ?_
            refine z_get C G clX11 0 rfl 9 (by decide) m_fl_RX11_65 rfl dX11_fit_63 ?_
            refine lv_aload_n hx hb dX11_fit_66 rfl (lv_at hl 2 rfl) ?_
            refine lv_iload_n hx hb dX11_fit_67 rfl (lv_at hl 3 rfl) ?_
            refine lv_aload_n hx hb dX11_fit_68 rfl (lv_at hl 1 rfl) ?_
            have hcF : (i1.toInt = 0 ∧ 0 < (fk 0).toInt ∧ (0 ≤ i2.toInt ∧ i2.toInt < (fk 2).toInt ∧ i2.toInt < 2) ∧ (e0f.toInt = 0 ∨ ¬ e1f.toInt = i1.toInt ∨ ¬ e2f.toInt = i2.toInt)) := by omega
            have hcN : ¬ (i1.toInt = 1 ∧ 1 < (fk 0).toInt ∧ (0 ≤ i2.toInt ∧ i2.toInt < (fk 2).toInt ∧ i2.toInt < 2) ∧ (e0f.toInt = 0 ∨ ¬ e1f.toInt = i1.toInt ∨ ¬ e2f.toInt = i2.toInt)) := by omega
            have hNAm : zNA (i1.toInt = 0 ∧ 0 < (fk 0).toInt ∧ (0 ≤ i2.toInt ∧ i2.toInt < (fk 2).toInt ∧ i2.toInt < 2) ∧ (e0f.toInt = 0 ∨ ¬ e1f.toInt = i1.toInt ∨ ¬ e2f.toInt = i2.toInt)) mdA n4A (zPl cr0_ inn0_ k10_) = zMk mdA n4A (zPl cr0_ inn0_ k10_) := zNA_y hcF
            have hNAo : zNA (i1.toInt = 1 ∧ 1 < (fk 0).toInt ∧ (0 ≤ i2.toInt ∧ i2.toInt < (fk 2).toInt ∧ i2.toInt < 2) ∧ (e0f.toInt = 0 ∨ ¬ e1f.toInt = i1.toInt ∨ ¬ e2f.toInt = i2.toInt)) mdB n4B (zPl cr1_ inn1_ k11_) = n4B := zNA_n hcN
            have hn9 : zMk mdA n4A (zPl cr0_ inn0_ k10_) ≤ 131072 := zPw_le (zMk_pw hpwA)
            refine z_Vq (bc := [[zO10 xo t im mk rd po co tr wa wb_ fi cd], wwA, z0_]) (br := [z1_, wg0_, wg1_, wwB, [zO3 fi e0f e1f e2f e3f e4f e5f a1_121 a2_122], [zAr T 0 a1_121 m1f r1f], [zAr T 0 a2_122 7 r2f], wt]) (As := [.int i1, .ref l0]) (rest := [.ref fi]) C G (c_f_waysInA l T xo t im mk rd po co tr wa wb_ fi cd i1 laA mdA wyA pc_A f1A f2A f3A f4A f5A f6A n4A wwA l0 cr0_ inn0_ k10_ k20_ k30_ k40_ z0_ hwwA hz0_ hI0_ hpwA hmdA (kaOk hI0_ hLq0).1 hTbA (by omega)) (kV_RX11_235 C.2.2.2.2 (Nat.le_of_ble_eq_true rfl) (Nat.le_of_ble_eq_true rfl)) [0, 5, 1] [0, 0, 3] rfl rfl (ci := 10) (qc := (RX11, TX11, 11)) rfl rfl (List.mem_flatten.mpr ⟨_, List.mem_of_getElem? (i := 0) rfl, List.mem_cons_self⟩) rfl rfl hl.1 dX11_fit_69 (Nat.le_of_ble_eq_true rfl) (by show _ + (6 * (zMk mdA n4A (zPl cr0_ inn0_ k10_) - n4A)) ≤ 6 * (zNA (i1.toInt = 0 ∧ 0 < (fk 0).toInt ∧ (0 ≤ i2.toInt ∧ i2.toInt < (fk 2).toInt ∧ i2.toInt < 2) ∧ (e0f.toInt = 0 ∨ ¬ e1f.toInt = i1.toInt ∨ ¬ e2f.toInt = i2.toInt)) mdA n4A (zPl cr0_ inn0_ k10_) - n4A) + 6 * (zNA (i1.toInt = 1 ∧ 1 < (fk 0).toInt ∧ (0 ≤ i2.toInt ∧ i2.toInt < (fk 2).toInt ∧ i2.toInt < 2) ∧ (e0f.toInt = 0 ∨ ¬ e1f.toInt = i1.toInt ∨ ¬ e2f.toInt = i2.toInt)) mdB n4B (zPl cr1_ inn1_ k11_) - n4B) + 2 * (zNF (i1.toInt = 1 ∧ 1 < (fk 0).toInt ∧ (0 ≤ i2.toInt ∧ i2.toInt < (fk 2).toInt ∧ i2.toInt < 2) ∧ (e0f.toInt = 0 ∨ ¬ e1f.toInt = i1.toInt ∨ ¬ e2f.toInt = i2.toInt)) (zNF (i1.toInt = 0 ∧ 0 < (fk 0).toInt ∧ (0 ≤ i2.toInt ∧ i2.toInt < (fk 2).toInt ∧ i2.toInt < 2) ∧ (e0f.toInt = 0 ∨ ¬ e1f.toInt = i1.toInt ∨ ¬ e2f.toInt = i2.toInt)) m1f (zMw mdA wyA cr0_ inn0_ k10_)) (zMw mdB wyB cr1_ inn1_ k11_) - m1f); omega) (fun r_203 b1 H locs hw G => ?_)
            refine zEx9 hw ?_
            intro w2_189 m2_190 wy2_191 pc2_192 g1_193 g2_194 g4_195 g5_196 g6_197
            refine zCu6 ?_
            intro hbs9 h_198 h_199 h_200 h_201 h_202
            clear hw
            subst hbs9
            have G : zS T A s.heap s [z1_, wg0_, wg1_, wwB, [zO3 fi e0f e1f e2f e3f e4f e5f a1_121 a2_122], [zAr T 0 a1_121 m1f r1f], [zAr T 0 a2_122 7 r2f], wt, [zO10 xo t im mk rd po co tr wa wb_ fi cd], w2_189, z0_] _ _ := G
            subst h_198
            have hwy9 : 0 ≤ wy2_191.toInt ∧ wy2_191.toInt ≤ 16384 := by have q9 := zWy_in (inn := inn0_) hI0_; rw [h_200]; exact ⟨by omega, q9.2⟩
            have hmw9 : wy2_191 = (zMw mdA wyA cr0_ inn0_ k10_) := by unfold zMw; by_cases q9 : mdA = 0 <;> first | (rw [if_pos q9]; exact h_200) | (rw [if_neg q9]; exact h_200.trans ((hTbA.resolve_left q9).1).symm)
            have hNF : zNF (i1.toInt = 1 ∧ 1 < (fk 0).toInt ∧ (0 ≤ i2.toInt ∧ i2.toInt < (fk 2).toInt ∧ i2.toInt < 2) ∧ (e0f.toInt = 0 ∨ ¬ e1f.toInt = i1.toInt ∨ ¬ e2f.toInt = i2.toInt)) (zNF (i1.toInt = 0 ∧ 0 < (fk 0).toInt ∧ (0 ≤ i2.toInt ∧ i2.toInt < (fk 2).toInt ∧ i2.toInt < 2) ∧ (e0f.toInt = 0 ∨ ¬ e1f.toInt = i1.toInt ∨ ¬ e2f.toInt = i2.toInt)) m1f (zMw mdA wyA cr0_ inn0_ k10_)) (zMw mdB wyB cr1_ inn1_ k11_) = zFl m1f wy2_191 := by rw [zNF_n (c := (i1.toInt = 1 ∧ 1 < (fk 0).toInt ∧ (0 ≤ i2.toInt ∧ i2.toInt < (fk 2).toInt ∧ i2.toInt < 2) ∧ (e0f.toInt = 0 ∨ ¬ e1f.toInt = i1.toInt ∨ ¬ e2f.toInt = i2.toInt))) hcN, zNF_y hcF, hmw9]
            have hfw9 := zFl_pw (wy := wy2_191) hfw
            refine lv_aload hx hb dX11_fit_72 (lv_at hl 0 rfl) ?_
            have hw_204 : bFit T fi e0f e1f e2f e3f e4f e5f r1f m1f r2f [zO3 fi e0f e1f e2f e3f e4f e5f a1_121 a2_122, zAr T 0 a1_121 m1f r1f, zAr T 0 a2_122 7 r2f] := ⟨a1_121, a2_122, rfl⟩
            have G : zS T A s.heap s [z1_, wg0_, wg1_, wwB, [zO3 fi e0f e1f e2f e3f e4f e5f a1_121 a2_122, zAr T 0 a1_121 m1f r1f, zAr T 0 a2_122 7 r2f], wt, [zO10 xo t im mk rd po co tr wa wb_ fi cd], w2_189, z0_] _ _ := G.re rfl
            refine z_Vv (bc := [[zO3 fi e0f e1f e2f e3f e4f e5f a1_121 a2_122, zAr T 0 a1_121 m1f r1f, zAr T 0 a2_122 7 r2f], w2_189, z0_, wg1_]) (br := [z1_, wg0_, wwB, wt, [zO10 xo t im mk rd po co tr wa wb_ fi cd]]) (As := [.ref wa, .ref g1]) (rest := []) C G (c_e_find l T fi e0f e1f e2f e3f e4f e5f r1f m1f r2f ([zO3 fi e0f e1f e2f e3f e4f e5f a1_121 a2_122, zAr T 0 a1_121 m1f r1f, zAr T 0 a2_122 7 r2f]) wa l0 m2_190 wy2_191 pc2_192 g1_193 g2_194 f3A g4_195 g5_196 g6_197 (zMk mdA n4A (zPl cr0_ inn0_ k10_)) w2_189 cr0_ inn0_ k10_ k20_ k30_ k40_ z0_ g1 gg1_ q11_ q21_ wg1_ hw_204 h_199 hz0_ hg1_ hn9 hI0_ h_202 hLq0 hfw hGg1) (kV_RX11_298 C.2.2.2.2 (Nat.le_of_ble_eq_true rfl) (Nat.le_of_ble_eq_true rfl)) [4, 7, 8, 2] [2, 1, 2, 0] rfl rfl (ci := 3) (qc := (RX3, TX3, 8)) rfl rfl (List.mem_flatten.mpr ⟨_, List.mem_of_getElem? (i := 0) rfl, (bFit_mem hw_204).choose_spec⟩) rfl rfl hl.1 dX11_fit_74 (Nat.le_of_ble_eq_true rfl) (by show _ + (2 * (zFl m1f wy2_191 - m1f)) ≤ 6 * (zNA (i1.toInt = 0 ∧ 0 < (fk 0).toInt ∧ (0 ≤ i2.toInt ∧ i2.toInt < (fk 2).toInt ∧ i2.toInt < 2) ∧ (e0f.toInt = 0 ∨ ¬ e1f.toInt = i1.toInt ∨ ¬ e2f.toInt = i2.toInt)) mdA n4A (zPl cr0_ inn0_ k10_) - n4A) + 6 * (zNA (i1.toInt = 1 ∧ 1 < (fk 0).toInt ∧ (0 ≤ i2.toInt ∧ i2.toInt < (fk 2).toInt ∧ i2.toInt < 2) ∧ (e0f.toInt = 0 ∨ ¬ e1f.toInt = i1.toInt ∨ ¬ e2f.toInt = i2.toInt)) mdB n4B (zPl cr1_ inn1_ k11_) - n4B) + 2 * (zNF (i1.toInt = 1 ∧ 1 < (fk 0).toInt ∧ (0 ≤ i2.toInt ∧ i2.toInt < (fk 2).toInt ∧ i2.toInt < 2) ∧ (e0f.toInt = 0 ∨ ¬ e1f.toInt = i1.toInt ∨ ¬ e2f.toInt = i2.toInt)) (zNF (i1.toInt = 0 ∧ 0 < (fk 0).toInt ∧ (0 ≤ i2.toInt ∧ i2.toInt < (fk 2).toInt ∧ i2.toInt < 2) ∧ (e0f.toInt = 0 ∨ ¬ e1f.toInt = i1.toInt ∨ ¬ e2f.toInt = i2.toInt)) m1f (zMw mdA wyA cr0_ inn0_ k10_)) (zMw mdB wyB cr1_ inn1_ k11_) - m1f); omega) (fun b1 H locs hw G => ?_)
            refine zEx5 hw ?_
            intro w2_205 s3_206 s4_207 s5_208 g1_209
            refine zCu7 ?_
            intro hbs9 h_210 h_211 h_212 h_213 h_214 h_215
            clear hw
            subst hbs9
            have G : zS T A s.heap s [z1_, wg0_, wwB, wt, [zO10 xo t im mk rd po co tr wa wb_ fi cd], w2_205, w2_189, z0_, wg1_] _ _ := G
            have h39 : 0 ≤ (nI s3_206).toInt := by rw [nI_toInt (by omega)]; omega
            have hft9 : gFt (fun w => gF (aW cr0_ inn0_ k10_) k20_ cr0_ inn0_ q11_ q21_ w gg1_.toInt.toNat) (aPr (aW cr0_ inn0_ k10_) 7) (nI s3_206) s4_207 s5_208 g1_209 (zFl m1f wy2_191) := ⟨congrArg nI h_211, h_212.1, h_212.2, h_213, by rw [← h_211]; exact h_215⟩
            refine lv_aload_n hx hb dX11_fit_77 rfl (lv_at hl 2 rfl) ?_
            refine z_get C G clX11 4 rfl 9 (by decide) m_fl_RX11_65 rfl dX11_fit_78 ?_
            refine lv_iload_n hx hb dX11_fit_81 rfl (lv_at hl 3 rfl) ?_
            refine zEx2 h_210 ?_
            intro a1_217 a2_218 hbs9
            clear h_210
            subst hbs9
            have G : zS T A s.heap s [z1_, wg0_, wwB, wt, [zO10 xo t im mk rd po co tr wa wb_ fi cd], [zO3 fi e0f e1f e2f (nI s3_206) s4_207 s5_208 a1_217 a2_218], [zAr T 0 a1_217 (zFl m1f wy2_191) g1_209], [zAr T 0 a2_218 7 r2f], w2_189, z0_, wg1_] _ _ := G.re rfl
            refine z_put C G clX3 5 rfl 1 (by decide) m_fl_RX11_292 rfl rfl rfl (Nat.le_of_ble_eq_true rfl) dX11_fit_82 (fun H locs G => ?_)
            have G : zS T A s.heap s [z1_, wg0_, wwB, wt, [zO10 xo t im mk rd po co tr wa wb_ fi cd], [zO3 fi e0f i1 e2f (nI s3_206) s4_207 s5_208 a1_217 a2_218], [zAr T 0 a1_217 (zFl m1f wy2_191) g1_209], [zAr T 0 a2_218 7 r2f], w2_189, z0_, wg1_] _ _ := G
            refine lv_aload_n hx hb dX11_fit_85 rfl (lv_at hl 2 rfl) ?_
            refine z_get C G clX11 4 rfl 9 (by decide) m_fl_RX11_65 rfl dX11_fit_86 ?_
            refine lv_iload_n hx hb dX11_fit_89 rfl (lv_at hl 4 rfl) ?_
            refine z_put C G clX3 5 rfl 2 (by decide) m_fl_RX11_295 rfl rfl rfl (Nat.le_of_ble_eq_true rfl) dX11_fit_90 (fun H locs G => ?_)
            have G : zS T A s.heap s [z1_, wg0_, wwB, wt, [zO10 xo t im mk rd po co tr wa wb_ fi cd], [zO3 fi e0f i1 i2 (nI s3_206) s4_207 s5_208 a1_217 a2_218], [zAr T 0 a1_217 (zFl m1f wy2_191) g1_209], [zAr T 0 a2_218 7 r2f], w2_189, z0_, wg1_] _ _ := G
            refine lv_aload_n hx hb dX11_fit_93 rfl (lv_at hl 2 rfl) ?_
            refine z_get C G clX11 4 rfl 9 (by decide) m_fl_RX11_65 rfl dX11_fit_94 ?_
            refine lv_iconst (v := 1) hx hb dX11_fit_97 (by decide) ?_
            refine z_put C G clX3 5 rfl 0 (by decide) m_fl_RX11_109 rfl rfl rfl (Nat.le_of_ble_eq_true rfl) dX11_fit_98 (fun H locs G => ?_)
            have G : zS T A s.heap s [z1_, wg0_, wwB, wt, [zO10 xo t im mk rd po co tr wa wb_ fi cd], [zO3 fi 1 i1 i2 (nI s3_206) s4_207 s5_208 a1_217 a2_218], [zAr T 0 a1_217 (zFl m1f wy2_191) g1_209], [zAr T 0 a2_218 7 r2f], w2_189, z0_, wg1_] _ _ := G
            refine lv_iconst (v := 1) hx hb dX11_fit_101 (by decide) ?_
            have hw_219 : bFit T fi 1 i1 i2 (nI s3_206) s4_207 s5_208 g1_209 (zFl m1f wy2_191) r2f [zO3 fi 1 i1 i2 (nI s3_206) s4_207 s5_208 a1_217 a2_218, zAr T 0 a1_217 (zFl m1f wy2_191) g1_209, zAr T 0 a2_218 7 r2f] := ⟨a1_217, a2_218, rfl⟩
            have G : zS T A s.heap s [z1_, wg0_, wwB, wt, [zO10 xo t im mk rd po co tr wa wb_ fi cd], [zO3 fi 1 i1 i2 (nI s3_206) s4_207 s5_208 a1_217 a2_218, zAr T 0 a1_217 (zFl m1f wy2_191) g1_209, zAr T 0 a2_218 7 r2f], w2_189, z0_, wg1_] _ _ := G.re rfl
            have G := G.sub (bs' := [[zO10 xo t im mk rd po co tr wa wb_ fi cd], wt, z0_, z1_, wg0_, wg1_, w2_189, wwB, [zO3 fi 1 i1 i2 (nI s3_206) s4_207 s5_208 a1_217 a2_218, zAr T 0 a1_217 (zFl m1f wy2_191) g1_209, zAr T 0 a2_218 7 r2f]]) [4, 3, 7, 0, 1, 8, 6, 2, 5] rfl
            exact z_back hQz_ (z_zret C hr hlocks G (Nat.le_of_ble_eq_true rfl) (by omega) dX11_fit_102 rfl ⟨l0, m2_190, wy2_191, pc2_192, g1_193, g2_194, f3A, g4_195, g5_196, g6_197, (zMk mdA n4A (zPl cr0_ inn0_ k10_)), w2_189, laB, mdB, wyB, pc_B, f1B, f2B, f3B, f4B, f5B, f6B, n4B, wwB, 1, i1, i2, (nI s3_206), s4_207, s5_208, g1_209, (zFl m1f wy2_191), r2f, ([zO3 fi 1 i1 i2 (nI s3_206) s4_207 s5_208 a1_217 a2_218, zAr T 0 a1_217 (zFl m1f wy2_191) g1_209, zAr T 0 a2_218 7 r2f]), rfl, h_199, (Or.inr rfl), hwy9, hNAm.symm, (zMk_pw hpwA), (fun _ => h_201), (Or.inr h_202), hwwB, hmdB, hwmB, (zNA_n (by omega)).symm, hpwB, (fun q => q), hTbB, hw_219, hNF.symm, hfw9, h39, (Or.inr ⟨rfl, by omega, by decide, rfl⟩), (fun _ => Or.inl ⟨by omega, h_201⟩), (fun _ y1 y2 => by exfalso; omega), (fun _ _ _ => hft9), (fun _ y1 y2 => by exfalso; omega), (fun _ y1 y2 => by exfalso; omega), (Or.inr rfl)⟩)
  · have h_6 : i1.toInt = 1 := h_6
    have h_7 : 1 < (fk 0).toInt := h_7
    refine lv_astore_n (lv' := [(3, .ref l1), (0, .ref xo), (1, .int i1), (2, .int i2)]) hx hb dX11_fit_8 rfl hl (by decide) (zLvf_h rfl) (fun ls hl => ?_)
    refine lv_aload_n hx hb dX11_fit_9 rfl (lv_at hl 1 rfl) ?_
    refine z_get C G clX11 0 rfl 0 (by decide) m_fl_RX11_10 rfl dX11_fit_10 ?_
    refine lv_iload_n hx hb dX11_fit_13 rfl (lv_at hl 3 rfl) ?_
    refine z_Vq (bc := [wt]) (br := [[zO10 xo t im mk rd po co tr wa wb_ fi cd], z0_, z1_, wg0_, wg1_, wwA, wwB, wff]) (As := [.int i2]) (rest := []) C G (c_logAt l T t l0 l1 d0 d1 g0 g1 ln fl pl ft fk wt i2 ht) (kV_RX11_138 C.2.2.2.2 (Nat.le_of_ble_eq_true rfl) (Nat.le_of_ble_eq_true rfl)) [8] [8] rfl rfl (ci := 8) (qc := (RX9, TX9, 8)) rfl rfl (List.mem_flatten.mpr ⟨_, List.mem_of_getElem? (i := 0) rfl, (bTold_mem ht).choose_spec⟩) rfl rfl hl.1 dX11_fit_14 (Nat.le_of_ble_eq_true rfl) (by show _ + 0 ≤ 6 * (zNA (i1.toInt = 0 ∧ 0 < (fk 0).toInt ∧ (0 ≤ i2.toInt ∧ i2.toInt < (fk 2).toInt ∧ i2.toInt < 2) ∧ (e0f.toInt = 0 ∨ ¬ e1f.toInt = i1.toInt ∨ ¬ e2f.toInt = i2.toInt)) mdA n4A (zPl cr0_ inn0_ k10_) - n4A) + 6 * (zNA (i1.toInt = 1 ∧ 1 < (fk 0).toInt ∧ (0 ≤ i2.toInt ∧ i2.toInt < (fk 2).toInt ∧ i2.toInt < 2) ∧ (e0f.toInt = 0 ∨ ¬ e1f.toInt = i1.toInt ∨ ¬ e2f.toInt = i2.toInt)) mdB n4B (zPl cr1_ inn1_ k11_) - n4B) + 2 * (zNF (i1.toInt = 1 ∧ 1 < (fk 0).toInt ∧ (0 ≤ i2.toInt ∧ i2.toInt < (fk 2).toInt ∧ i2.toInt < 2) ∧ (e0f.toInt = 0 ∨ ¬ e1f.toInt = i1.toInt ∨ ¬ e2f.toInt = i2.toInt)) (zNF (i1.toInt = 0 ∧ 0 < (fk 0).toInt ∧ (0 ≤ i2.toInt ∧ i2.toInt < (fk 2).toInt ∧ i2.toInt < 2) ∧ (e0f.toInt = 0 ∨ ¬ e1f.toInt = i1.toInt ∨ ¬ e2f.toInt = i2.toInt)) m1f (zMw mdA wyA cr0_ inn0_ k10_)) (zMw mdB wyB cr1_ inn1_ k11_) - m1f); omega) (fun r_221 b1 H locs hw G => ?_)
    refine zAn2 hw ?_
    intro hbs9 hc_220
    clear hw
    subst hbs9
    have G : zS T A s.heap s [[zO10 xo t im mk rd po co tr wa wb_ fi cd], z0_, z1_, wg0_, wg1_, wwA, wwB, wff, wt] _ _ := G
    rcases hc_220 with ⟨rfl, h_222⟩ | ⟨rfl, h_223, h_224⟩ | ⟨rfl, h_225, h_226⟩
    · have h_222 : (i2.toInt < 0 ∨ (fk 2).toInt ≤ i2.toInt ∨ 2 ≤ i2.toInt) := h_222
      refine lv_astoreN (lv' := [(4, .null), (3, .ref l1), (0, .ref xo), (1, .int i1), (2, .int i2)]) hx hb dX11_fit_17 hl (by decide) (zLvf_h rfl) (fun ls hl => ?_)
      refine lv_aload_n hx hb dX11_fit_19 rfl (lv_at hl 1 rfl) ?_
      refine lv_ifnull hx hb dX11_fit_20 ?_
      refine lv_aloadN hx hb dX11_fit_23 (lv_at hl 0 rfl) ?_
      refine lv_ifnonnullN hx hb dX11_fit_25 ?_
      refine lv_iconst (v := 0) hx hb dX11_fit_28 (by decide) ?_
      have G := G.sub (bs' := [[zO10 xo t im mk rd po co tr wa wb_ fi cd], wt, z0_, z1_, wg0_, wg1_, wwA, wwB, wff]) [0, 8, 1, 2, 3, 4, 5, 6, 7] rfl
      exact z_back hQz_ (z_zret C hr hlocks G (Nat.le_of_ble_eq_true rfl) (by omega) dX11_fit_29 rfl ⟨laA, mdA, wyA, pc_A, f1A, f2A, f3A, f4A, f5A, f6A, n4A, wwA, laB, mdB, wyB, pc_B, f1B, f2B, f3B, f4B, f5B, f6B, n4B, wwB, e0f, e1f, e2f, e3f, e4f, e5f, r1f, m1f, r2f, wff, rfl, hwwA, hmdA, hwmA, (zNA_n (by omega)).symm, hpwA, (fun q => q), hTbA, hwwB, hmdB, hwmB, (zNA_n (by omega)).symm, hpwB, (fun q => q), hTbB, hwff, (((zNF_n (c := (i1.toInt = 1 ∧ 1 < (fk 0).toInt ∧ (0 ≤ i2.toInt ∧ i2.toInt < (fk 2).toInt ∧ i2.toInt < 2) ∧ (e0f.toInt = 0 ∨ ¬ e1f.toInt = i1.toInt ∨ ¬ e2f.toInt = i2.toInt))) (by omega)).trans (zNF_n (by omega))).symm), hfw, hf3, (Or.inl ⟨rfl, by omega⟩), hFI, hFt00, hFt01, hFt10, hFt11, (Or.inl rfl)⟩)
    · have h_223 : i2.toInt = 0 := h_223
      have h_224 : 0 < (fk 2).toInt := h_224
      refine lv_astore (lv' := [(4, .ref g0), (3, .ref l1), (0, .ref xo), (1, .int i1), (2, .int i2)]) hx hb dX11_fit_17 hl (by decide) (zLvf_h rfl) (fun ls hl => ?_)
      refine lv_aload_n hx hb dX11_fit_19 rfl (lv_at hl 1 rfl) ?_
      refine lv_ifnull hx hb dX11_fit_20 ?_
      refine lv_aload hx hb dX11_fit_23 (lv_at hl 0 rfl) ?_
      refine lv_ifnonnull (tgt := 30) hx hb dX11_fit_25 (by decide) ?_
      refine lv_aload_n hx hb dX11_fit_30 rfl (lv_at hl 2 rfl) ?_
      refine z_get C G clX11 0 rfl 9 (by decide) m_fl_RX11_65 rfl dX11_fit_31 ?_
      refine zEx2 hwff ?_
      intro a1_227 a2_228 hbs9
      clear hwff
      subst hbs9
      have G : zS T A s.heap s [[zO10 xo t im mk rd po co tr wa wb_ fi cd], z0_, z1_, wg0_, wg1_, wwA, wwB, [zO3 fi e0f e1f e2f e3f e4f e5f a1_227 a2_228], [zAr T 0 a1_227 m1f r1f], [zAr T 0 a2_228 7 r2f], wt] _ _ := G.re rfl
      refine z_get C G clX3 7 rfl 0 (by decide) m_fl_RX11_109 rfl dX11_fit_34 ?_
      refine lv_if_eq (tgt := 62) hx hb dX11_fit_37 (by decide) (fun c_229 => ?_) (fun c_229 => ?_)
      · have c_229n : e0f.toInt = (0 : Int) := (fa_eq _ _).mp c_229
        refine lv_aload_n hx hb dX11_fit_62 rfl (lv_at hl 2 rfl) ?_
        refine z_get C G clX11 0 rfl 9 (by decide) m_fl_RX11_65 rfl dX11_fit_63 ?_
        refine lv_aload_n hx hb dX11_fit_66 rfl (lv_at hl 2 rfl) ?_
        refine lv_iload_n hx hb dX11_fit_67 rfl (lv_at hl 3 rfl) ?_
        refine lv_aload_n hx hb dX11_fit_68 rfl (lv_at hl 1 rfl) ?_
        have hcF : (i1.toInt = 1 ∧ 1 < (fk 0).toInt ∧ (0 ≤ i2.toInt ∧ i2.toInt < (fk 2).toInt ∧ i2.toInt < 2) ∧ (e0f.toInt = 0 ∨ ¬ e1f.toInt = i1.toInt ∨ ¬ e2f.toInt = i2.toInt)) := by omega
        have hcN : ¬ (i1.toInt = 0 ∧ 0 < (fk 0).toInt ∧ (0 ≤ i2.toInt ∧ i2.toInt < (fk 2).toInt ∧ i2.toInt < 2) ∧ (e0f.toInt = 0 ∨ ¬ e1f.toInt = i1.toInt ∨ ¬ e2f.toInt = i2.toInt)) := by omega
        have hNAm : zNA (i1.toInt = 1 ∧ 1 < (fk 0).toInt ∧ (0 ≤ i2.toInt ∧ i2.toInt < (fk 2).toInt ∧ i2.toInt < 2) ∧ (e0f.toInt = 0 ∨ ¬ e1f.toInt = i1.toInt ∨ ¬ e2f.toInt = i2.toInt)) mdB n4B (zPl cr1_ inn1_ k11_) = zMk mdB n4B (zPl cr1_ inn1_ k11_) := zNA_y hcF
        have hNAo : zNA (i1.toInt = 0 ∧ 0 < (fk 0).toInt ∧ (0 ≤ i2.toInt ∧ i2.toInt < (fk 2).toInt ∧ i2.toInt < 2) ∧ (e0f.toInt = 0 ∨ ¬ e1f.toInt = i1.toInt ∨ ¬ e2f.toInt = i2.toInt)) mdA n4A (zPl cr0_ inn0_ k10_) = n4A := zNA_n hcN
        have hn9 : zMk mdB n4B (zPl cr1_ inn1_ k11_) ≤ 131072 := zPw_le (zMk_pw hpwB)
        refine z_Vq (bc := [[zO10 xo t im mk rd po co tr wa wb_ fi cd], wwB, z1_]) (br := [z0_, wg0_, wg1_, wwA, [zO3 fi e0f e1f e2f e3f e4f e5f a1_227 a2_228], [zAr T 0 a1_227 m1f r1f], [zAr T 0 a2_228 7 r2f], wt]) (As := [.int i1, .ref l1]) (rest := [.ref fi]) C G (c_f_waysInB l T xo t im mk rd po co tr wa wb_ fi cd i1 laB mdB wyB pc_B f1B f2B f3B f4B f5B f6B n4B wwB l1 cr1_ inn1_ k11_ k21_ k31_ k41_ z1_ hwwB hz1_ hI1_ hpwB hmdB (kaOk hI1_ hLq1).1 hTbB (by omega)) (kV_RX11_235 C.2.2.2.2 (Nat.le_of_ble_eq_true rfl) (Nat.le_of_ble_eq_true rfl)) [0, 6, 2] [0, 1, 3] rfl rfl (ci := 10) (qc := (RX11, TX11, 11)) rfl rfl (List.mem_flatten.mpr ⟨_, List.mem_of_getElem? (i := 0) rfl, List.mem_cons_self⟩) rfl rfl hl.1 dX11_fit_69 (Nat.le_of_ble_eq_true rfl) (by show _ + (6 * (zMk mdB n4B (zPl cr1_ inn1_ k11_) - n4B)) ≤ 6 * (zNA (i1.toInt = 0 ∧ 0 < (fk 0).toInt ∧ (0 ≤ i2.toInt ∧ i2.toInt < (fk 2).toInt ∧ i2.toInt < 2) ∧ (e0f.toInt = 0 ∨ ¬ e1f.toInt = i1.toInt ∨ ¬ e2f.toInt = i2.toInt)) mdA n4A (zPl cr0_ inn0_ k10_) - n4A) + 6 * (zNA (i1.toInt = 1 ∧ 1 < (fk 0).toInt ∧ (0 ≤ i2.toInt ∧ i2.toInt < (fk 2).toInt ∧ i2.toInt < 2) ∧ (e0f.toInt = 0 ∨ ¬ e1f.toInt = i1.toInt ∨ ¬ e2f.toInt = i2.toInt)) mdB n4B (zPl cr1_ inn1_ k11_) - n4B) + 2 * (zNF (i1.toInt = 1 ∧ 1 < (fk 0).toInt ∧ (0 ≤ i2.toInt ∧ i2.toInt < (fk 2).toInt ∧ i2.toInt < 2) ∧ (e0f.toInt = 0 ∨ ¬ e1f.toInt = i1.toInt ∨ ¬ e2f.toInt = i2.toInt)) (zNF (i1.toInt = 0 ∧ 0 < (fk 0).toInt ∧ (0 ≤ i2.toInt ∧ i2.toInt < (fk 2).toInt ∧ i2.toInt < 2) ∧ (e0f.toInt = 0 ∨ ¬ e1f.toInt = i1.toInt ∨ ¬ e2f.toInt = i2.toInt)) m1f (zMw mdA wyA cr0_ inn0_ k10_)) (zMw mdB wyB cr1_ inn1_ k11_) - m1f); omega) (fun r_244 b1 H locs hw G => ?_)
        refine zEx9 hw ?_
        intro w2_230 m2_231 wy2_232 pc2_233 g1_234 g2_235 g4_236 g5_237 g6_238
        refine zCu6 ?_
        intro hbs9 h_239 h_240 h_241 h_242 h_243
        clear hw
        subst hbs9
        have G : zS T A s.heap s [z0_, wg0_, wg1_, wwA, [zO3 fi e0f e1f e2f e3f e4f e5f a1_227 a2_228], [zAr T 0 a1_227 m1f r1f], [zAr T 0 a2_228 7 r2f], wt, [zO10 xo t im mk rd po co tr wa wb_ fi cd], w2_230, z1_] _ _ := G
        subst h_239
        have hwy9 : 0 ≤ wy2_232.toInt ∧ wy2_232.toInt ≤ 16384 := by have q9 := zWy_in (inn := inn1_) hI1_; rw [h_241]; exact ⟨by omega, q9.2⟩
        have hmw9 : wy2_232 = (zMw mdB wyB cr1_ inn1_ k11_) := by unfold zMw; by_cases q9 : mdB = 0 <;> first | (rw [if_pos q9]; exact h_241) | (rw [if_neg q9]; exact h_241.trans ((hTbB.resolve_left q9).1).symm)
        have hNF : zNF (i1.toInt = 1 ∧ 1 < (fk 0).toInt ∧ (0 ≤ i2.toInt ∧ i2.toInt < (fk 2).toInt ∧ i2.toInt < 2) ∧ (e0f.toInt = 0 ∨ ¬ e1f.toInt = i1.toInt ∨ ¬ e2f.toInt = i2.toInt)) (zNF (i1.toInt = 0 ∧ 0 < (fk 0).toInt ∧ (0 ≤ i2.toInt ∧ i2.toInt < (fk 2).toInt ∧ i2.toInt < 2) ∧ (e0f.toInt = 0 ∨ ¬ e1f.toInt = i1.toInt ∨ ¬ e2f.toInt = i2.toInt)) m1f (zMw mdA wyA cr0_ inn0_ k10_)) (zMw mdB wyB cr1_ inn1_ k11_) = zFl m1f wy2_232 := by rw [zNF_y (c := (i1.toInt = 1 ∧ 1 < (fk 0).toInt ∧ (0 ≤ i2.toInt ∧ i2.toInt < (fk 2).toInt ∧ i2.toInt < 2) ∧ (e0f.toInt = 0 ∨ ¬ e1f.toInt = i1.toInt ∨ ¬ e2f.toInt = i2.toInt))) hcF, zNF_n (c := (i1.toInt = 0 ∧ 0 < (fk 0).toInt ∧ (0 ≤ i2.toInt ∧ i2.toInt < (fk 2).toInt ∧ i2.toInt < 2) ∧ (e0f.toInt = 0 ∨ ¬ e1f.toInt = i1.toInt ∨ ¬ e2f.toInt = i2.toInt))) hcN, hmw9]
        have hfw9 := zFl_pw (wy := wy2_232) hfw
        refine lv_aload hx hb dX11_fit_72 (lv_at hl 0 rfl) ?_
        have hw_245 : bFit T fi e0f e1f e2f e3f e4f e5f r1f m1f r2f [zO3 fi e0f e1f e2f e3f e4f e5f a1_227 a2_228, zAr T 0 a1_227 m1f r1f, zAr T 0 a2_228 7 r2f] := ⟨a1_227, a2_228, rfl⟩
        have G : zS T A s.heap s [z0_, wg0_, wg1_, wwA, [zO3 fi e0f e1f e2f e3f e4f e5f a1_227 a2_228, zAr T 0 a1_227 m1f r1f, zAr T 0 a2_228 7 r2f], wt, [zO10 xo t im mk rd po co tr wa wb_ fi cd], w2_230, z1_] _ _ := G.re rfl
        refine z_Vv (bc := [[zO3 fi e0f e1f e2f e3f e4f e5f a1_227 a2_228, zAr T 0 a1_227 m1f r1f, zAr T 0 a2_228 7 r2f], w2_230, z1_, wg0_]) (br := [z0_, wg1_, wwA, wt, [zO10 xo t im mk rd po co tr wa wb_ fi cd]]) (As := [.ref wb_, .ref g0]) (rest := []) C G (c_e_find l T fi e0f e1f e2f e3f e4f e5f r1f m1f r2f ([zO3 fi e0f e1f e2f e3f e4f e5f a1_227 a2_228, zAr T 0 a1_227 m1f r1f, zAr T 0 a2_228 7 r2f]) wb_ l1 m2_231 wy2_232 pc2_233 g1_234 g2_235 f3B g4_236 g5_237 g6_238 (zMk mdB n4B (zPl cr1_ inn1_ k11_)) w2_230 cr1_ inn1_ k11_ k21_ k31_ k41_ z1_ g0 gg0_ q10_ q20_ wg0_ hw_245 h_240 hz1_ hg0_ hn9 hI1_ h_243 hLq1 hfw hGg0) (kV_RX11_298 C.2.2.2.2 (Nat.le_of_ble_eq_true rfl) (Nat.le_of_ble_eq_true rfl)) [4, 7, 8, 1] [1, 2, 2, 0] rfl rfl (ci := 3) (qc := (RX3, TX3, 8)) rfl rfl (List.mem_flatten.mpr ⟨_, List.mem_of_getElem? (i := 0) rfl, (bFit_mem hw_245).choose_spec⟩) rfl rfl hl.1 dX11_fit_74 (Nat.le_of_ble_eq_true rfl) (by show _ + (2 * (zFl m1f wy2_232 - m1f)) ≤ 6 * (zNA (i1.toInt = 0 ∧ 0 < (fk 0).toInt ∧ (0 ≤ i2.toInt ∧ i2.toInt < (fk 2).toInt ∧ i2.toInt < 2) ∧ (e0f.toInt = 0 ∨ ¬ e1f.toInt = i1.toInt ∨ ¬ e2f.toInt = i2.toInt)) mdA n4A (zPl cr0_ inn0_ k10_) - n4A) + 6 * (zNA (i1.toInt = 1 ∧ 1 < (fk 0).toInt ∧ (0 ≤ i2.toInt ∧ i2.toInt < (fk 2).toInt ∧ i2.toInt < 2) ∧ (e0f.toInt = 0 ∨ ¬ e1f.toInt = i1.toInt ∨ ¬ e2f.toInt = i2.toInt)) mdB n4B (zPl cr1_ inn1_ k11_) - n4B) + 2 * (zNF (i1.toInt = 1 ∧ 1 < (fk 0).toInt ∧ (0 ≤ i2.toInt ∧ i2.toInt < (fk 2).toInt ∧ i2.toInt < 2) ∧ (e0f.toInt = 0 ∨ ¬ e1f.toInt = i1.toInt ∨ ¬ e2f.toInt = i2.toInt)) (zNF (i1.toInt = 0 ∧ 0 < (fk 0).toInt ∧ (0 ≤ i2.toInt ∧ i2.toInt < (fk 2).toInt ∧ i2.toInt < 2) ∧ (e0f.toInt = 0 ∨ ¬ e1f.toInt = i1.toInt ∨ ¬ e2f.toInt = i2.toInt)) m1f (zMw mdA wyA cr0_ inn0_ k10_)) (zMw mdB wyB cr1_ inn1_ k11_) - m1f); omega) (fun b1 H locs hw G => ?_)
        refine zEx5 hw ?_
        intro w2_246 s3_247 s4_248 s5_249 g1_250
        refine zCu7 ?_
        intro hbs9 h_251 h_252 h_253 h_254 h_255 h_256
        clear hw
        subst hbs9
        have G : zS T A s.heap s [z0_, wg1_, wwA, wt, [zO10 xo t im mk rd po co tr wa wb_ fi cd], w2_246, w2_230, z1_, wg0_] _ _ := G
        have h39 : 0 ≤ (nI s3_247).toInt := by rw [nI_toInt (by omega)]; omega
        have hft9 : gFt (fun w => gF (aW cr1_ inn1_ k11_) k21_ cr1_ inn1_ q10_ q20_ w gg0_.toInt.toNat) (aPr (aW cr1_ inn1_ k11_) 7) (nI s3_247) s4_248 s5_249 g1_250 (zFl m1f wy2_232) := ⟨congrArg nI h_252, h_253.1, h_253.2, h_254, by rw [← h_252]; exact h_256⟩
        refine lv_aload_n hx hb dX11_fit_77 rfl (lv_at hl 2 rfl) ?_
        refine z_get C G clX11 4 rfl 9 (by decide) m_fl_RX11_65 rfl dX11_fit_78 ?_
        refine lv_iload_n hx hb dX11_fit_81 rfl (lv_at hl 3 rfl) ?_
        refine zEx2 h_251 ?_
        intro a1_258 a2_259 hbs9
        clear h_251
        subst hbs9
        have G : zS T A s.heap s [z0_, wg1_, wwA, wt, [zO10 xo t im mk rd po co tr wa wb_ fi cd], [zO3 fi e0f e1f e2f (nI s3_247) s4_248 s5_249 a1_258 a2_259], [zAr T 0 a1_258 (zFl m1f wy2_232) g1_250], [zAr T 0 a2_259 7 r2f], w2_230, z1_, wg0_] _ _ := G.re rfl
        refine z_put C G clX3 5 rfl 1 (by decide) m_fl_RX11_292 rfl rfl rfl (Nat.le_of_ble_eq_true rfl) dX11_fit_82 (fun H locs G => ?_)
        have G : zS T A s.heap s [z0_, wg1_, wwA, wt, [zO10 xo t im mk rd po co tr wa wb_ fi cd], [zO3 fi e0f i1 e2f (nI s3_247) s4_248 s5_249 a1_258 a2_259], [zAr T 0 a1_258 (zFl m1f wy2_232) g1_250], [zAr T 0 a2_259 7 r2f], w2_230, z1_, wg0_] _ _ := G
        refine lv_aload_n hx hb dX11_fit_85 rfl (lv_at hl 2 rfl) ?_
        refine z_get C G clX11 4 rfl 9 (by decide) m_fl_RX11_65 rfl dX11_fit_86 ?_
        refine lv_iload_n hx hb dX11_fit_89 rfl (lv_at hl 4 rfl) ?_
        refine z_put C G clX3 5 rfl 2 (by decide) m_fl_RX11_295 rfl rfl rfl (Nat.le_of_ble_eq_true rfl) dX11_fit_90 (fun H locs G => ?_)
        have G : zS T A s.heap s [z0_, wg1_, wwA, wt, [zO10 xo t im mk rd po co tr wa wb_ fi cd], [zO3 fi e0f i1 i2 (nI s3_247) s4_248 s5_249 a1_258 a2_259], [zAr T 0 a1_258 (zFl m1f wy2_232) g1_250], [zAr T 0 a2_259 7 r2f], w2_230, z1_, wg0_] _ _ := G
        refine lv_aload_n hx hb dX11_fit_93 rfl (lv_at hl 2 rfl) ?_
        refine z_get C G clX11 4 rfl 9 (by decide) m_fl_RX11_65 rfl dX11_fit_94 ?_
        refine lv_iconst (v := 1) hx hb dX11_fit_97 (by decide) ?_
        refine z_put C G clX3 5 rfl 0 (by decide) m_fl_RX11_109 rfl rfl rfl (Nat.le_of_ble_eq_true rfl) dX11_fit_98 (fun H locs G => ?_)
        have G : zS T A s.heap s [z0_, wg1_, wwA, wt, [zO10 xo t im mk rd po co tr wa wb_ fi cd], [zO3 fi 1 i1 i2 (nI s3_247) s4_248 s5_249 a1_258 a2_259], [zAr T 0 a1_258 (zFl m1f wy2_232) g1_250], [zAr T 0 a2_259 7 r2f], w2_230, z1_, wg0_] _ _ := G
        refine lv_iconst (v := 1) hx hb dX11_fit_101 (by decide) ?_
        have hw_260 : bFit T fi 1 i1 i2 (nI s3_247) s4_248 s5_249 g1_250 (zFl m1f wy2_232) r2f [zO3 fi 1 i1 i2 (nI s3_247) s4_248 s5_249 a1_258 a2_259, zAr T 0 a1_258 (zFl m1f wy2_232) g1_250, zAr T 0 a2_259 7 r2f] := ⟨a1_258, a2_259, rfl⟩
        have G : zS T A s.heap s [z0_, wg1_, wwA, wt, [zO10 xo t im mk rd po co tr wa wb_ fi cd], [zO3 fi 1 i1 i2 (nI s3_247) s4_248 s5_249 a1_258 a2_259, zAr T 0 a1_258 (zFl m1f wy2_232) g1_250, zAr T 0 a2_259 7 r2f], w2_230, z1_, wg0_] _ _ := G.re rfl
        have G := G.sub (bs' := [[zO10 xo t im mk rd po co tr wa wb_ fi cd], wt, z0_, z1_, wg0_, wg1_, wwA, w2_230, [zO3 fi 1 i1 i2 (nI s3_247) s4_248 s5_249 a1_258 a2_259, zAr T 0 a1_258 (zFl m1f wy2_232) g1_250, zAr T 0 a2_259 7 r2f]]) [4, 3, 0, 7, 8, 1, 2, 6, 5] rfl
        exact z_back hQz_ (z_zret C hr hlocks G (Nat.le_of_ble_eq_true rfl) (by omega) dX11_fit_102 rfl ⟨laA, mdA, wyA, pc_A, f1A, f2A, f3A, f4A, f5A, f6A, n4A, wwA, l1, m2_231, wy2_232, pc2_233, g1_234, g2_235, f3B, g4_236, g5_237, g6_238, (zMk mdB n4B (zPl cr1_ inn1_ k11_)), w2_230, 1, i1, i2, (nI s3_247), s4_248, s5_249, g1_250, (zFl m1f wy2_232), r2f, ([zO3 fi 1 i1 i2 (nI s3_247) s4_248 s5_249 a1_258 a2_259, zAr T 0 a1_258 (zFl m1f wy2_232) g1_250, zAr T 0 a2_259 7 r2f]), rfl, hwwA, hmdA, hwmA, (zNA_n (by omega)).symm, hpwA, (fun q => q), hTbA, h_240, (Or.inr rfl), hwy9, hNAm.symm, (zMk_pw hpwB), (fun _ => h_242), (Or.inr h_243), hw_260, hNF.symm, hfw9, h39, (Or.inr ⟨rfl, by omega, by decide, rfl⟩), (fun _ => Or.inr ⟨by omega, h_242⟩), (fun _ y1 y2 => by exfalso; omega), (fun _ y1 y2 => by exfalso; omega), (fun _ _ _ => hft9), (fun _ y1 y2 => by exfalso; omega), (Or.inr rfl)⟩)
      · have c_229n : ¬ e0f.toInt = (0 : Int) := fun q => c_229 ((fa_eq _ _).mpr q)
        refine lv_aload_n hx hb dX11_fit_40 rfl (lv_at hl 2 rfl) ?_
        refine z_get C G clX11 0 rfl 9 (by decide) m_fl_RX11_65 rfl dX11_fit_41 ?_
        refine z_get C G clX3 7 rfl 1 (by decide) m_fl_RX11_292 rfl dX11_fit_44 ?_
        refine lv_iload_n hx hb dX11_fit_47 rfl (lv_at hl 3 rfl) ?_
        refine lv_icmp_ne (tgt := 62) hx hb dX11_fit_48 (by decide) (fun c_261 => ?_) (fun c_261 => ?_)
        · have c_261n : ¬ e1f.toInt = i1.toInt := fun q => c_261 ((fa_eq _ _).mpr q)
          refine lv_aload_n hx hb dX11_fit_62 rfl (lv_at hl 2 rfl) ?_
          refine z_get C G clX11 0 rfl 9 (by decide) m_fl_RX11_65 rfl dX11_fit_63 ?_
          refine lv_aload_n hx hb dX11_fit_66 rfl (lv_at hl 2 rfl) ?_
          refine lv_iload_n hx hb dX11_fit_67 rfl (lv_at hl 3 rfl) ?_
          refine lv_aload_n hx hb dX11_fit_68 rfl (lv_at hl 1 rfl) ?_
          have hcF : (i1.toInt = 1 ∧ 1 < (fk 0).toInt ∧ (0 ≤ i2.toInt ∧ i2.toInt < (fk 2).toInt ∧ i2.toInt < 2) ∧ (e0f.toInt = 0 ∨ ¬ e1f.toInt = i1.toInt ∨ ¬ e2f.toInt = i2.toInt)) := by omega
          have hcN : ¬ (i1.toInt = 0 ∧ 0 < (fk 0).toInt ∧ (0 ≤ i2.toInt ∧ i2.toInt < (fk 2).toInt ∧ i2.toInt < 2) ∧ (e0f.toInt = 0 ∨ ¬ e1f.toInt = i1.toInt ∨ ¬ e2f.toInt = i2.toInt)) := by omega
          have hNAm : zNA (i1.toInt = 1 ∧ 1 < (fk 0).toInt ∧ (0 ≤ i2.toInt ∧ i2.toInt < (fk 2).toInt ∧ i2.toInt < 2) ∧ (e0f.toInt = 0 ∨ ¬ e1f.toInt = i1.toInt ∨ ¬ e2f.toInt = i2.toInt)) mdB n4B (zPl cr1_ inn1_ k11_) = zMk mdB n4B (zPl cr1_ inn1_ k11_) := zNA_y hcF
          have hNAo : zNA (i1.toInt = 0 ∧ 0 < (fk 0).toInt ∧ (0 ≤ i2.toInt ∧ i2.toInt < (fk 2).toInt ∧ i2.toInt < 2) ∧ (e0f.toInt = 0 ∨ ¬ e1f.toInt = i1.toInt ∨ ¬ e2f.toInt = i2.toInt)) mdA n4A (zPl cr0_ inn0_ k10_) = n4A := zNA_n hcN
          have hn9 : zMk mdB n4B (zPl cr1_ inn1_ k11_) ≤ 131072 := zPw_le (zMk_pw hpwB)
          refine z_Vq (bc := [[zO10 xo t im mk rd po co tr wa wb_ fi cd], wwB, z1_]) (br := [z0_, wg0_, wg1_, wwA, [zO3 fi e0f e1f e2f e3f e4f e5f a1_227 a2_228], [zAr T 0 a1_227 m1f r1f], [zAr T 0 a2_228 7 r2f], wt]) (As := [.int i1, .ref l1]) (rest := [.ref fi]) C G (c_f_waysInB l T xo t im mk rd po co tr wa wb_ fi cd i1 laB mdB wyB pc_B f1B f2B f3B f4B f5B f6B n4B wwB l1 cr1_ inn1_ k11_ k21_ k31_ k41_ z1_ hwwB hz1_ hI1_ hpwB hmdB (kaOk hI1_ hLq1).1 hTbB (by omega)) (kV_RX11_235 C.2.2.2.2 (Nat.le_of_ble_eq_true rfl) (Nat.le_of_ble_eq_true rfl)) [0, 6, 2] [0, 1, 3] rfl rfl (ci := 10) (qc := (RX11, TX11, 11)) rfl rfl (List.mem_flatten.mpr ⟨_, List.mem_of_getElem? (i := 0) rfl, List.mem_cons_self⟩) rfl rfl hl.1 dX11_fit_69 (Nat.le_of_ble_eq_true rfl) (by show _ + (6 * (zMk mdB n4B (zPl cr1_ inn1_ k11_) - n4B)) ≤ 6 * (zNA (i1.toInt = 0 ∧ 0 < (fk 0).toInt ∧ (0 ≤ i2.toInt ∧ i2.toInt < (fk 2).toInt ∧ i2.toInt < 2) ∧ (e0f.toInt = 0 ∨ ¬ e1f.toInt = i1.toInt ∨ ¬ e2f.toInt = i2.toInt)) mdA n4A (zPl cr0_ inn0_ k10_) - n4A) + 6 * (zNA (i1.toInt = 1 ∧ 1 < (fk 0).toInt ∧ (0 ≤ i2.toInt ∧ i2.toInt < (fk 2).toInt ∧ i2.toInt < 2) ∧ (e0f.toInt = 0 ∨ ¬ e1f.toInt = i1.toInt ∨ ¬ e2f.toInt = i2.toInt)) mdB n4B (zPl cr1_ inn1_ k11_) - n4B) + 2 * (zNF (i1.toInt = 1 ∧ 1 < (fk 0).toInt ∧ (0 ≤ i2.toInt ∧ i2.toInt < (fk 2).toInt ∧ i2.toInt < 2) ∧ (e0f.toInt = 0 ∨ ¬ e1f.toInt = i1.toInt ∨ ¬ e2f.toInt = i2.toInt)) (zNF (i1.toInt = 0 ∧ 0 < (fk 0).toInt ∧ (0 ≤ i2.toInt ∧ i2.toInt < (fk 2).toInt ∧ i2.toInt < 2) ∧ (e0f.toInt = 0 ∨ ¬ e1f.toInt = i1.toInt ∨ ¬ e2f.toInt = i2.toInt)) m1f (zMw mdA wyA cr0_ inn0_ k10_)) (zMw mdB wyB cr1_ inn1_ k11_) - m1f); omega) (fun r_276 b1 H locs hw G => ?_)
          refine zEx9 hw ?_
          intro w2_262 m2_263 wy2_264 pc2_265 g1_266 g2_267 g4_268 g5_269 g6_270
          refine zCu6 ?_
          intro hbs9 h_271 h_272 h_273 h_274 h_275
          clear hw
          subst hbs9
          have G : zS T A s.heap s [z0_, wg0_, wg1_, wwA, [zO3 fi e0f e1f e2f e3f e4f e5f a1_227 a2_228], [zAr T 0 a1_227 m1f r1f], [zAr T 0 a2_228 7 r2f], wt, [zO10 xo t im mk rd po co tr wa wb_ fi cd], w2_262, z1_] _ _ := G
          subst h_271
          have hwy9 : 0 ≤ wy2_264.toInt ∧ wy2_264.toInt ≤ 16384 := by have q9 := zWy_in (inn := inn1_) hI1_; rw [h_273]; exact ⟨by omega, q9.2⟩
          have hmw9 : wy2_264 = (zMw mdB wyB cr1_ inn1_ k11_) := by unfold zMw; by_cases q9 : mdB = 0 <;> first | (rw [if_pos q9]; exact h_273) | (rw [if_neg q9]; exact h_273.trans ((hTbB.resolve_left q9).1).symm)
          have hNF : zNF (i1.toInt = 1 ∧ 1 < (fk 0).toInt ∧ (0 ≤ i2.toInt ∧ i2.toInt < (fk 2).toInt ∧ i2.toInt < 2) ∧ (e0f.toInt = 0 ∨ ¬ e1f.toInt = i1.toInt ∨ ¬ e2f.toInt = i2.toInt)) (zNF (i1.toInt = 0 ∧ 0 < (fk 0).toInt ∧ (0 ≤ i2.toInt ∧ i2.toInt < (fk 2).toInt ∧ i2.toInt < 2) ∧ (e0f.toInt = 0 ∨ ¬ e1f.toInt = i1.toInt ∨ ¬ e2f.toInt = i2.toInt)) m1f (zMw mdA wyA cr0_ inn0_ k10_)) (zMw mdB wyB cr1_ inn1_ k11_) = zFl m1f wy2_264 := by rw [zNF_y (c := (i1.toInt = 1 ∧ 1 < (fk 0).toInt ∧ (0 ≤ i2.toInt ∧ i2.toInt < (fk 2).toInt ∧ i2.toInt < 2) ∧ (e0f.toInt = 0 ∨ ¬ e1f.toInt = i1.toInt ∨ ¬ e2f.toInt = i2.toInt))) hcF, zNF_n (c := (i1.toInt = 0 ∧ 0 < (fk 0).toInt ∧ (0 ≤ i2.toInt ∧ i2.toInt < (fk 2).toInt ∧ i2.toInt < 2) ∧ (e0f.toInt = 0 ∨ ¬ e1f.toInt = i1.toInt ∨ ¬ e2f.toInt = i2.toInt))) hcN, hmw9]
          have hfw9 := zFl_pw (wy := wy2_264) hfw
          refine lv_aload hx hb dX11_fit_72 (lv_at hl 0 rfl) ?_
          have hw_277 : bFit T fi e0f e1f e2f e3f e4f e5f r1f m1f r2f [zO3 fi e0f e1f e2f e3f e4f e5f a1_227 a2_228, zAr T 0 a1_227 m1f r1f, zAr T 0 a2_228 7 r2f] := ⟨a1_227, a2_228, rfl⟩
          have G : zS T A s.heap s [z0_, wg0_, wg1_, wwA, [zO3 fi e0f e1f e2f e3f e4f e5f a1_227 a2_228, zAr T 0 a1_227 m1f r1f, zAr T 0 a2_228 7 r2f], wt, [zO10 xo t im mk rd po co tr wa wb_ fi cd], w2_262, z1_] _ _ := G.re rfl
          refine z_Vv (bc := [[zO3 fi e0f e1f e2f e3f e4f e5f a1_227 a2_228, zAr T 0 a1_227 m1f r1f, zAr T 0 a2_228 7 r2f], w2_262, z1_, wg0_]) (br := [z0_, wg1_, wwA, wt, [zO10 xo t im mk rd po co tr wa wb_ fi cd]]) (As := [.ref wb_, .ref g0]) (rest := []) C G (c_e_find l T fi e0f e1f e2f e3f e4f e5f r1f m1f r2f ([zO3 fi e0f e1f e2f e3f e4f e5f a1_227 a2_228, zAr T 0 a1_227 m1f r1f, zAr T 0 a2_228 7 r2f]) wb_ l1 m2_263 wy2_264 pc2_265 g1_266 g2_267 f3B g4_268 g5_269 g6_270 (zMk mdB n4B (zPl cr1_ inn1_ k11_)) w2_262 cr1_ inn1_ k11_ k21_ k31_ k41_ z1_ g0 gg0_ q10_ q20_ wg0_ hw_277 h_272 hz1_ hg0_ hn9 hI1_ h_275 hLq1 hfw hGg0) (kV_RX11_298 C.2.2.2.2 (Nat.le_of_ble_eq_true rfl) (Nat.le_of_ble_eq_true rfl)) [4, 7, 8, 1] [1, 2, 2, 0] rfl rfl (ci := 3) (qc := (RX3, TX3, 8)) rfl rfl (List.mem_flatten.mpr ⟨_, List.mem_of_getElem? (i := 0) rfl, (bFit_mem hw_277).choose_spec⟩) rfl rfl hl.1 dX11_fit_74 (Nat.le_of_ble_eq_true rfl) (by show _ + (2 * (zFl m1f wy2_264 - m1f)) ≤ 6 * (zNA (i1.toInt = 0 ∧ 0 < (fk 0).toInt ∧ (0 ≤ i2.toInt ∧ i2.toInt < (fk 2).toInt ∧ i2.toInt < 2) ∧ (e0f.toInt = 0 ∨ ¬ e1f.toInt = i1.toInt ∨ ¬ e2f.toInt = i2.toInt)) mdA n4A (zPl cr0_ inn0_ k10_) - n4A) + 6 * (zNA (i1.toInt = 1 ∧ 1 < (fk 0).toInt ∧ (0 ≤ i2.toInt ∧ i2.toInt < (fk 2).toInt ∧ i2.toInt < 2) ∧ (e0f.toInt = 0 ∨ ¬ e1f.toInt = i1.toInt ∨ ¬ e2f.toInt = i2.toInt)) mdB n4B (zPl cr1_ inn1_ k11_) - n4B) + 2 * (zNF (i1.toInt = 1 ∧ 1 < (fk 0).toInt ∧ (0 ≤ i2.toInt ∧ i2.toInt < (fk 2).toInt ∧ i2.toInt < 2) ∧ (e0f.toInt = 0 ∨ ¬ e1f.toInt = i1.toInt ∨ ¬ e2f.toInt = i2.toInt)) (zNF (i1.toInt = 0 ∧ 0 < (fk 0).toInt ∧ (0 ≤ i2.toInt ∧ i2.toInt < (fk 2).toInt ∧ i2.toInt < 2) ∧ (e0f.toInt = 0 ∨ ¬ e1f.toInt = i1.toInt ∨ ¬ e2f.toInt = i2.toInt)) m1f (zMw mdA wyA cr0_ inn0_ k10_)) (zMw mdB wyB cr1_ inn1_ k11_) - m1f); omega) (fun b1 H locs hw G => ?_)
          refine zEx5 hw ?_
          intro w2_278 s3_279 s4_280 s5_281 g1_282
          refine zCu7 ?_
          intro hbs9 h_283 h_284 h_285 h_286 h_287 h_288
          clear hw
          subst hbs9
          have G : zS T A s.heap s [z0_, wg1_, wwA, wt, [zO10 xo t im mk rd po co tr wa wb_ fi cd], w2_278, w2_262, z1_, wg0_] _ _ := G
          have h39 : 0 ≤ (nI s3_279).toInt := by rw [nI_toInt (by omega)]; omega
          have hft9 : gFt (fun w => gF (aW cr1_ inn1_ k11_) k21_ cr1_ inn1_ q10_ q20_ w gg0_.toInt.toNat) (aPr (aW cr1_ inn1_ k11_) 7) (nI s3_279) s4_280 s5_281 g1_282 (zFl m1f wy2_264) := ⟨congrArg nI h_284, h_285.1, h_285.2, h_286, by rw [← h_284]; exact h_288⟩
          refine lv_aload_n hx hb dX11_fit_77 rfl (lv_at hl 2 rfl) ?_
          refine z_get C G clX11 4 rfl 9 (by decide) m_fl_RX11_65 rfl dX11_fit_78 ?_
          refine lv_iload_n hx hb dX11_fit_81 rfl (lv_at hl 3 rfl) ?_
          refine zEx2 h_283 ?_
          intro a1_290 a2_291 hbs9
          clear h_283
          subst hbs9
          have G : zS T A s.heap s [z0_, wg1_, wwA, wt, [zO10 xo t im mk rd po co tr wa wb_ fi cd], [zO3 fi e0f e1f e2f (nI s3_279) s4_280 s5_281 a1_290 a2_291], [zAr T 0 a1_290 (zFl m1f wy2_264) g1_282], [zAr T 0 a2_291 7 r2f], w2_262, z1_, wg0_] _ _ := G.re rfl
          refine z_put C G clX3 5 rfl 1 (by decide) m_fl_RX11_292 rfl rfl rfl (Nat.le_of_ble_eq_true rfl) dX11_fit_82 (fun H locs G => ?_)
          have G : zS T A s.heap s [z0_, wg1_, wwA, wt, [zO10 xo t im mk rd po co tr wa wb_ fi cd], [zO3 fi e0f i1 e2f (nI s3_279) s4_280 s5_281 a1_290 a2_291], [zAr T 0 a1_290 (zFl m1f wy2_264) g1_282], [zAr T 0 a2_291 7 r2f], w2_262, z1_, wg0_] _ _ := G
          refine lv_aload_n hx hb dX11_fit_85 rfl (lv_at hl 2 rfl) ?_
          refine z_get C G clX11 4 rfl 9 (by decide) m_fl_RX11_65 rfl dX11_fit_86 ?_
          refine lv_iload_n hx hb dX11_fit_89 rfl (lv_at hl 4 rfl) ?_
          refine z_put C G clX3 5 rfl 2 (by decide) m_fl_RX11_295 rfl rfl rfl (Nat.le_of_ble_eq_true rfl) dX11_fit_90 (fun H locs G => ?_)
          have G : zS T A s.heap s [z0_, wg1_, wwA, wt, [zO10 xo t im mk rd po co tr wa wb_ fi cd], [zO3 fi e0f i1 i2 (nI s3_279) s4_280 s5_281 a1_290 a2_291], [zAr T 0 a1_290 (zFl m1f wy2_264) g1_282], [zAr T 0 a2_291 7 r2f], w2_262, z1_, wg0_] _ _ := G
          refine lv_aload_n hx hb dX11_fit_93 rfl (lv_at hl 2 rfl) ?_
          refine z_get C G clX11 4 rfl 9 (by decide) m_fl_RX11_65 rfl dX11_fit_94 ?_
          refine lv_iconst (v := 1) hx hb dX11_fit_97 (by decide) ?_
          refine z_put C G clX3 5 rfl 0 (by decide) m_fl_RX11_109 rfl rfl rfl (Nat.le_of_ble_eq_true rfl) dX11_fit_98 (fun H locs G => ?_)
          have G : zS T A s.heap s [z0_, wg1_, wwA, wt, [zO10 xo t im mk rd po co tr wa wb_ fi cd], [zO3 fi 1 i1 i2 (nI s3_279) s4_280 s5_281 a1_290 a2_291], [zAr T 0 a1_290 (zFl m1f wy2_264) g1_282], [zAr T 0 a2_291 7 r2f], w2_262, z1_, wg0_] _ _ := G
          refine lv_iconst (v := 1) hx hb dX11_fit_101 (by decide) ?_
          have hw_292 : bFit T fi 1 i1 i2 (nI s3_279) s4_280 s5_281 g1_282 (zFl m1f wy2_264) r2f [zO3 fi 1 i1 i2 (nI s3_279) s4_280 s5_281 a1_290 a2_291, zAr T 0 a1_290 (zFl m1f wy2_264) g1_282, zAr T 0 a2_291 7 r2f] := ⟨a1_290, a2_291, rfl⟩
          have G : zS T A s.heap s [z0_, wg1_, wwA, wt, [zO10 xo t im mk rd po co tr wa wb_ fi cd], [zO3 fi 1 i1 i2 (nI s3_279) s4_280 s5_281 a1_290 a2_291, zAr T 0 a1_290 (zFl m1f wy2_264) g1_282, zAr T 0 a2_291 7 r2f], w2_262, z1_, wg0_] _ _ := G.re rfl
          have G := G.sub (bs' := [[zO10 xo t im mk rd po co tr wa wb_ fi cd], wt, z0_, z1_, wg0_, wg1_, wwA, w2_262, [zO3 fi 1 i1 i2 (nI s3_279) s4_280 s5_281 a1_290 a2_291, zAr T 0 a1_290 (zFl m1f wy2_264) g1_282, zAr T 0 a2_291 7 r2f]]) [4, 3, 0, 7, 8, 1, 2, 6, 5] rfl
          exact z_back hQz_ (z_zret C hr hlocks G (Nat.le_of_ble_eq_true rfl) (by omega) dX11_fit_102 rfl ⟨laA, mdA, wyA, pc_A, f1A, f2A, f3A, f4A, f5A, f6A, n4A, wwA, l1, m2_263, wy2_264, pc2_265, g1_266, g2_267, f3B, g4_268, g5_269, g6_270, (zMk mdB n4B (zPl cr1_ inn1_ k11_)), w2_262, 1, i1, i2, (nI s3_279), s4_280, s5_281, g1_282, (zFl m1f wy2_264), r2f, ([zO3 fi 1 i1 i2 (nI s3_279) s4_280 s5_281 a1_290 a2_291, zAr T 0 a1_290 (zFl m1f wy2_264) g1_282, zAr T 0 a2_291 7 r2f]), rfl, hwwA, hmdA, hwmA, (zNA_n (by omega)).symm, hpwA, (fun q => q), hTbA, h_272, (Or.inr rfl), hwy9, hNAm.symm, (zMk_pw hpwB), (fun _ => h_274), (Or.inr h_275), hw_292, hNF.symm, hfw9, h39, (Or.inr ⟨rfl, by omega, by decide, rfl⟩), (fun _ => Or.inr ⟨by omega, h_274⟩), (fun _ y1 y2 => by exfalso; omega), (fun _ y1 y2 => by exfalso; omega), (fun _ _ _ => hft9), (fun _ y1 y2 => by exfalso; omega), (Or.inr rfl)⟩)
        · have c_261n : e1f.toInt = i1.toInt := (fa_eq _ _).mp c_261
          refine lv_aload_n hx hb dX11_fit_51 rfl (lv_at hl 2 rfl) ?_
          refine z_get C G clX11 0 rfl 9 (by decide) m_fl_RX11_65 rfl dX11_fit_52 ?_
          refine z_get C G clX3 7 rfl 2 (by decide) m_fl_RX11_295 rfl dX11_fit_55 ?_
          refine lv_iload_n hx hb dX11_fit_58 rfl (lv_at hl 4 rfl) ?_
          refine lv_icmp_eq (tgt := 101) hx hb dX11_fit_59 (by decide) (fun c_293 => ?_) (fun c_293 => ?_)
          · have c_293n : e2f.toInt = i2.toInt := (fa_eq _ _).mp c_293
            refine lv_iconst (v := 1) hx hb dX11_fit_101 (by decide) ?_
            have hw_294 : bFit T fi e0f e1f e2f e3f e4f e5f r1f m1f r2f [zO3 fi e0f e1f e2f e3f e4f e5f a1_227 a2_228, zAr T 0 a1_227 m1f r1f, zAr T 0 a2_228 7 r2f] := ⟨a1_227, a2_228, rfl⟩
            have G : zS T A s.heap s [[zO10 xo t im mk rd po co tr wa wb_ fi cd], z0_, z1_, wg0_, wg1_, wwA, wwB, [zO3 fi e0f e1f e2f e3f e4f e5f a1_227 a2_228, zAr T 0 a1_227 m1f r1f, zAr T 0 a2_228 7 r2f], wt] _ _ := G.re rfl
            have G := G.sub (bs' := [[zO10 xo t im mk rd po co tr wa wb_ fi cd], wt, z0_, z1_, wg0_, wg1_, wwA, wwB, [zO3 fi e0f e1f e2f e3f e4f e5f a1_227 a2_228, zAr T 0 a1_227 m1f r1f, zAr T 0 a2_228 7 r2f]]) [0, 8, 1, 2, 3, 4, 5, 6, 7] rfl
            exact z_back hQz_ (z_zret C hr hlocks G (Nat.le_of_ble_eq_true rfl) (by omega) dX11_fit_102 rfl ⟨laA, mdA, wyA, pc_A, f1A, f2A, f3A, f4A, f5A, f6A, n4A, wwA, laB, mdB, wyB, pc_B, f1B, f2B, f3B, f4B, f5B, f6B, n4B, wwB, e0f, e1f, e2f, e3f, e4f, e5f, r1f, m1f, r2f, ([zO3 fi e0f e1f e2f e3f e4f e5f a1_227 a2_228, zAr T 0 a1_227 m1f r1f, zAr T 0 a2_228 7 r2f]), rfl, hwwA, hmdA, hwmA, (zNA_n (by omega)).symm, hpwA, (fun q => q), hTbA, hwwB, hmdB, hwmB, (zNA_n (by omega)).symm, hpwB, (fun q => q), hTbB, hw_294, (((zNF_n (c := (i1.toInt = 1 ∧ 1 < (fk 0).toInt ∧ (0 ≤ i2.toInt ∧ i2.toInt < (fk 2).toInt ∧ i2.toInt < 2) ∧ (e0f.toInt = 0 ∨ ¬ e1f.toInt = i1.toInt ∨ ¬ e2f.toInt = i2.toInt))) (by omega)).trans (zNF_n (by omega))).symm), hfw, hf3, (Or.inr ⟨rfl, by omega, (fun q => absurd (congrArg Int32.toInt q) (by show ¬ _ = (0 : Int); omega)), by omega⟩), hFI, hFt00, hFt01, hFt10, hFt11, (Or.inr (by omega))⟩)
          · have c_293n : ¬ e2f.toInt = i2.toInt := fun q => c_293 ((fa_eq _ _).mpr q)
            refine lv_aload_n hx hb dX11_fit_62 rfl (lv_at hl 2 rfl) ?_
            refine z_get C G clX11 0 rfl 9 (by decide) m_fl_RX11_65 rfl dX11_fit_63 ?_
            refine lv_aload_n hx hb dX11_fit_66 rfl (lv_at hl 2 rfl) ?_
            refine lv_iload_n hx hb dX11_fit_67 rfl (lv_at hl 3 rfl) ?_
            refine lv_aload_n hx hb dX11_fit_68 rfl (lv_at hl 1 rfl) ?_
            have hcF : (i1.toInt = 1 ∧ 1 < (fk 0).toInt ∧ (0 ≤ i2.toInt ∧ i2.toInt < (fk 2).toInt ∧ i2.toInt < 2) ∧ (e0f.toInt = 0 ∨ ¬ e1f.toInt = i1.toInt ∨ ¬ e2f.toInt = i2.toInt)) := by omega
            have hcN : ¬ (i1.toInt = 0 ∧ 0 < (fk 0).toInt ∧ (0 ≤ i2.toInt ∧ i2.toInt < (fk 2).toInt ∧ i2.toInt < 2) ∧ (e0f.toInt = 0 ∨ ¬ e1f.toInt = i1.toInt ∨ ¬ e2f.toInt = i2.toInt)) := by omega
            have hNAm : zNA (i1.toInt = 1 ∧ 1 < (fk 0).toInt ∧ (0 ≤ i2.toInt ∧ i2.toInt < (fk 2).toInt ∧ i2.toInt < 2) ∧ (e0f.toInt = 0 ∨ ¬ e1f.toInt = i1.toInt ∨ ¬ e2f.toInt = i2.toInt)) mdB n4B (zPl cr1_ inn1_ k11_) = zMk mdB n4B (zPl cr1_ inn1_ k11_) := zNA_y hcF
            have hNAo : zNA (i1.toInt = 0 ∧ 0 < (fk 0).toInt ∧ (0 ≤ i2.toInt ∧ i2.toInt < (fk 2).toInt ∧ i2.toInt < 2) ∧ (e0f.toInt = 0 ∨ ¬ e1f.toInt = i1.toInt ∨ ¬ e2f.toInt = i2.toInt)) mdA n4A (zPl cr0_ inn0_ k10_) = n4A := zNA_n hcN
            have hn9 : zMk mdB n4B (zPl cr1_ inn1_ k11_) ≤ 131072 := zPw_le (zMk_pw hpwB)
            refine z_Vq (bc := [[zO10 xo t im mk rd po co tr wa wb_ fi cd], wwB, z1_]) (br := [z0_, wg0_, wg1_, wwA, [zO3 fi e0f e1f e2f e3f e4f e5f a1_227 a2_228], [zAr T 0 a1_227 m1f r1f], [zAr T 0 a2_228 7 r2f], wt]) (As := [.int i1, .ref l1]) (rest := [.ref fi]) C G (c_f_waysInB l T xo t im mk rd po co tr wa wb_ fi cd i1 laB mdB wyB pc_B f1B f2B f3B f4B f5B f6B n4B wwB l1 cr1_ inn1_ k11_ k21_ k31_ k41_ z1_ hwwB hz1_ hI1_ hpwB hmdB (kaOk hI1_ hLq1).1 hTbB (by omega)) (kV_RX11_235 C.2.2.2.2 (Nat.le_of_ble_eq_true rfl) (Nat.le_of_ble_eq_true rfl)) [0, 6, 2] [0, 1, 3] rfl rfl (ci := 10) (qc := (RX11, TX11, 11)) rfl rfl (List.mem_flatten.mpr ⟨_, List.mem_of_getElem? (i := 0) rfl, List.mem_cons_self⟩) rfl rfl hl.1 dX11_fit_69 (Nat.le_of_ble_eq_true rfl) (by show _ + (6 * (zMk mdB n4B (zPl cr1_ inn1_ k11_) - n4B)) ≤ 6 * (zNA (i1.toInt = 0 ∧ 0 < (fk 0).toInt ∧ (0 ≤ i2.toInt ∧ i2.toInt < (fk 2).toInt ∧ i2.toInt < 2) ∧ (e0f.toInt = 0 ∨ ¬ e1f.toInt = i1.toInt ∨ ¬ e2f.toInt = i2.toInt)) mdA n4A (zPl cr0_ inn0_ k10_) - n4A) + 6 * (zNA (i1.toInt = 1 ∧ 1 < (fk 0).toInt ∧ (0 ≤ i2.toInt ∧ i2.toInt < (fk 2).toInt ∧ i2.toInt < 2) ∧ (e0f.toInt = 0 ∨ ¬ e1f.toInt = i1.toInt ∨ ¬ e2f.toInt = i2.toInt)) mdB n4B (zPl cr1_ inn1_ k11_) - n4B) + 2 * (zNF (i1.toInt = 1 ∧ 1 < (fk 0).toInt ∧ (0 ≤ i2.toInt ∧ i2.toInt < (fk 2).toInt ∧ i2.toInt < 2) ∧ (e0f.toInt = 0 ∨ ¬ e1f.toInt = i1.toInt ∨ ¬ e2f.toInt = i2.toInt)) (zNF (i1.toInt = 0 ∧ 0 < (fk 0).toInt ∧ (0 ≤ i2.toInt ∧ i2.toInt < (fk 2).toInt ∧ i2.toInt < 2) ∧ (e0f.toInt = 0 ∨ ¬ e1f.toInt = i1.toInt ∨ ¬ e2f.toInt = i2.toInt)) m1f (zMw mdA wyA cr0_ inn0_ k10_)) (zMw mdB wyB cr1_ inn1_ k11_) - m1f); omega) (fun r_309 b1 H locs hw G => ?_)
            refine zEx9 hw ?_
            intro w2_295 m2_296 wy2_297 pc2_298 g1_299 g2_300 g4_301 g5_302 g6_303
            refine zCu6 ?_
            intro hbs9 h_304 h_305 h_306 h_307 h_308
            clear hw
            subst hbs9
            have G : zS T A s.heap s [z0_, wg0_, wg1_, wwA, [zO3 fi e0f e1f e2f e3f e4f e5f a1_227 a2_228], [zAr T 0 a1_227 m1f r1f], [zAr T 0 a2_228 7 r2f], wt, [zO10 xo t im mk rd po co tr wa wb_ fi cd], w2_295, z1_] _ _ := G
            subst h_304
            have hwy9 : 0 ≤ wy2_297.toInt ∧ wy2_297.toInt ≤ 16384 := by have q9 := zWy_in (inn := inn1_) hI1_; rw [h_306]; exact ⟨by omega, q9.2⟩
            have hmw9 : wy2_297 = (zMw mdB wyB cr1_ inn1_ k11_) := by unfold zMw; by_cases q9 : mdB = 0 <;> first | (rw [if_pos q9]; exact h_306) | (rw [if_neg q9]; exact h_306.trans ((hTbB.resolve_left q9).1).symm)
            have hNF : zNF (i1.toInt = 1 ∧ 1 < (fk 0).toInt ∧ (0 ≤ i2.toInt ∧ i2.toInt < (fk 2).toInt ∧ i2.toInt < 2) ∧ (e0f.toInt = 0 ∨ ¬ e1f.toInt = i1.toInt ∨ ¬ e2f.toInt = i2.toInt)) (zNF (i1.toInt = 0 ∧ 0 < (fk 0).toInt ∧ (0 ≤ i2.toInt ∧ i2.toInt < (fk 2).toInt ∧ i2.toInt < 2) ∧ (e0f.toInt = 0 ∨ ¬ e1f.toInt = i1.toInt ∨ ¬ e2f.toInt = i2.toInt)) m1f (zMw mdA wyA cr0_ inn0_ k10_)) (zMw mdB wyB cr1_ inn1_ k11_) = zFl m1f wy2_297 := by rw [zNF_y (c := (i1.toInt = 1 ∧ 1 < (fk 0).toInt ∧ (0 ≤ i2.toInt ∧ i2.toInt < (fk 2).toInt ∧ i2.toInt < 2) ∧ (e0f.toInt = 0 ∨ ¬ e1f.toInt = i1.toInt ∨ ¬ e2f.toInt = i2.toInt))) hcF, zNF_n (c := (i1.toInt = 0 ∧ 0 < (fk 0).toInt ∧ (0 ≤ i2.toInt ∧ i2.toInt < (fk 2).toInt ∧ i2.toInt < 2) ∧ (e0f.toInt = 0 ∨ ¬ e1f.toInt = i1.toInt ∨ ¬ e2f.toInt = i2.toInt))) hcN, hmw9]
            have hfw9 := zFl_pw (wy := wy2_297) hfw
            refine lv_aload hx hb dX11_fit_72 (lv_at hl 0 rfl) ?_
            have hw_310 : bFit T fi e0f e1f e2f e3f e4f e5f r1f m1f r2f [zO3 fi e0f e1f e2f e3f e4f e5f a1_227 a2_228, zAr T 0 a1_227 m1f r1f, zAr T 0 a2_228 7 r2f] := ⟨a1_227, a2_228, rfl⟩
            have G : zS T A s.heap s [z0_, wg0_, wg1_, wwA, [zO3 fi e0f e1f e2f e3f e4f e5f a1_227 a2_228, zAr T 0 a1_227 m1f r1f, zAr T 0 a2_228 7 r2f], wt, [zO10 xo t im mk rd po co tr wa wb_ fi cd], w2_295, z1_] _ _ := G.re rfl
            refine z_Vv (bc := [[zO3 fi e0f e1f e2f e3f e4f e5f a1_227 a2_228, zAr T 0 a1_227 m1f r1f, zAr T 0 a2_228 7 r2f], w2_295, z1_, wg0_]) (br := [z0_, wg1_, wwA, wt, [zO10 xo t im mk rd po co tr wa wb_ fi cd]]) (As := [.ref wb_, .ref g0]) (rest := []) C G (c_e_find l T fi e0f e1f e2f e3f e4f e5f r1f m1f r2f ([zO3 fi e0f e1f e2f e3f e4f e5f a1_227 a2_228, zAr T 0 a1_227 m1f r1f, zAr T 0 a2_228 7 r2f]) wb_ l1 m2_296 wy2_297 pc2_298 g1_299 g2_300 f3B g4_301 g5_302 g6_303 (zMk mdB n4B (zPl cr1_ inn1_ k11_)) w2_295 cr1_ inn1_ k11_ k21_ k31_ k41_ z1_ g0 gg0_ q10_ q20_ wg0_ hw_310 h_305 hz1_ hg0_ hn9 hI1_ h_308 hLq1 hfw hGg0) (kV_RX11_298 C.2.2.2.2 (Nat.le_of_ble_eq_true rfl) (Nat.le_of_ble_eq_true rfl)) [4, 7, 8, 1] [1, 2, 2, 0] rfl rfl (ci := 3) (qc := (RX3, TX3, 8)) rfl rfl (List.mem_flatten.mpr ⟨_, List.mem_of_getElem? (i := 0) rfl, (bFit_mem hw_310).choose_spec⟩) rfl rfl hl.1 dX11_fit_74 (Nat.le_of_ble_eq_true rfl) (by show _ + (2 * (zFl m1f wy2_297 - m1f)) ≤ 6 * (zNA (i1.toInt = 0 ∧ 0 < (fk 0).toInt ∧ (0 ≤ i2.toInt ∧ i2.toInt < (fk 2).toInt ∧ i2.toInt < 2) ∧ (e0f.toInt = 0 ∨ ¬ e1f.toInt = i1.toInt ∨ ¬ e2f.toInt = i2.toInt)) mdA n4A (zPl cr0_ inn0_ k10_) - n4A) + 6 * (zNA (i1.toInt = 1 ∧ 1 < (fk 0).toInt ∧ (0 ≤ i2.toInt ∧ i2.toInt < (fk 2).toInt ∧ i2.toInt < 2) ∧ (e0f.toInt = 0 ∨ ¬ e1f.toInt = i1.toInt ∨ ¬ e2f.toInt = i2.toInt)) mdB n4B (zPl cr1_ inn1_ k11_) - n4B) + 2 * (zNF (i1.toInt = 1 ∧ 1 < (fk 0).toInt ∧ (0 ≤ i2.toInt ∧ i2.toInt < (fk 2).toInt ∧ i2.toInt < 2) ∧ (e0f.toInt = 0 ∨ ¬ e1f.toInt = i1.toInt ∨ ¬ e2f.toInt = i2.toInt)) (zNF (i1.toInt = 0 ∧ 0 < (fk 0).toInt ∧ (0 ≤ i2.toInt ∧ i2.toInt < (fk 2).toInt ∧ i2.toInt < 2) ∧ (e0f.toInt = 0 ∨ ¬ e1f.toInt = i1.toInt ∨ ¬ e2f.toInt = i2.toInt)) m1f (zMw mdA wyA cr0_ inn0_ k10_)) (zMw mdB wyB cr1_ inn1_ k11_) - m1f); omega) (fun b1 H locs hw G => ?_)
            refine zEx5 hw ?_
            intro w2_311 s3_312 s4_313 s5_314 g1_315
            refine zCu7 ?_
            intro hbs9 h_316 h_317 h_318 h_319 h_320 h_321
            clear hw
            subst hbs9
            have G : zS T A s.heap s [z0_, wg1_, wwA, wt, [zO10 xo t im mk rd po co tr wa wb_ fi cd], w2_311, w2_295, z1_, wg0_] _ _ := G
            have h39 : 0 ≤ (nI s3_312).toInt := by rw [nI_toInt (by omega)]; omega
            have hft9 : gFt (fun w => gF (aW cr1_ inn1_ k11_) k21_ cr1_ inn1_ q10_ q20_ w gg0_.toInt.toNat) (aPr (aW cr1_ inn1_ k11_) 7) (nI s3_312) s4_313 s5_314 g1_315 (zFl m1f wy2_297) := ⟨congrArg nI h_317, h_318.1, h_318.2, h_319, by rw [← h_317]; exact h_321⟩
            refine lv_aload_n hx hb dX11_fit_77 rfl (lv_at hl 2 rfl) ?_
            refine z_get C G clX11 4 rfl 9 (by decide) m_fl_RX11_65 rfl dX11_fit_78 ?_
            refine lv_iload_n hx hb dX11_fit_81 rfl (lv_at hl 3 rfl) ?_
            refine zEx2 h_316 ?_
            intro a1_323 a2_324 hbs9
            clear h_316
            subst hbs9
            have G : zS T A s.heap s [z0_, wg1_, wwA, wt, [zO10 xo t im mk rd po co tr wa wb_ fi cd], [zO3 fi e0f e1f e2f (nI s3_312) s4_313 s5_314 a1_323 a2_324], [zAr T 0 a1_323 (zFl m1f wy2_297) g1_315], [zAr T 0 a2_324 7 r2f], w2_295, z1_, wg0_] _ _ := G.re rfl
            refine z_put C G clX3 5 rfl 1 (by decide) m_fl_RX11_292 rfl rfl rfl (Nat.le_of_ble_eq_true rfl) dX11_fit_82 (fun H locs G => ?_)
            have G : zS T A s.heap s [z0_, wg1_, wwA, wt, [zO10 xo t im mk rd po co tr wa wb_ fi cd], [zO3 fi e0f i1 e2f (nI s3_312) s4_313 s5_314 a1_323 a2_324], [zAr T 0 a1_323 (zFl m1f wy2_297) g1_315], [zAr T 0 a2_324 7 r2f], w2_295, z1_, wg0_] _ _ := G
            refine lv_aload_n hx hb dX11_fit_85 rfl (lv_at hl 2 rfl) ?_
            refine z_get C G clX11 4 rfl 9 (by decide) m_fl_RX11_65 rfl dX11_fit_86 ?_
            refine lv_iload_n hx hb dX11_fit_89 rfl (lv_at hl 4 rfl) ?_
            refine z_put C G clX3 5 rfl 2 (by decide) m_fl_RX11_295 rfl rfl rfl (Nat.le_of_ble_eq_true rfl) dX11_fit_90 (fun H locs G => ?_)
            have G : zS T A s.heap s [z0_, wg1_, wwA, wt, [zO10 xo t im mk rd po co tr wa wb_ fi cd], [zO3 fi e0f i1 i2 (nI s3_312) s4_313 s5_314 a1_323 a2_324], [zAr T 0 a1_323 (zFl m1f wy2_297) g1_315], [zAr T 0 a2_324 7 r2f], w2_295, z1_, wg0_] _ _ := G
            refine lv_aload_n hx hb dX11_fit_93 rfl (lv_at hl 2 rfl) ?_
            refine z_get C G clX11 4 rfl 9 (by decide) m_fl_RX11_65 rfl dX11_fit_94 ?_
            refine lv_iconst (v := 1) hx hb dX11_fit_97 (by decide) ?_
            refine z_put C G clX3 5 rfl 0 (by decide) m_fl_RX11_109 rfl rfl rfl (Nat.le_of_ble_eq_true rfl) dX11_fit_98 (fun H locs G => ?_)
            have G : zS T A s.heap s [z0_, wg1_, wwA, wt, [zO10 xo t im mk rd po co tr wa wb_ fi cd], [zO3 fi 1 i1 i2 (nI s3_312) s4_313 s5_314 a1_323 a2_324], [zAr T 0 a1_323 (zFl m1f wy2_297) g1_315], [zAr T 0 a2_324 7 r2f], w2_295, z1_, wg0_] _ _ := G
            refine lv_iconst (v := 1) hx hb dX11_fit_101 (by decide) ?_
            have hw_325 : bFit T fi 1 i1 i2 (nI s3_312) s4_313 s5_314 g1_315 (zFl m1f wy2_297) r2f [zO3 fi 1 i1 i2 (nI s3_312) s4_313 s5_314 a1_323 a2_324, zAr T 0 a1_323 (zFl m1f wy2_297) g1_315, zAr T 0 a2_324 7 r2f] := ⟨a1_323, a2_324, rfl⟩
            have G : zS T A s.heap s [z0_, wg1_, wwA, wt, [zO10 xo t im mk rd po co tr wa wb_ fi cd], [zO3 fi 1 i1 i2 (nI s3_312) s4_313 s5_314 a1_323 a2_324, zAr T 0 a1_323 (zFl m1f wy2_297) g1_315, zAr T 0 a2_324 7 r2f], w2_295, z1_, wg0_] _ _ := G.re rfl
            have G := G.sub (bs' := [[zO10 xo t im mk rd po co tr wa wb_ fi cd], wt, z0_, z1_, wg0_, wg1_, wwA, w2_295, [zO3 fi 1 i1 i2 (nI s3_312) s4_313 s5_314 a1_323 a2_324, zAr T 0 a1_323 (zFl m1f wy2_297) g1_315, zAr T 0 a2_324 7 r2f]]) [4, 3, 0, 7, 8, 1, 2, 6, 5] rfl
            exact z_back hQz_ (z_zret C hr hlocks G (Nat.le_of_ble_eq_true rfl) (by omega) dX11_fit_102 rfl ⟨laA, mdA, wyA, pc_A, f1A, f2A, f3A, f4A, f5A, f6A, n4A, wwA, l1, m2_296, wy2_297, pc2_298, g1_299, g2_300, f3B, g4_301, g5_302, g6_303, (zMk mdB n4B (zPl cr1_ inn1_ k11_)), w2_295, 1, i1, i2, (nI s3_312), s4_313, s5_314, g1_315, (zFl m1f wy2_297), r2f, ([zO3 fi 1 i1 i2 (nI s3_312) s4_313 s5_314 a1_323 a2_324, zAr T 0 a1_323 (zFl m1f wy2_297) g1_315, zAr T 0 a2_324 7 r2f]), rfl, hwwA, hmdA, hwmA, (zNA_n (by omega)).symm, hpwA, (fun q => q), hTbA, h_305, (Or.inr rfl), hwy9, hNAm.symm, (zMk_pw hpwB), (fun _ => h_307), (Or.inr h_308), hw_325, hNF.symm, hfw9, h39, (Or.inr ⟨rfl, by omega, by decide, rfl⟩), (fun _ => Or.inr ⟨by omega, h_307⟩), (fun _ y1 y2 => by exfalso; omega), (fun _ y1 y2 => by exfalso; omega), (fun _ _ _ => hft9), (fun _ y1 y2 => by exfalso; omega), (Or.inr rfl)⟩)
    · have h_225 : i2.toInt = 1 := h_225
      have h_226 : 1 < (fk 2).toInt := h_226
      refine lv_astore (lv' := [(4, .ref g1), (3, .ref l1), (0, .ref xo), (1, .int i1), (2, .int i2)]) hx hb dX11_fit_17 hl (by decide) (zLvf_h rfl) (fun ls hl => ?_)
      refine lv_aload_n hx hb dX11_fit_19 rfl (lv_at hl 1 rfl) ?_
      refine lv_ifnull hx hb dX11_fit_20 ?_
      refine lv_aload hx hb dX11_fit_23 (lv_at hl 0 rfl) ?_
      refine lv_ifnonnull (tgt := 30) hx hb dX11_fit_25 (by decide) ?_
      refine lv_aload_n hx hb dX11_fit_30 rfl (lv_at hl 2 rfl) ?_
      refine z_get C G clX11 0 rfl 9 (by decide) m_fl_RX11_65 rfl dX11_fit_31 ?_
      refine zEx2 hwff ?_
      intro a1_326 a2_327 hbs9
      clear hwff
      subst hbs9
      have G : zS T A s.heap s [[zO10 xo t im mk rd po co tr wa wb_ fi cd], z0_, z1_, wg0_, wg1_, wwA, wwB, [zO3 fi e0f e1f e2f e3f e4f e5f a1_326 a2_327], [zAr T 0 a1_326 m1f r1f], [zAr T 0 a2_327 7 r2f], wt] _ _ := G.re rfl
      refine z_get C G clX3 7 rfl 0 (by decide) m_fl_RX11_109 rfl dX11_fit_34 ?_
      refine lv_if_eq (tgt := 62) hx hb dX11_fit_37 (by decide) (fun c_328 => ?_) (fun c_328 => ?_)
      · have c_328n : e0f.toInt = (0 : Int) := (fa_eq _ _).mp c_328
        refine lv_aload_n hx hb dX11_fit_62 rfl (lv_at hl 2 rfl) ?_
        refine z_get C G clX11 0 rfl 9 (by decide) m_fl_RX11_65 rfl dX11_fit_63 ?_
        refine lv_aload_n hx hb dX11_fit_66 rfl (lv_at hl 2 rfl) ?_
        refine lv_iload_n hx hb dX11_fit_67 rfl (lv_at hl 3 rfl) ?_
        refine lv_aload_n hx hb dX11_fit_68 rfl (lv_at hl 1 rfl) ?_
        have hcF : (i1.toInt = 1 ∧ 1 < (fk 0).toInt ∧ (0 ≤ i2.toInt ∧ i2.toInt < (fk 2).toInt ∧ i2.toInt < 2) ∧ (e0f.toInt = 0 ∨ ¬ e1f.toInt = i1.toInt ∨ ¬ e2f.toInt = i2.toInt)) := by omega
        have hcN : ¬ (i1.toInt = 0 ∧ 0 < (fk 0).toInt ∧ (0 ≤ i2.toInt ∧ i2.toInt < (fk 2).toInt ∧ i2.toInt < 2) ∧ (e0f.toInt = 0 ∨ ¬ e1f.toInt = i1.toInt ∨ ¬ e2f.toInt = i2.toInt)) := by omega
        have hNAm : zNA (i1.toInt = 1 ∧ 1 < (fk 0).toInt ∧ (0 ≤ i2.toInt ∧ i2.toInt < (fk 2).toInt ∧ i2.toInt < 2) ∧ (e0f.toInt = 0 ∨ ¬ e1f.toInt = i1.toInt ∨ ¬ e2f.toInt = i2.toInt)) mdB n4B (zPl cr1_ inn1_ k11_) = zMk mdB n4B (zPl cr1_ inn1_ k11_) := zNA_y hcF
        have hNAo : zNA (i1.toInt = 0 ∧ 0 < (fk 0).toInt ∧ (0 ≤ i2.toInt ∧ i2.toInt < (fk 2).toInt ∧ i2.toInt < 2) ∧ (e0f.toInt = 0 ∨ ¬ e1f.toInt = i1.toInt ∨ ¬ e2f.toInt = i2.toInt)) mdA n4A (zPl cr0_ inn0_ k10_) = n4A := zNA_n hcN
        have hn9 : zMk mdB n4B (zPl cr1_ inn1_ k11_) ≤ 131072 := zPw_le (zMk_pw hpwB)
        refine z_Vq (bc := [[zO10 xo t im mk rd po co tr wa wb_ fi cd], wwB, z1_]) (br := [z0_, wg0_, wg1_, wwA, [zO3 fi e0f e1f e2f e3f e4f e5f a1_326 a2_327], [zAr T 0 a1_326 m1f r1f], [zAr T 0 a2_327 7 r2f], wt]) (As := [.int i1, .ref l1]) (rest := [.ref fi]) C G (c_f_waysInB l T xo t im mk rd po co tr wa wb_ fi cd i1 laB mdB wyB pc_B f1B f2B f3B f4B f5B f6B n4B wwB l1 cr1_ inn1_ k11_ k21_ k31_ k41_ z1_ hwwB hz1_ hI1_ hpwB hmdB (kaOk hI1_ hLq1).1 hTbB (by omega)) (kV_RX11_235 C.2.2.2.2 (Nat.le_of_ble_eq_true rfl) (Nat.le_of_ble_eq_true rfl)) [0, 6, 2] [0, 1, 3] rfl rfl (ci := 10) (qc := (RX11, TX11, 11)) rfl rfl (List.mem_flatten.mpr ⟨_, List.mem_of_getElem? (i := 0) rfl, List.mem_cons_self⟩) rfl rfl hl.1 dX11_fit_69 (Nat.le_of_ble_eq_true rfl) (by show _ + (6 * (zMk mdB n4B (zPl cr1_ inn1_ k11_) - n4B)) ≤ 6 * (zNA (i1.toInt = 0 ∧ 0 < (fk 0).toInt ∧ (0 ≤ i2.toInt ∧ i2.toInt < (fk 2).toInt ∧ i2.toInt < 2) ∧ (e0f.toInt = 0 ∨ ¬ e1f.toInt = i1.toInt ∨ ¬ e2f.toInt = i2.toInt)) mdA n4A (zPl cr0_ inn0_ k10_) - n4A) + 6 * (zNA (i1.toInt = 1 ∧ 1 < (fk 0).toInt ∧ (0 ≤ i2.toInt ∧ i2.toInt < (fk 2).toInt ∧ i2.toInt < 2) ∧ (e0f.toInt = 0 ∨ ¬ e1f.toInt = i1.toInt ∨ ¬ e2f.toInt = i2.toInt)) mdB n4B (zPl cr1_ inn1_ k11_) - n4B) + 2 * (zNF (i1.toInt = 1 ∧ 1 < (fk 0).toInt ∧ (0 ≤ i2.toInt ∧ i2.toInt < (fk 2).toInt ∧ i2.toInt < 2) ∧ (e0f.toInt = 0 ∨ ¬ e1f.toInt = i1.toInt ∨ ¬ e2f.toInt = i2.toInt)) (zNF (i1.toInt = 0 ∧ 0 < (fk 0).toInt ∧ (0 ≤ i2.toInt ∧ i2.toInt < (fk 2).toInt ∧ i2.toInt < 2) ∧ (e0f.toInt = 0 ∨ ¬ e1f.toInt = i1.toInt ∨ ¬ e2f.toInt = i2.toInt)) m1f (zMw mdA wyA cr0_ inn0_ k10_)) (zMw mdB wyB cr1_ inn1_ k11_) - m1f); omega) (fun r_343 b1 H locs hw G => ?_)
        refine zEx9 hw ?_
        intro w2_329 m2_330 wy2_331 pc2_332 g1_333 g2_334 g4_335 g5_336 g6_337
        refine zCu6 ?_
        intro hbs9 h_338 h_339 h_340 h_341 h_342
        clear hw
        subst hbs9
        have G : zS T A s.heap s [z0_, wg0_, wg1_, wwA, [zO3 fi e0f e1f e2f e3f e4f e5f a1_326 a2_327], [zAr T 0 a1_326 m1f r1f], [zAr T 0 a2_327 7 r2f], wt, [zO10 xo t im mk rd po co tr wa wb_ fi cd], w2_329, z1_] _ _ := G
        subst h_338
        have hwy9 : 0 ≤ wy2_331.toInt ∧ wy2_331.toInt ≤ 16384 := by have q9 := zWy_in (inn := inn1_) hI1_; rw [h_340]; exact ⟨by omega, q9.2⟩
        have hmw9 : wy2_331 = (zMw mdB wyB cr1_ inn1_ k11_) := by unfold zMw; by_cases q9 : mdB = 0 <;> first | (rw [if_pos q9]; exact h_340) | (rw [if_neg q9]; exact h_340.trans ((hTbB.resolve_left q9).1).symm)
        have hNF : zNF (i1.toInt = 1 ∧ 1 < (fk 0).toInt ∧ (0 ≤ i2.toInt ∧ i2.toInt < (fk 2).toInt ∧ i2.toInt < 2) ∧ (e0f.toInt = 0 ∨ ¬ e1f.toInt = i1.toInt ∨ ¬ e2f.toInt = i2.toInt)) (zNF (i1.toInt = 0 ∧ 0 < (fk 0).toInt ∧ (0 ≤ i2.toInt ∧ i2.toInt < (fk 2).toInt ∧ i2.toInt < 2) ∧ (e0f.toInt = 0 ∨ ¬ e1f.toInt = i1.toInt ∨ ¬ e2f.toInt = i2.toInt)) m1f (zMw mdA wyA cr0_ inn0_ k10_)) (zMw mdB wyB cr1_ inn1_ k11_) = zFl m1f wy2_331 := by rw [zNF_y (c := (i1.toInt = 1 ∧ 1 < (fk 0).toInt ∧ (0 ≤ i2.toInt ∧ i2.toInt < (fk 2).toInt ∧ i2.toInt < 2) ∧ (e0f.toInt = 0 ∨ ¬ e1f.toInt = i1.toInt ∨ ¬ e2f.toInt = i2.toInt))) hcF, zNF_n (c := (i1.toInt = 0 ∧ 0 < (fk 0).toInt ∧ (0 ≤ i2.toInt ∧ i2.toInt < (fk 2).toInt ∧ i2.toInt < 2) ∧ (e0f.toInt = 0 ∨ ¬ e1f.toInt = i1.toInt ∨ ¬ e2f.toInt = i2.toInt))) hcN, hmw9]
        have hfw9 := zFl_pw (wy := wy2_331) hfw
        refine lv_aload hx hb dX11_fit_72 (lv_at hl 0 rfl) ?_
        have hw_344 : bFit T fi e0f e1f e2f e3f e4f e5f r1f m1f r2f [zO3 fi e0f e1f e2f e3f e4f e5f a1_326 a2_327, zAr T 0 a1_326 m1f r1f, zAr T 0 a2_327 7 r2f] := ⟨a1_326, a2_327, rfl⟩
        have G : zS T A s.heap s [z0_, wg0_, wg1_, wwA, [zO3 fi e0f e1f e2f e3f e4f e5f a1_326 a2_327, zAr T 0 a1_326 m1f r1f, zAr T 0 a2_327 7 r2f], wt, [zO10 xo t im mk rd po co tr wa wb_ fi cd], w2_329, z1_] _ _ := G.re rfl
        refine z_Vv (bc := [[zO3 fi e0f e1f e2f e3f e4f e5f a1_326 a2_327, zAr T 0 a1_326 m1f r1f, zAr T 0 a2_327 7 r2f], w2_329, z1_, wg1_]) (br := [z0_, wg0_, wwA, wt, [zO10 xo t im mk rd po co tr wa wb_ fi cd]]) (As := [.ref wb_, .ref g1]) (rest := []) C G (c_e_find l T fi e0f e1f e2f e3f e4f e5f r1f m1f r2f ([zO3 fi e0f e1f e2f e3f e4f e5f a1_326 a2_327, zAr T 0 a1_326 m1f r1f, zAr T 0 a2_327 7 r2f]) wb_ l1 m2_330 wy2_331 pc2_332 g1_333 g2_334 f3B g4_335 g5_336 g6_337 (zMk mdB n4B (zPl cr1_ inn1_ k11_)) w2_329 cr1_ inn1_ k11_ k21_ k31_ k41_ z1_ g1 gg1_ q11_ q21_ wg1_ hw_344 h_339 hz1_ hg1_ hn9 hI1_ h_342 hLq1 hfw hGg1) (kV_RX11_298 C.2.2.2.2 (Nat.le_of_ble_eq_true rfl) (Nat.le_of_ble_eq_true rfl)) [4, 7, 8, 2] [2, 1, 2, 0] rfl rfl (ci := 3) (qc := (RX3, TX3, 8)) rfl rfl (List.mem_flatten.mpr ⟨_, List.mem_of_getElem? (i := 0) rfl, (bFit_mem hw_344).choose_spec⟩) rfl rfl hl.1 dX11_fit_74 (Nat.le_of_ble_eq_true rfl) (by show _ + (2 * (zFl m1f wy2_331 - m1f)) ≤ 6 * (zNA (i1.toInt = 0 ∧ 0 < (fk 0).toInt ∧ (0 ≤ i2.toInt ∧ i2.toInt < (fk 2).toInt ∧ i2.toInt < 2) ∧ (e0f.toInt = 0 ∨ ¬ e1f.toInt = i1.toInt ∨ ¬ e2f.toInt = i2.toInt)) mdA n4A (zPl cr0_ inn0_ k10_) - n4A) + 6 * (zNA (i1.toInt = 1 ∧ 1 < (fk 0).toInt ∧ (0 ≤ i2.toInt ∧ i2.toInt < (fk 2).toInt ∧ i2.toInt < 2) ∧ (e0f.toInt = 0 ∨ ¬ e1f.toInt = i1.toInt ∨ ¬ e2f.toInt = i2.toInt)) mdB n4B (zPl cr1_ inn1_ k11_) - n4B) + 2 * (zNF (i1.toInt = 1 ∧ 1 < (fk 0).toInt ∧ (0 ≤ i2.toInt ∧ i2.toInt < (fk 2).toInt ∧ i2.toInt < 2) ∧ (e0f.toInt = 0 ∨ ¬ e1f.toInt = i1.toInt ∨ ¬ e2f.toInt = i2.toInt)) (zNF (i1.toInt = 0 ∧ 0 < (fk 0).toInt ∧ (0 ≤ i2.toInt ∧ i2.toInt < (fk 2).toInt ∧ i2.toInt < 2) ∧ (e0f.toInt = 0 ∨ ¬ e1f.toInt = i1.toInt ∨ ¬ e2f.toInt = i2.toInt)) m1f (zMw mdA wyA cr0_ inn0_ k10_)) (zMw mdB wyB cr1_ inn1_ k11_) - m1f); omega) (fun b1 H locs hw G => ?_)
        refine zEx5 hw ?_
        intro w2_345 s3_346 s4_347 s5_348 g1_349
        refine zCu7 ?_
        intro hbs9 h_350 h_351 h_352 h_353 h_354 h_355
        clear hw
        subst hbs9
        have G : zS T A s.heap s [z0_, wg0_, wwA, wt, [zO10 xo t im mk rd po co tr wa wb_ fi cd], w2_345, w2_329, z1_, wg1_] _ _ := G
        have h39 : 0 ≤ (nI s3_346).toInt := by rw [nI_toInt (by omega)]; omega
        have hft9 : gFt (fun w => gF (aW cr1_ inn1_ k11_) k21_ cr1_ inn1_ q11_ q21_ w gg1_.toInt.toNat) (aPr (aW cr1_ inn1_ k11_) 7) (nI s3_346) s4_347 s5_348 g1_349 (zFl m1f wy2_331) := ⟨congrArg nI h_351, h_352.1, h_352.2, h_353, by rw [← h_351]; exact h_355⟩
        refine lv_aload_n hx hb dX11_fit_77 rfl (lv_at hl 2 rfl) ?_
        refine z_get C G clX11 4 rfl 9 (by decide) m_fl_RX11_65 rfl dX11_fit_78 ?_
        refine lv_iload_n hx hb dX11_fit_81 rfl (lv_at hl 3 rfl) ?_
        refine zEx2 h_350 ?_
        intro a1_357 a2_358 hbs9
        clear h_350
        subst hbs9
        have G : zS T A s.heap s [z0_, wg0_, wwA, wt, [zO10 xo t im mk rd po co tr wa wb_ fi cd], [zO3 fi e0f e1f e2f (nI s3_346) s4_347 s5_348 a1_357 a2_358], [zAr T 0 a1_357 (zFl m1f wy2_331) g1_349], [zAr T 0 a2_358 7 r2f], w2_329, z1_, wg1_] _ _ := G.re rfl
        refine z_put C G clX3 5 rfl 1 (by decide) m_fl_RX11_292 rfl rfl rfl (Nat.le_of_ble_eq_true rfl) dX11_fit_82 (fun H locs G => ?_)
        have G : zS T A s.heap s [z0_, wg0_, wwA, wt, [zO10 xo t im mk rd po co tr wa wb_ fi cd], [zO3 fi e0f i1 e2f (nI s3_346) s4_347 s5_348 a1_357 a2_358], [zAr T 0 a1_357 (zFl m1f wy2_331) g1_349], [zAr T 0 a2_358 7 r2f], w2_329, z1_, wg1_] _ _ := G
        refine lv_aload_n hx hb dX11_fit_85 rfl (lv_at hl 2 rfl) ?_
        refine z_get C G clX11 4 rfl 9 (by decide) m_fl_RX11_65 rfl dX11_fit_86 ?_
        refine lv_iload_n hx hb dX11_fit_89 rfl (lv_at hl 4 rfl) ?_
        refine z_put C G clX3 5 rfl 2 (by decide) m_fl_RX11_295 rfl rfl rfl (Nat.le_of_ble_eq_true rfl) dX11_fit_90 (fun H locs G => ?_)
        have G : zS T A s.heap s [z0_, wg0_, wwA, wt, [zO10 xo t im mk rd po co tr wa wb_ fi cd], [zO3 fi e0f i1 i2 (nI s3_346) s4_347 s5_348 a1_357 a2_358], [zAr T 0 a1_357 (zFl m1f wy2_331) g1_349], [zAr T 0 a2_358 7 r2f], w2_329, z1_, wg1_] _ _ := G
        refine lv_aload_n hx hb dX11_fit_93 rfl (lv_at hl 2 rfl) ?_
        refine z_get C G clX11 4 rfl 9 (by decide) m_fl_RX11_65 rfl dX11_fit_94 ?_
        refine lv_iconst (v := 1) hx hb dX11_fit_97 (by decide) ?_
        refine z_put C G clX3 5 rfl 0 (by decide) m_fl_RX11_109 rfl rfl rfl (Nat.le_of_ble_eq_true rfl) dX11_fit_98 (fun H locs G => ?_)
        have G : zS T A s.heap s [z0_, wg0_, wwA, wt, [zO10 xo t im mk rd po co tr wa wb_ fi cd], [zO3 fi 1 i1 i2 (nI s3_346) s4_347 s5_348 a1_357 a2_358], [zAr T 0 a1_357 (zFl m1f wy2_331) g1_349], [zAr T 0 a2_358 7 r2f], w2_329, z1_, wg1_] _ _ := G
        refine lv_iconst (v := 1) hx hb dX11_fit_101 (by decide) ?_
        have hw_359 : bFit T fi 1 i1 i2 (nI s3_346) s4_347 s5_348 g1_349 (zFl m1f wy2_331) r2f [zO3 fi 1 i1 i2 (nI s3_346) s4_347 s5_348 a1_357 a2_358, zAr T 0 a1_357 (zFl m1f wy2_331) g1_349, zAr T 0 a2_358 7 r2f] := ⟨a1_357, a2_358, rfl⟩
        have G : zS T A s.heap s [z0_, wg0_, wwA, wt, [zO10 xo t im mk rd po co tr wa wb_ fi cd], [zO3 fi 1 i1 i2 (nI s3_346) s4_347 s5_348 a1_357 a2_358, zAr T 0 a1_357 (zFl m1f wy2_331) g1_349, zAr T 0 a2_358 7 r2f], w2_329, z1_, wg1_] _ _ := G.re rfl
        have G := G.sub (bs' := [[zO10 xo t im mk rd po co tr wa wb_ fi cd], wt, z0_, z1_, wg0_, wg1_, wwA, w2_329, [zO3 fi 1 i1 i2 (nI s3_346) s4_347 s5_348 a1_357 a2_358, zAr T 0 a1_357 (zFl m1f wy2_331) g1_349, zAr T 0 a2_358 7 r2f]]) [4, 3, 0, 7, 1, 8, 2, 6, 5] rfl
        exact z_back hQz_ (z_zret C hr hlocks G (Nat.le_of_ble_eq_true rfl) (by omega) dX11_fit_102 rfl ⟨laA, mdA, wyA, pc_A, f1A, f2A, f3A, f4A, f5A, f6A, n4A, wwA, l1, m2_330, wy2_331, pc2_332, g1_333, g2_334, f3B, g4_335, g5_336, g6_337, (zMk mdB n4B (zPl cr1_ inn1_ k11_)), w2_329, 1, i1, i2, (nI s3_346), s4_347, s5_348, g1_349, (zFl m1f wy2_331), r2f, ([zO3 fi 1 i1 i2 (nI s3_346) s4_347 s5_348 a1_357 a2_358, zAr T 0 a1_357 (zFl m1f wy2_331) g1_349, zAr T 0 a2_358 7 r2f]), rfl, hwwA, hmdA, hwmA, (zNA_n (by omega)).symm, hpwA, (fun q => q), hTbA, h_339, (Or.inr rfl), hwy9, hNAm.symm, (zMk_pw hpwB), (fun _ => h_341), (Or.inr h_342), hw_359, hNF.symm, hfw9, h39, (Or.inr ⟨rfl, by omega, by decide, rfl⟩), (fun _ => Or.inr ⟨by omega, h_341⟩), (fun _ y1 y2 => by exfalso; omega), (fun _ y1 y2 => by exfalso; omega), (fun _ y1 y2 => by exfalso; omega), (fun _ _ _ => hft9), (Or.inr rfl)⟩)
      · have c_328n : ¬ e0f.toInt = (0 : Int) := fun q => c_328 ((fa_eq _ _).mpr q)
        refine lv_aload_n hx hb dX11_fit_40 rfl (lv_at hl 2 rfl) ?_
        refine z_get C G clX11 0 rfl 9 (by decide) m_fl_RX11_65 rfl dX11_fit_41 ?_
        refine z_get C G clX3 7 rfl 1 (by decide) m_fl_RX11_292 rfl dX11_fit_44 ?_
        refine lv_iload_n hx hb dX11_fit_47 rfl (lv_at hl 3 rfl) ?_
        refine lv_icmp_ne (tgt := 62) hx hb dX11_fit_48 (by decide) (fun c_360 => ?_) (fun c_360 => ?_)
        · have c_360n : ¬ e1f.toInt = i1.toInt := fun q => c_360 ((fa_eq _ _).mpr q)
          refine lv_aload_n hx hb dX11_fit_62 rfl (lv_at hl 2 rfl) ?_
          refine z_get C G clX11 0 rfl 9 (by decide) m_fl_RX11_65 rfl dX11_fit_63 ?_
          refine lv_aload_n hx hb dX11_fit_66 rfl (lv_at hl 2 rfl) ?_
          refine lv_iload_n hx hb dX11_fit_67 rfl (lv_at hl 3 rfl) ?_
          refine lv_aload_n hx hb dX11_fit_68 rfl (lv_at hl 1 rfl) ?_
          have hcF : (i1.toInt = 1 ∧ 1 < (fk 0).toInt ∧ (0 ≤ i2.toInt ∧ i2.toInt < (fk 2).toInt ∧ i2.toInt < 2) ∧ (e0f.toInt = 0 ∨ ¬ e1f.toInt = i1.toInt ∨ ¬ e2f.toInt = i2.toInt)) := by omega
          have hcN : ¬ (i1.toInt = 0 ∧ 0 < (fk 0).toInt ∧ (0 ≤ i2.toInt ∧ i2.toInt < (fk 2).toInt ∧ i2.toInt < 2) ∧ (e0f.toInt = 0 ∨ ¬ e1f.toInt = i1.toInt ∨ ¬ e2f.toInt = i2.toInt)) := by omega
          have hNAm : zNA (i1.toInt = 1 ∧ 1 < (fk 0).toInt ∧ (0 ≤ i2.toInt ∧ i2.toInt < (fk 2).toInt ∧ i2.toInt < 2) ∧ (e0f.toInt = 0 ∨ ¬ e1f.toInt = i1.toInt ∨ ¬ e2f.toInt = i2.toInt)) mdB n4B (zPl cr1_ inn1_ k11_) = zMk mdB n4B (zPl cr1_ inn1_ k11_) := zNA_y hcF
          have hNAo : zNA (i1.toInt = 0 ∧ 0 < (fk 0).toInt ∧ (0 ≤ i2.toInt ∧ i2.toInt < (fk 2).toInt ∧ i2.toInt < 2) ∧ (e0f.toInt = 0 ∨ ¬ e1f.toInt = i1.toInt ∨ ¬ e2f.toInt = i2.toInt)) mdA n4A (zPl cr0_ inn0_ k10_) = n4A := zNA_n hcN
          have hn9 : zMk mdB n4B (zPl cr1_ inn1_ k11_) ≤ 131072 := zPw_le (zMk_pw hpwB)
          refine z_Vq (bc := [[zO10 xo t im mk rd po co tr wa wb_ fi cd], wwB, z1_]) (br := [z0_, wg0_, wg1_, wwA, [zO3 fi e0f e1f e2f e3f e4f e5f a1_326 a2_327], [zAr T 0 a1_326 m1f r1f], [zAr T 0 a2_327 7 r2f], wt]) (As := [.int i1, .ref l1]) (rest := [.ref fi]) C G (c_f_waysInB l T xo t im mk rd po co tr wa wb_ fi cd i1 laB mdB wyB pc_B f1B f2B f3B f4B f5B f6B n4B wwB l1 cr1_ inn1_ k11_ k21_ k31_ k41_ z1_ hwwB hz1_ hI1_ hpwB hmdB (kaOk hI1_ hLq1).1 hTbB (by omega)) (kV_RX11_235 C.2.2.2.2 (Nat.le_of_ble_eq_true rfl) (Nat.le_of_ble_eq_true rfl)) [0, 6, 2] [0, 1, 3] rfl rfl (ci := 10) (qc := (RX11, TX11, 11)) rfl rfl (List.mem_flatten.mpr ⟨_, List.mem_of_getElem? (i := 0) rfl, List.mem_cons_self⟩) rfl rfl hl.1 dX11_fit_69 (Nat.le_of_ble_eq_true rfl) (by show _ + (6 * (zMk mdB n4B (zPl cr1_ inn1_ k11_) - n4B)) ≤ 6 * (zNA (i1.toInt = 0 ∧ 0 < (fk 0).toInt ∧ (0 ≤ i2.toInt ∧ i2.toInt < (fk 2).toInt ∧ i2.toInt < 2) ∧ (e0f.toInt = 0 ∨ ¬ e1f.toInt = i1.toInt ∨ ¬ e2f.toInt = i2.toInt)) mdA n4A (zPl cr0_ inn0_ k10_) - n4A) + 6 * (zNA (i1.toInt = 1 ∧ 1 < (fk 0).toInt ∧ (0 ≤ i2.toInt ∧ i2.toInt < (fk 2).toInt ∧ i2.toInt < 2) ∧ (e0f.toInt = 0 ∨ ¬ e1f.toInt = i1.toInt ∨ ¬ e2f.toInt = i2.toInt)) mdB n4B (zPl cr1_ inn1_ k11_) - n4B) + 2 * (zNF (i1.toInt = 1 ∧ 1 < (fk 0).toInt ∧ (0 ≤ i2.toInt ∧ i2.toInt < (fk 2).toInt ∧ i2.toInt < 2) ∧ (e0f.toInt = 0 ∨ ¬ e1f.toInt = i1.toInt ∨ ¬ e2f.toInt = i2.toInt)) (zNF (i1.toInt = 0 ∧ 0 < (fk 0).toInt ∧ (0 ≤ i2.toInt ∧ i2.toInt < (fk 2).toInt ∧ i2.toInt < 2) ∧ (e0f.toInt = 0 ∨ ¬ e1f.toInt = i1.toInt ∨ ¬ e2f.toInt = i2.toInt)) m1f (zMw mdA wyA cr0_ inn0_ k10_)) (zMw mdB wyB cr1_ inn1_ k11_) - m1f); omega) (fun r_375 b1 H locs hw G => ?_)
          refine zEx9 hw ?_
          intro w2_361 m2_362 wy2_363 pc2_364 g1_365 g2_366 g4_367 g5_368 g6_369
          refine zCu6 ?_
          intro hbs9 h_370 h_371 h_372 h_373 h_374
          clear hw
          subst hbs9
          have G : zS T A s.heap s [z0_, wg0_, wg1_, wwA, [zO3 fi e0f e1f e2f e3f e4f e5f a1_326 a2_327], [zAr T 0 a1_326 m1f r1f], [zAr T 0 a2_327 7 r2f], wt, [zO10 xo t im mk rd po co tr wa wb_ fi cd], w2_361, z1_] _ _ := G
          subst h_370
          have hwy9 : 0 ≤ wy2_363.toInt ∧ wy2_363.toInt ≤ 16384 := by have q9 := zWy_in (inn := inn1_) hI1_; rw [h_372]; exact ⟨by omega, q9.2⟩
          have hmw9 : wy2_363 = (zMw mdB wyB cr1_ inn1_ k11_) := by unfold zMw; by_cases q9 : mdB = 0 <;> first | (rw [if_pos q9]; exact h_372) | (rw [if_neg q9]; exact h_372.trans ((hTbB.resolve_left q9).1).symm)
          have hNF : zNF (i1.toInt = 1 ∧ 1 < (fk 0).toInt ∧ (0 ≤ i2.toInt ∧ i2.toInt < (fk 2).toInt ∧ i2.toInt < 2) ∧ (e0f.toInt = 0 ∨ ¬ e1f.toInt = i1.toInt ∨ ¬ e2f.toInt = i2.toInt)) (zNF (i1.toInt = 0 ∧ 0 < (fk 0).toInt ∧ (0 ≤ i2.toInt ∧ i2.toInt < (fk 2).toInt ∧ i2.toInt < 2) ∧ (e0f.toInt = 0 ∨ ¬ e1f.toInt = i1.toInt ∨ ¬ e2f.toInt = i2.toInt)) m1f (zMw mdA wyA cr0_ inn0_ k10_)) (zMw mdB wyB cr1_ inn1_ k11_) = zFl m1f wy2_363 := by rw [zNF_y (c := (i1.toInt = 1 ∧ 1 < (fk 0).toInt ∧ (0 ≤ i2.toInt ∧ i2.toInt < (fk 2).toInt ∧ i2.toInt < 2) ∧ (e0f.toInt = 0 ∨ ¬ e1f.toInt = i1.toInt ∨ ¬ e2f.toInt = i2.toInt))) hcF, zNF_n (c := (i1.toInt = 0 ∧ 0 < (fk 0).toInt ∧ (0 ≤ i2.toInt ∧ i2.toInt < (fk 2).toInt ∧ i2.toInt < 2) ∧ (e0f.toInt = 0 ∨ ¬ e1f.toInt = i1.toInt ∨ ¬ e2f.toInt = i2.toInt))) hcN, hmw9]
          have hfw9 := zFl_pw (wy := wy2_363) hfw
          refine lv_aload hx hb dX11_fit_72 (lv_at hl 0 rfl) ?_
          have hw_376 : bFit T fi e0f e1f e2f e3f e4f e5f r1f m1f r2f [zO3 fi e0f e1f e2f e3f e4f e5f a1_326 a2_327, zAr T 0 a1_326 m1f r1f, zAr T 0 a2_327 7 r2f] := ⟨a1_326, a2_327, rfl⟩
          have G : zS T A s.heap s [z0_, wg0_, wg1_, wwA, [zO3 fi e0f e1f e2f e3f e4f e5f a1_326 a2_327, zAr T 0 a1_326 m1f r1f, zAr T 0 a2_327 7 r2f], wt, [zO10 xo t im mk rd po co tr wa wb_ fi cd], w2_361, z1_] _ _ := G.re rfl
          refine z_Vv (bc := [[zO3 fi e0f e1f e2f e3f e4f e5f a1_326 a2_327, zAr T 0 a1_326 m1f r1f, zAr T 0 a2_327 7 r2f], w2_361, z1_, wg1_]) (br := [z0_, wg0_, wwA, wt, [zO10 xo t im mk rd po co tr wa wb_ fi cd]]) (As := [.ref wb_, .ref g1]) (rest := []) C G (c_e_find l T fi e0f e1f e2f e3f e4f e5f r1f m1f r2f ([zO3 fi e0f e1f e2f e3f e4f e5f a1_326 a2_327, zAr T 0 a1_326 m1f r1f, zAr T 0 a2_327 7 r2f]) wb_ l1 m2_362 wy2_363 pc2_364 g1_365 g2_366 f3B g4_367 g5_368 g6_369 (zMk mdB n4B (zPl cr1_ inn1_ k11_)) w2_361 cr1_ inn1_ k11_ k21_ k31_ k41_ z1_ g1 gg1_ q11_ q21_ wg1_ hw_376 h_371 hz1_ hg1_ hn9 hI1_ h_374 hLq1 hfw hGg1) (kV_RX11_298 C.2.2.2.2 (Nat.le_of_ble_eq_true rfl) (Nat.le_of_ble_eq_true rfl)) [4, 7, 8, 2] [2, 1, 2, 0] rfl rfl (ci := 3) (qc := (RX3, TX3, 8)) rfl rfl (List.mem_flatten.mpr ⟨_, List.mem_of_getElem? (i := 0) rfl, (bFit_mem hw_376).choose_spec⟩) rfl rfl hl.1 dX11_fit_74 (Nat.le_of_ble_eq_true rfl) (by show _ + (2 * (zFl m1f wy2_363 - m1f)) ≤ 6 * (zNA (i1.toInt = 0 ∧ 0 < (fk 0).toInt ∧ (0 ≤ i2.toInt ∧ i2.toInt < (fk 2).toInt ∧ i2.toInt < 2) ∧ (e0f.toInt = 0 ∨ ¬ e1f.toInt = i1.toInt ∨ ¬ e2f.toInt = i2.toInt)) mdA n4A (zPl cr0_ inn0_ k10_) - n4A) + 6 * (zNA (i1.toInt = 1 ∧ 1 < (fk 0).toInt ∧ (0 ≤ i2.toInt ∧ i2.toInt < (fk 2).toInt ∧ i2.toInt < 2) ∧ (e0f.toInt = 0 ∨ ¬ e1f.toInt = i1.toInt ∨ ¬ e2f.toInt = i2.toInt)) mdB n4B (zPl cr1_ inn1_ k11_) - n4B) + 2 * (zNF (i1.toInt = 1 ∧ 1 < (fk 0).toInt ∧ (0 ≤ i2.toInt ∧ i2.toInt < (fk 2).toInt ∧ i2.toInt < 2) ∧ (e0f.toInt = 0 ∨ ¬ e1f.toInt = i1.toInt ∨ ¬ e2f.toInt = i2.toInt)) (zNF (i1.toInt = 0 ∧ 0 < (fk 0).toInt ∧ (0 ≤ i2.toInt ∧ i2.toInt < (fk 2).toInt ∧ i2.toInt < 2) ∧ (e0f.toInt = 0 ∨ ¬ e1f.toInt = i1.toInt ∨ ¬ e2f.toInt = i2.toInt)) m1f (zMw mdA wyA cr0_ inn0_ k10_)) (zMw mdB wyB cr1_ inn1_ k11_) - m1f); omega) (fun b1 H locs hw G => ?_)
          refine zEx5 hw ?_
          intro w2_377 s3_378 s4_379 s5_380 g1_381
          refine zCu7 ?_
          intro hbs9 h_382 h_383 h_384 h_385 h_386 h_387
          clear hw
          subst hbs9
          have G : zS T A s.heap s [z0_, wg0_, wwA, wt, [zO10 xo t im mk rd po co tr wa wb_ fi cd], w2_377, w2_361, z1_, wg1_] _ _ := G
          have h39 : 0 ≤ (nI s3_378).toInt := by rw [nI_toInt (by omega)]; omega
          have hft9 : gFt (fun w => gF (aW cr1_ inn1_ k11_) k21_ cr1_ inn1_ q11_ q21_ w gg1_.toInt.toNat) (aPr (aW cr1_ inn1_ k11_) 7) (nI s3_378) s4_379 s5_380 g1_381 (zFl m1f wy2_363) := ⟨congrArg nI h_383, h_384.1, h_384.2, h_385, by rw [← h_383]; exact h_387⟩
          refine lv_aload_n hx hb dX11_fit_77 rfl (lv_at hl 2 rfl) ?_
          refine z_get C G clX11 4 rfl 9 (by decide) m_fl_RX11_65 rfl dX11_fit_78 ?_
          refine lv_iload_n hx hb dX11_fit_81 rfl (lv_at hl 3 rfl) ?_
          refine zEx2 h_382 ?_
          intro a1_389 a2_390 hbs9
          clear h_382
          subst hbs9
          have G : zS T A s.heap s [z0_, wg0_, wwA, wt, [zO10 xo t im mk rd po co tr wa wb_ fi cd], [zO3 fi e0f e1f e2f (nI s3_378) s4_379 s5_380 a1_389 a2_390], [zAr T 0 a1_389 (zFl m1f wy2_363) g1_381], [zAr T 0 a2_390 7 r2f], w2_361, z1_, wg1_] _ _ := G.re rfl
          refine z_put C G clX3 5 rfl 1 (by decide) m_fl_RX11_292 rfl rfl rfl (Nat.le_of_ble_eq_true rfl) dX11_fit_82 (fun H locs G => ?_)
          have G : zS T A s.heap s [z0_, wg0_, wwA, wt, [zO10 xo t im mk rd po co tr wa wb_ fi cd], [zO3 fi e0f i1 e2f (nI s3_378) s4_379 s5_380 a1_389 a2_390], [zAr T 0 a1_389 (zFl m1f wy2_363) g1_381], [zAr T 0 a2_390 7 r2f], w2_361, z1_, wg1_] _ _ := G
          refine lv_aload_n hx hb dX11_fit_85 rfl (lv_at hl 2 rfl) ?_
          refine z_get C G clX11 4 rfl 9 (by decide) m_fl_RX11_65 rfl dX11_fit_86 ?_
          refine lv_iload_n hx hb dX11_fit_89 rfl (lv_at hl 4 rfl) ?_
          refine z_put C G clX3 5 rfl 2 (by decide) m_fl_RX11_295 rfl rfl rfl (Nat.le_of_ble_eq_true rfl) dX11_fit_90 (fun H locs G => ?_)
          have G : zS T A s.heap s [z0_, wg0_, wwA, wt, [zO10 xo t im mk rd po co tr wa wb_ fi cd], [zO3 fi e0f i1 i2 (nI s3_378) s4_379 s5_380 a1_389 a2_390], [zAr T 0 a1_389 (zFl m1f wy2_363) g1_381], [zAr T 0 a2_390 7 r2f], w2_361, z1_, wg1_] _ _ := G
          refine lv_aload_n hx hb dX11_fit_93 rfl (lv_at hl 2 rfl) ?_
          refine z_get C G clX11 4 rfl 9 (by decide) m_fl_RX11_65 rfl dX11_fit_94 ?_
          refine lv_iconst (v := 1) hx hb dX11_fit_97 (by decide) ?_
          refine z_put C G clX3 5 rfl 0 (by decide) m_fl_RX11_109 rfl rfl rfl (Nat.le_of_ble_eq_true rfl) dX11_fit_98 (fun H locs G => ?_)
          have G : zS T A s.heap s [z0_, wg0_, wwA, wt, [zO10 xo t im mk rd po co tr wa wb_ fi cd], [zO3 fi 1 i1 i2 (nI s3_378) s4_379 s5_380 a1_389 a2_390], [zAr T 0 a1_389 (zFl m1f wy2_363) g1_381], [zAr T 0 a2_390 7 r2f], w2_361, z1_, wg1_] _ _ := G
          refine lv_iconst (v := 1) hx hb dX11_fit_101 (by decide) ?_
          have hw_391 : bFit T fi 1 i1 i2 (nI s3_378) s4_379 s5_380 g1_381 (zFl m1f wy2_363) r2f [zO3 fi 1 i1 i2 (nI s3_378) s4_379 s5_380 a1_389 a2_390, zAr T 0 a1_389 (zFl m1f wy2_363) g1_381, zAr T 0 a2_390 7 r2f] := ⟨a1_389, a2_390, rfl⟩
          have G : zS T A s.heap s [z0_, wg0_, wwA, wt, [zO10 xo t im mk rd po co tr wa wb_ fi cd], [zO3 fi 1 i1 i2 (nI s3_378) s4_379 s5_380 a1_389 a2_390, zAr T 0 a1_389 (zFl m1f wy2_363) g1_381, zAr T 0 a2_390 7 r2f], w2_361, z1_, wg1_] _ _ := G.re rfl
          have G := G.sub (bs' := [[zO10 xo t im mk rd po co tr wa wb_ fi cd], wt, z0_, z1_, wg0_, wg1_, wwA, w2_361, [zO3 fi 1 i1 i2 (nI s3_378) s4_379 s5_380 a1_389 a2_390, zAr T 0 a1_389 (zFl m1f wy2_363) g1_381, zAr T 0 a2_390 7 r2f]]) [4, 3, 0, 7, 1, 8, 2, 6, 5] rfl
          exact z_back hQz_ (z_zret C hr hlocks G (Nat.le_of_ble_eq_true rfl) (by omega) dX11_fit_102 rfl ⟨laA, mdA, wyA, pc_A, f1A, f2A, f3A, f4A, f5A, f6A, n4A, wwA, l1, m2_362, wy2_363, pc2_364, g1_365, g2_366, f3B, g4_367, g5_368, g6_369, (zMk mdB n4B (zPl cr1_ inn1_ k11_)), w2_361, 1, i1, i2, (nI s3_378), s4_379, s5_380, g1_381, (zFl m1f wy2_363), r2f, ([zO3 fi 1 i1 i2 (nI s3_378) s4_379 s5_380 a1_389 a2_390, zAr T 0 a1_389 (zFl m1f wy2_363) g1_381, zAr T 0 a2_390 7 r2f]), rfl, hwwA, hmdA, hwmA, (zNA_n (by omega)).symm, hpwA, (fun q => q), hTbA, h_371, (Or.inr rfl), hwy9, hNAm.symm, (zMk_pw hpwB), (fun _ => h_373), (Or.inr h_374), hw_391, hNF.symm, hfw9, h39, (Or.inr ⟨rfl, by omega, by decide, rfl⟩), (fun _ => Or.inr ⟨by omega, h_373⟩), (fun _ y1 y2 => by exfalso; omega), (fun _ y1 y2 => by exfalso; omega), (fun _ y1 y2 => by exfalso; omega), (fun _ _ _ => hft9), (Or.inr rfl)⟩)
        · have c_360n : e1f.toInt = i1.toInt := (fa_eq _ _).mp c_360
          refine lv_aload_n hx hb dX11_fit_51 rfl (lv_at hl 2 rfl) ?_
          refine z_get C G clX11 0 rfl 9 (by decide) m_fl_RX11_65 rfl dX11_fit_52 ?_
          refine z_get C G clX3 7 rfl 2 (by decide) m_fl_RX11_295 rfl dX11_fit_55 ?_
          refine lv_iload_n hx hb dX11_fit_58 rfl (lv_at hl 4 rfl) ?_
          refine lv_icmp_eq (tgt := 101) hx hb dX11_fit_59 (by decide) (fun c_392 => ?_) (fun c_392 => ?_)
          · have c_392n : e2f.toInt = i2.toInt := (fa_eq _ _).mp c_392
            refine lv_iconst (v := 1) hx hb dX11_fit_101 (by decide) ?_
            have hw_393 : bFit T fi e0f e1f e2f e3f e4f e5f r1f m1f r2f [zO3 fi e0f e1f e2f e3f e4f e5f a1_326 a2_327, zAr T 0 a1_326 m1f r1f, zAr T 0 a2_327 7 r2f] := ⟨a1_326, a2_327, rfl⟩
            have G : zS T A s.heap s [[zO10 xo t im mk rd po co tr wa wb_ fi cd], z0_, z1_, wg0_, wg1_, wwA, wwB, [zO3 fi e0f e1f e2f e3f e4f e5f a1_326 a2_327, zAr T 0 a1_326 m1f r1f, zAr T 0 a2_327 7 r2f], wt] _ _ := G.re rfl
            have G := G.sub (bs' := [[zO10 xo t im mk rd po co tr wa wb_ fi cd], wt, z0_, z1_, wg0_, wg1_, wwA, wwB, [zO3 fi e0f e1f e2f e3f e4f e5f a1_326 a2_327, zAr T 0 a1_326 m1f r1f, zAr T 0 a2_327 7 r2f]]) [0, 8, 1, 2, 3, 4, 5, 6, 7] rfl
            exact z_back hQz_ (z_zret C hr hlocks G (Nat.le_of_ble_eq_true rfl) (by omega) dX11_fit_102 rfl ⟨laA, mdA, wyA, pc_A, f1A, f2A, f3A, f4A, f5A, f6A, n4A, wwA, laB, mdB, wyB, pc_B, f1B, f2B, f3B, f4B, f5B, f6B, n4B, wwB, e0f, e1f, e2f, e3f, e4f, e5f, r1f, m1f, r2f, ([zO3 fi e0f e1f e2f e3f e4f e5f a1_326 a2_327, zAr T 0 a1_326 m1f r1f, zAr T 0 a2_327 7 r2f]), rfl, hwwA, hmdA, hwmA, (zNA_n (by omega)).symm, hpwA, (fun q => q), hTbA, hwwB, hmdB, hwmB, (zNA_n (by omega)).symm, hpwB, (fun q => q), hTbB, hw_393, (((zNF_n (c := (i1.toInt = 1 ∧ 1 < (fk 0).toInt ∧ (0 ≤ i2.toInt ∧ i2.toInt < (fk 2).toInt ∧ i2.toInt < 2) ∧ (e0f.toInt = 0 ∨ ¬ e1f.toInt = i1.toInt ∨ ¬ e2f.toInt = i2.toInt))) (by omega)).trans (zNF_n (by omega))).symm), hfw, hf3, (Or.inr ⟨rfl, by omega, (fun q => absurd (congrArg Int32.toInt q) (by show ¬ _ = (0 : Int); omega)), by omega⟩), hFI, hFt00, hFt01, hFt10, hFt11, (Or.inr (by omega))⟩)
          · have c_392n : ¬ e2f.toInt = i2.toInt := fun q => c_392 ((fa_eq _ _).mpr q)
            refine lv_aload_n hx hb dX11_fit_62 rfl (lv_at hl 2 rfl) ?_
            refine z_get C G clX11 0 rfl 9 (by decide) m_fl_RX11_65 rfl dX11_fit_63 ?_
            refine lv_aload_n hx hb dX11_fit_66 rfl (lv_at hl 2 rfl) ?_
            refine lv_iload_n hx hb dX11_fit_67 rfl (lv_at hl 3 rfl) ?_
            refine lv_aload_n hx hb dX11_fit_68 rfl (lv_at hl 1 rfl) ?_
            have hcF : (i1.toInt = 1 ∧ 1 < (fk 0).toInt ∧ (0 ≤ i2.toInt ∧ i2.toInt < (fk 2).toInt ∧ i2.toInt < 2) ∧ (e0f.toInt = 0 ∨ ¬ e1f.toInt = i1.toInt ∨ ¬ e2f.toInt = i2.toInt)) := by omega
            have hcN : ¬ (i1.toInt = 0 ∧ 0 < (fk 0).toInt ∧ (0 ≤ i2.toInt ∧ i2.toInt < (fk 2).toInt ∧ i2.toInt < 2) ∧ (e0f.toInt = 0 ∨ ¬ e1f.toInt = i1.toInt ∨ ¬ e2f.toInt = i2.toInt)) := by omega
            have hNAm : zNA (i1.toInt = 1 ∧ 1 < (fk 0).toInt ∧ (0 ≤ i2.toInt ∧ i2.toInt < (fk 2).toInt ∧ i2.toInt < 2) ∧ (e0f.toInt = 0 ∨ ¬ e1f.toInt = i1.toInt ∨ ¬ e2f.toInt = i2.toInt)) mdB n4B (zPl cr1_ inn1_ k11_) = zMk mdB n4B (zPl cr1_ inn1_ k11_) := zNA_y hcF
            have hNAo : zNA (i1.toInt = 0 ∧ 0 < (fk 0).toInt ∧ (0 ≤ i2.toInt ∧ i2.toInt < (fk 2).toInt ∧ i2.toInt < 2) ∧ (e0f.toInt = 0 ∨ ¬ e1f.toInt = i1.toInt ∨ ¬ e2f.toInt = i2.toInt)) mdA n4A (zPl cr0_ inn0_ k10_) = n4A := zNA_n hcN
            have hn9 : zMk mdB n4B (zPl cr1_ inn1_ k11_) ≤ 131072 := zPw_le (zMk_pw hpwB)
            refine z_Vq (bc := [[zO10 xo t im mk rd po co tr wa wb_ fi cd], wwB, z1_]) (br := [z0_, wg0_, wg1_, wwA, [zO3 fi e0f e1f e2f e3f e4f e5f a1_326 a2_327], [zAr T 0 a1_326 m1f r1f], [zAr T 0 a2_327 7 r2f], wt]) (As := [.int i1, .ref l1]) (rest := [.ref fi]) C G (c_f_waysInB l T xo t im mk rd po co tr wa wb_ fi cd i1 laB mdB wyB pc_B f1B f2B f3B f4B f5B f6B n4B wwB l1 cr1_ inn1_ k11_ k21_ k31_ k41_ z1_ hwwB hz1_ hI1_ hpwB hmdB (kaOk hI1_ hLq1).1 hTbB (by omega)) (kV_RX11_235 C.2.2.2.2 (Nat.le_of_ble_eq_true rfl) (Nat.le_of_ble_eq_true rfl)) [0, 6, 2] [0, 1, 3] rfl rfl (ci := 10) (qc := (RX11, TX11, 11)) rfl rfl (List.mem_flatten.mpr ⟨_, List.mem_of_getElem? (i := 0) rfl, List.mem_cons_self⟩) rfl rfl hl.1 dX11_fit_69 (Nat.le_of_ble_eq_true rfl) (by show _ + (6 * (zMk mdB n4B (zPl cr1_ inn1_ k11_) - n4B)) ≤ 6 * (zNA (i1.toInt = 0 ∧ 0 < (fk 0).toInt ∧ (0 ≤ i2.toInt ∧ i2.toInt < (fk 2).toInt ∧ i2.toInt < 2) ∧ (e0f.toInt = 0 ∨ ¬ e1f.toInt = i1.toInt ∨ ¬ e2f.toInt = i2.toInt)) mdA n4A (zPl cr0_ inn0_ k10_) - n4A) + 6 * (zNA (i1.toInt = 1 ∧ 1 < (fk 0).toInt ∧ (0 ≤ i2.toInt ∧ i2.toInt < (fk 2).toInt ∧ i2.toInt < 2) ∧ (e0f.toInt = 0 ∨ ¬ e1f.toInt = i1.toInt ∨ ¬ e2f.toInt = i2.toInt)) mdB n4B (zPl cr1_ inn1_ k11_) - n4B) + 2 * (zNF (i1.toInt = 1 ∧ 1 < (fk 0).toInt ∧ (0 ≤ i2.toInt ∧ i2.toInt < (fk 2).toInt ∧ i2.toInt < 2) ∧ (e0f.toInt = 0 ∨ ¬ e1f.toInt = i1.toInt ∨ ¬ e2f.toInt = i2.toInt)) (zNF (i1.toInt = 0 ∧ 0 < (fk 0).toInt ∧ (0 ≤ i2.toInt ∧ i2.toInt < (fk 2).toInt ∧ i2.toInt < 2) ∧ (e0f.toInt = 0 ∨ ¬ e1f.toInt = i1.toInt ∨ ¬ e2f.toInt = i2.toInt)) m1f (zMw mdA wyA cr0_ inn0_ k10_)) (zMw mdB wyB cr1_ inn1_ k11_) - m1f); omega) (fun r_408 b1 H locs hw G => ?_)
            refine zEx9 hw ?_
            intro w2_394 m2_395 wy2_396 pc2_397 g1_398 g2_399 g4_400 g5_401 g6_402
            refine zCu6 ?_
            intro hbs9 h_403 h_404 h_405 h_406 h_407
            clear hw
            subst hbs9
            have G : zS T A s.heap s [z0_, wg0_, wg1_, wwA, [zO3 fi e0f e1f e2f e3f e4f e5f a1_326 a2_327], [zAr T 0 a1_326 m1f r1f], [zAr T 0 a2_327 7 r2f], wt, [zO10 xo t im mk rd po co tr wa wb_ fi cd], w2_394, z1_] _ _ := G
            subst h_403
            have hwy9 : 0 ≤ wy2_396.toInt ∧ wy2_396.toInt ≤ 16384 := by have q9 := zWy_in (inn := inn1_) hI1_; rw [h_405]; exact ⟨by omega, q9.2⟩
            have hmw9 : wy2_396 = (zMw mdB wyB cr1_ inn1_ k11_) := by unfold zMw; by_cases q9 : mdB = 0 <;> first | (rw [if_pos q9]; exact h_405) | (rw [if_neg q9]; exact h_405.trans ((hTbB.resolve_left q9).1).symm)
            have hNF : zNF (i1.toInt = 1 ∧ 1 < (fk 0).toInt ∧ (0 ≤ i2.toInt ∧ i2.toInt < (fk 2).toInt ∧ i2.toInt < 2) ∧ (e0f.toInt = 0 ∨ ¬ e1f.toInt = i1.toInt ∨ ¬ e2f.toInt = i2.toInt)) (zNF (i1.toInt = 0 ∧ 0 < (fk 0).toInt ∧ (0 ≤ i2.toInt ∧ i2.toInt < (fk 2).toInt ∧ i2.toInt < 2) ∧ (e0f.toInt = 0 ∨ ¬ e1f.toInt = i1.toInt ∨ ¬ e2f.toInt = i2.toInt)) m1f (zMw mdA wyA cr0_ inn0_ k10_)) (zMw mdB wyB cr1_ inn1_ k11_) = zFl m1f wy2_396 := by rw [zNF_y (c := (i1.toInt = 1 ∧ 1 < (fk 0).toInt ∧ (0 ≤ i2.toInt ∧ i2.toInt < (fk 2).toInt ∧ i2.toInt < 2) ∧ (e0f.toInt = 0 ∨ ¬ e1f.toInt = i1.toInt ∨ ¬ e2f.toInt = i2.toInt))) hcF, zNF_n (c := (i1.toInt = 0 ∧ 0 < (fk 0).toInt ∧ (0 ≤ i2.toInt ∧ i2.toInt < (fk 2).toInt ∧ i2.toInt < 2) ∧ (e0f.toInt = 0 ∨ ¬ e1f.toInt = i1.toInt ∨ ¬ e2f.toInt = i2.toInt))) hcN, hmw9]
            have hfw9 := zFl_pw (wy := wy2_396) hfw
            refine lv_aload hx hb dX11_fit_72 (lv_at hl 0 rfl) ?_
            have hw_409 : bFit T fi e0f e1f e2f e3f e4f e5f r1f m1f r2f [zO3 fi e0f e1f e2f e3f e4f e5f a1_326 a2_327, zAr T 0 a1_326 m1f r1f, zAr T 0 a2_327 7 r2f] := ⟨a1_326, a2_327, rfl⟩
            have G : zS T A s.heap s [z0_, wg0_, wg1_, wwA, [zO3 fi e0f e1f e2f e3f e4f e5f a1_326 a2_327, zAr T 0 a1_326 m1f r1f, zAr T 0 a2_327 7 r2f], wt, [zO10 xo t im mk rd po co tr wa wb_ fi cd], w2_394, z1_] _ _ := G.re rfl
            refine z_Vv (bc := [[zO3 fi e0f e1f e2f e3f e4f e5f a1_326 a2_327, zAr T 0 a1_326 m1f r1f, zAr T 0 a2_327 7 r2f], w2_394, z1_, wg1_]) (br := [z0_, wg0_, wwA, wt, [zO10 xo t im mk rd po co tr wa wb_ fi cd]]) (As := [.ref wb_, .ref g1]) (rest := []) C G (c_e_find l T fi e0f e1f e2f e3f e4f e5f r1f m1f r2f ([zO3 fi e0f e1f e2f e3f e4f e5f a1_326 a2_327, zAr T 0 a1_326 m1f r1f, zAr T 0 a2_327 7 r2f]) wb_ l1 m2_395 wy2_396 pc2_397 g1_398 g2_399 f3B g4_400 g5_401 g6_402 (zMk mdB n4B (zPl cr1_ inn1_ k11_)) w2_394 cr1_ inn1_ k11_ k21_ k31_ k41_ z1_ g1 gg1_ q11_ q21_ wg1_ hw_409 h_404 hz1_ hg1_ hn9 hI1_ h_407 hLq1 hfw hGg1) (kV_RX11_298 C.2.2.2.2 (Nat.le_of_ble_eq_true rfl) (Nat.le_of_ble_eq_true rfl)) [4, 7, 8, 2] [2, 1, 2, 0] rfl rfl (ci := 3) (qc := (RX3, TX3, 8)) rfl rfl (List.mem_flatten.mpr ⟨_, List.mem_of_getElem? (i := 0) rfl, (bFit_mem hw_409).choose_spec⟩) rfl rfl hl.1 dX11_fit_74 (Nat.le_of_ble_eq_true rfl) (by show _ + (2 * (zFl m1f wy2_396 - m1f)) ≤ 6 * (zNA (i1.toInt = 0 ∧ 0 < (fk 0).toInt ∧ (0 ≤ i2.toInt ∧ i2.toInt < (fk 2).toInt ∧ i2.toInt < 2) ∧ (e0f.toInt = 0 ∨ ¬ e1f.toInt = i1.toInt ∨ ¬ e2f.toInt = i2.toInt)) mdA n4A (zPl cr0_ inn0_ k10_) - n4A) + 6 * (zNA (i1.toInt = 1 ∧ 1 < (fk 0).toInt ∧ (0 ≤ i2.toInt ∧ i2.toInt < (fk 2).toInt ∧ i2.toInt < 2) ∧ (e0f.toInt = 0 ∨ ¬ e1f.toInt = i1.toInt ∨ ¬ e2f.toInt = i2.toInt)) mdB n4B (zPl cr1_ inn1_ k11_) - n4B) + 2 * (zNF (i1.toInt = 1 ∧ 1 < (fk 0).toInt ∧ (0 ≤ i2.toInt ∧ i2.toInt < (fk 2).toInt ∧ i2.toInt < 2) ∧ (e0f.toInt = 0 ∨ ¬ e1f.toInt = i1.toInt ∨ ¬ e2f.toInt = i2.toInt)) (zNF (i1.toInt = 0 ∧ 0 < (fk 0).toInt ∧ (0 ≤ i2.toInt ∧ i2.toInt < (fk 2).toInt ∧ i2.toInt < 2) ∧ (e0f.toInt = 0 ∨ ¬ e1f.toInt = i1.toInt ∨ ¬ e2f.toInt = i2.toInt)) m1f (zMw mdA wyA cr0_ inn0_ k10_)) (zMw mdB wyB cr1_ inn1_ k11_) - m1f); omega) (fun b1 H locs hw G => ?_)
            refine zEx5 hw ?_
            intro w2_410 s3_411 s4_412 s5_413 g1_414
            refine zCu7 ?_
            intro hbs9 h_415 h_416 h_417 h_418 h_419 h_420
            clear hw
            subst hbs9
            have G : zS T A s.heap s [z0_, wg0_, wwA, wt, [zO10 xo t im mk rd po co tr wa wb_ fi cd], w2_410, w2_394, z1_, wg1_] _ _ := G
            have h39 : 0 ≤ (nI s3_411).toInt := by rw [nI_toInt (by omega)]; omega
            have hft9 : gFt (fun w => gF (aW cr1_ inn1_ k11_) k21_ cr1_ inn1_ q11_ q21_ w gg1_.toInt.toNat) (aPr (aW cr1_ inn1_ k11_) 7) (nI s3_411) s4_412 s5_413 g1_414 (zFl m1f wy2_396) := ⟨congrArg nI h_416, h_417.1, h_417.2, h_418, by rw [← h_416]; exact h_420⟩
            refine lv_aload_n hx hb dX11_fit_77 rfl (lv_at hl 2 rfl) ?_
            refine z_get C G clX11 4 rfl 9 (by decide) m_fl_RX11_65 rfl dX11_fit_78 ?_
            refine lv_iload_n hx hb dX11_fit_81 rfl (lv_at hl 3 rfl) ?_
            refine zEx2 h_415 ?_
            intro a1_422 a2_423 hbs9
            clear h_415
            subst hbs9
            have G : zS T A s.heap s [z0_, wg0_, wwA, wt, [zO10 xo t im mk rd po co tr wa wb_ fi cd], [zO3 fi e0f e1f e2f (nI s3_411) s4_412 s5_413 a1_422 a2_423], [zAr T 0 a1_422 (zFl m1f wy2_396) g1_414], [zAr T 0 a2_423 7 r2f], w2_394, z1_, wg1_] _ _ := G.re rfl
            refine z_put C G clX3 5 rfl 1 (by decide) m_fl_RX11_292 rfl rfl rfl (Nat.le_of_ble_eq_true rfl) dX11_fit_82 (fun H locs G => ?_)
            have G : zS T A s.heap s [z0_, wg0_, wwA, wt, [zO10 xo t im mk rd po co tr wa wb_ fi cd], [zO3 fi e0f i1 e2f (nI s3_411) s4_412 s5_413 a1_422 a2_423], [zAr T 0 a1_422 (zFl m1f wy2_396) g1_414], [zAr T 0 a2_423 7 r2f], w2_394, z1_, wg1_] _ _ := G
            refine lv_aload_n hx hb dX11_fit_85 rfl (lv_at hl 2 rfl) ?_
            refine z_get C G clX11 4 rfl 9 (by decide) m_fl_RX11_65 rfl dX11_fit_86 ?_
            refine lv_iload_n hx hb dX11_fit_89 rfl (lv_at hl 4 rfl) ?_
            refine z_put C G clX3 5 rfl 2 (by decide) m_fl_RX11_295 rfl rfl rfl (Nat.le_of_ble_eq_true rfl) dX11_fit_90 (fun H locs G => ?_)
            have G : zS T A s.heap s [z0_, wg0_, wwA, wt, [zO10 xo t im mk rd po co tr wa wb_ fi cd], [zO3 fi e0f i1 i2 (nI s3_411) s4_412 s5_413 a1_422 a2_423], [zAr T 0 a1_422 (zFl m1f wy2_396) g1_414], [zAr T 0 a2_423 7 r2f], w2_394, z1_, wg1_] _ _ := G
            refine lv_aload_n hx hb dX11_fit_93 rfl (lv_at hl 2 rfl) ?_
            refine z_get C G clX11 4 rfl 9 (by decide) m_fl_RX11_65 rfl dX11_fit_94 ?_
            refine lv_iconst (v := 1) hx hb dX11_fit_97 (by decide) ?_
            refine z_put C G clX3 5 rfl 0 (by decide) m_fl_RX11_109 rfl rfl rfl (Nat.le_of_ble_eq_true rfl) dX11_fit_98 (fun H locs G => ?_)
            have G : zS T A s.heap s [z0_, wg0_, wwA, wt, [zO10 xo t im mk rd po co tr wa wb_ fi cd], [zO3 fi 1 i1 i2 (nI s3_411) s4_412 s5_413 a1_422 a2_423], [zAr T 0 a1_422 (zFl m1f wy2_396) g1_414], [zAr T 0 a2_423 7 r2f], w2_394, z1_, wg1_] _ _ := G
            refine lv_iconst (v := 1) hx hb dX11_fit_101 (by decide) ?_
            have hw_424 : bFit T fi 1 i1 i2 (nI s3_411) s4_412 s5_413 g1_414 (zFl m1f wy2_396) r2f [zO3 fi 1 i1 i2 (nI s3_411) s4_412 s5_413 a1_422 a2_423, zAr T 0 a1_422 (zFl m1f wy2_396) g1_414, zAr T 0 a2_423 7 r2f] := ⟨a1_422, a2_423, rfl⟩
            have G : zS T A s.heap s [z0_, wg0_, wwA, wt, [zO10 xo t im mk rd po co tr wa wb_ fi cd], [zO3 fi 1 i1 i2 (nI s3_411) s4_412 s5_413 a1_422 a2_423, zAr T 0 a1_422 (zFl m1f wy2_396) g1_414, zAr T 0 a2_423 7 r2f], w2_394, z1_, wg1_] _ _ := G.re rfl
            have G := G.sub (bs' := [[zO10 xo t im mk rd po co tr wa wb_ fi cd], wt, z0_, z1_, wg0_, wg1_, wwA, w2_394, [zO3 fi 1 i1 i2 (nI s3_411) s4_412 s5_413 a1_422 a2_423, zAr T 0 a1_422 (zFl m1f wy2_396) g1_414, zAr T 0 a2_423 7 r2f]]) [4, 3, 0, 7, 1, 8, 2, 6, 5] rfl
            exact z_back hQz_ (z_zret C hr hlocks G (Nat.le_of_ble_eq_true rfl) (by omega) dX11_fit_102 rfl ⟨laA, mdA, wyA, pc_A, f1A, f2A, f3A, f4A, f5A, f6A, n4A, wwA, l1, m2_395, wy2_396, pc2_397, g1_398, g2_399, f3B, g4_400, g5_401, g6_402, (zMk mdB n4B (zPl cr1_ inn1_ k11_)), w2_394, 1, i1, i2, (nI s3_411), s4_412, s5_413, g1_414, (zFl m1f wy2_396), r2f, ([zO3 fi 1 i1 i2 (nI s3_411) s4_412 s5_413 a1_422 a2_423, zAr T 0 a1_422 (zFl m1f wy2_396) g1_414, zAr T 0 a2_423 7 r2f]), rfl, hwwA, hmdA, hwmA, (zNA_n (by omega)).symm, hpwA, (fun q => q), hTbA, h_404, (Or.inr rfl), hwy9, hNAm.symm, (zMk_pw hpwB), (fun _ => h_406), (Or.inr h_407), hw_424, hNF.symm, hfw9, h39, (Or.inr ⟨rfl, by omega, by decide, rfl⟩), (fun _ => Or.inr ⟨by omega, h_406⟩), (fun _ y1 y2 => by exfalso; omega), (fun _ y1 y2 => by exfalso; omega), (fun _ y1 y2 => by exfalso; omega), (fun _ _ _ => hft9), (Or.inr rfl)⟩)
def kLst (W L : Nat → Int32) (cr inn : Int32) (gg : Int32) (d1 d2 : Nat → Int32) (u : Int32) : Int32 := if gN (fun w => gF W L cr inn d1 d2 w gg.toInt.toNat) (aPr W 7) = 0 then -1 else if u = 0 then (gLM (fun w => gF W L cr inn d1 d2 w gg.toInt.toNat) (aPr W 7)).1 else (gLM (fun w => gF W L cr inn d1 d2 w gg.toInt.toNat) (aPr W 7)).2
def kLeast (cr inn : Int32) (k1 k2 : Nat → Int32) (gg : Int32) (d1 d2 : Nat → Int32) (u : Int32) : Int32 := kLst (kW cr inn k1) k2 cr inn gg d1 d2 u
def zGq (f : Nat → Int32) (d : Int32) (k : Nat) : Int32 := f (d.toInt.toNat + (1 + 2 * k))
def zGi (f : Nat → Int32) (d : Int32) (k : Nat) : Int32 := f (d.toInt.toNat + (2 + 2 * k))
def pPhi (f : Nat → Int32) (z d : Int32) (w : Nat) : Bool × Nat × Nat := gF (pW f z) (zLo f z) (f z.toInt.toNat) (f (z.toInt.toNat + 1)) (zGq f d) (zGi f d) w (f d.toInt.toNat).toInt.toNat
theorem zA_5 {r r' x y no : Int32} {fk f : Nat → Int32} {a0 a1 a2 a3 b0 b1 b2 b3 : Int32} (hk : fk 0 = f 0) (hk2 : fk 2 = f 2) (hq : (f 0).toInt ≤ 2) (hq2 : (f 2).toInt ≤ 2) (e0 : a0 = b0) (e1 : a1 = b1) (e2 : a2 = b2) (e3 : a3 = b3)
    (F1 : ((x.toInt < 0 ∨ (fk 0).toInt ≤ x.toInt ∨ 2 ≤ x.toInt) ∨ (y.toInt < 0 ∨ (fk 2).toInt ≤ y.toInt ∨ 2 ≤ y.toInt)) ∧ r = no ∨ (x.toInt = 0 ∧ 0 < (fk 0).toInt) ∧ (y.toInt = 0 ∧ 0 < (fk 2).toInt) ∧ r = a0 ∨ (x.toInt = 0 ∧ 0 < (fk 0).toInt) ∧ (y.toInt = 1 ∧ 1 < (fk 2).toInt) ∧ r = a1 ∨ (x.toInt = 1 ∧ 1 < (fk 0).toInt) ∧ (y.toInt = 0 ∧ 0 < (fk 2).toInt) ∧ r = a2 ∨ (x.toInt = 1 ∧ 1 < (fk 0).toInt) ∧ (y.toInt = 1 ∧ 1 < (fk 2).toInt) ∧ r = a3)
    (F2 : ((x.toInt < 0 ∨ (f 0).toInt ≤ x.toInt) ∨ (y.toInt < 0 ∨ (f 2).toInt ≤ y.toInt)) ∧ r' = no ∨ (x.toInt = 0 ∧ 0 < (f 0).toInt) ∧ (y.toInt = 0 ∧ 0 < (f 2).toInt) ∧ r' = b0 ∨ (x.toInt = 0 ∧ 0 < (f 0).toInt) ∧ (y.toInt = 1 ∧ 1 < (f 2).toInt) ∧ r' = b1 ∨ (x.toInt = 1 ∧ 1 < (f 0).toInt) ∧ (y.toInt = 0 ∧ 0 < (f 2).toInt) ∧ r' = b2 ∨ (x.toInt = 1 ∧ 1 < (f 0).toInt) ∧ (y.toInt = 1 ∧ 1 < (f 2).toInt) ∧ r' = b3) : r = r' := by
  rw [hk, hk2] at F1
  rcases F1 with ⟨a, b⟩ | ⟨a, b, c⟩ | ⟨a, b, c⟩ | ⟨a, b, c⟩ | ⟨a, b, c⟩ <;> rcases F2 with ⟨d, e⟩ | ⟨d, e, g⟩ | ⟨d, e, g⟩ | ⟨d, e, g⟩ | ⟨d, e, g⟩ <;> first | (exfalso; omega) | (rw [b, e]; done) | (rw [c, g, e0]; done) | (rw [c, g, e1]; done) | (rw [c, g, e2]; done) | (rw [c, g, e3]; done)
theorem zNIz {n : Nat} (h : nI n = 0) (hn : n < 2147483648 := by omega) : n = 0 := by
  have e := congrArg Int32.toInt h
  rw [nI_toInt hn] at e
  have z0 : (0 : Int32).toInt = 0 := rfl
  omega
set_option maxHeartbeats 4000000 in
set_option maxRecDepth 100000 in
/-- c_f_least -/
theorem c_f_least (l : Launch) (T : zTy) (xo : Nat) (t : Nat) (im : Nat) (mk : Nat) (rd : Nat) (po : Nat) (co : Nat) (tr : Nat) (wa : Nat) (wb_ : Nat) (fi : Nat) (cd : Nat) (l0 : Nat) (l1 : Nat) (d0 : Nat) (d1 : Nat) (g0 : Nat) (g1 : Nat) (ln : Int32) (fl : Int32) (pl : Int32) (ft : Nat → Int32) (fk : Nat → Int32) (wt : va_W) (cr0_ : Int32) (inn0_ : Int32) (k10_ : Nat → Int32) (k20_ : Nat → Int32) (k30_ : Nat → Int32) (k40_ : Nat → Int32) (z0_ : va_W) (cr1_ : Int32) (inn1_ : Int32) (k11_ : Nat → Int32) (k21_ : Nat → Int32) (k31_ : Nat → Int32) (k41_ : Nat → Int32) (z1_ : va_W) (gg0_ : Int32) (q10_ : Nat → Int32) (q20_ : Nat → Int32) (wg0_ : va_W) (gg1_ : Int32) (q11_ : Nat → Int32) (q21_ : Nat → Int32) (wg1_ : va_W) (laA : Nat) (mdA : Int32) (wyA : Int32) (pc_A : Int32) (f1A : Nat → Int32) (f2A : Nat → Int32) (f3A : Nat → Int32) (f4A : Nat → Int32) (f5A : Nat → Int32) (f6A : Nat → Int32) (n4A : Nat) (wwA : va_W) (laB : Nat) (mdB : Int32) (wyB : Int32) (pc_B : Int32) (f1B : Nat → Int32) (f2B : Nat → Int32) (f3B : Nat → Int32) (f4B : Nat → Int32) (f5B : Nat → Int32) (f6B : Nat → Int32) (n4B : Nat) (wwB : va_W) (e0f : Int32) (e1f : Int32) (e2f : Int32) (e3f : Int32) (e4f : Int32) (e5f : Int32) (r1f : Nat → Int32) (m1f : Nat) (r2f : Nat → Int32) (wff : va_W) (i1 : Int32) (i2 : Int32) (w_ : Int32) (ht : bTold T t l0 l1 d0 d1 g0 g1 ln fl pl ft fk wt) (hK : zKT fk) (hz0_ : bLand T l0 cr0_ inn0_ k10_ k20_ k30_ k40_ z0_) (hI0_ : zLI cr0_ k10_ k30_) (hz1_ : bLand T l1 cr1_ inn1_ k11_ k21_ k31_ k41_ z1_) (hI1_ : zLI cr1_ k11_ k31_) (hg0_ : bLog T g0 gg0_ q10_ q20_ wg0_) (hg1_ : bLog T g1 gg1_ q11_ q21_ wg1_) (hwwA : bWays T wa laA mdA wyA pc_A f1A f2A f3A f4A f5A f6A n4A wwA) (hpwA : zPw n4A) (hmdA : mdA = 0 ∨ laA = l0) (hwmA : 0 ≤ wyA.toInt ∧ wyA.toInt ≤ 16384) (hTbA : mdA = 0 ∨ zTab cr0_ inn0_ k10_ k20_ wyA pc_A f1A f2A f5A n4A) (hLq0 : zLq cr0_ k10_ k20_) (hwwB : bWays T wb_ laB mdB wyB pc_B f1B f2B f3B f4B f5B f6B n4B wwB) (hpwB : zPw n4B) (hmdB : mdB = 0 ∨ laB = l1) (hwmB : 0 ≤ wyB.toInt ∧ wyB.toInt ≤ 16384) (hTbB : mdB = 0 ∨ zTab cr1_ inn1_ k11_ k21_ wyB pc_B f1B f2B f5B n4B) (hLq1 : zLq cr1_ k11_ k21_) (hwff : bFit T fi e0f e1f e2f e3f e4f e5f r1f m1f r2f wff) (hfw : zFw m1f) (hf3 : 0 ≤ e3f.toInt) (hFI : (¬ e0f = 0 → e1f.toInt = 0 ∧ ¬ mdA = 0 ∨ e1f.toInt = 1 ∧ ¬ mdB = 0)) (hFt00 : (¬ e0f = 0 → e1f.toInt = 0 → e2f.toInt = 0 → gFt (fun w => gF (aW cr0_ inn0_ k10_) k20_ cr0_ inn0_ q10_ q20_ w gg0_.toInt.toNat) (aPr (aW cr0_ inn0_ k10_) 7) e3f e4f e5f r1f m1f)) (hFt01 : (¬ e0f = 0 → e1f.toInt = 0 → e2f.toInt = 1 → gFt (fun w => gF (aW cr0_ inn0_ k10_) k20_ cr0_ inn0_ q11_ q21_ w gg1_.toInt.toNat) (aPr (aW cr0_ inn0_ k10_) 7) e3f e4f e5f r1f m1f)) (hFt10 : (¬ e0f = 0 → e1f.toInt = 1 → e2f.toInt = 0 → gFt (fun w => gF (aW cr1_ inn1_ k11_) k21_ cr1_ inn1_ q10_ q20_ w gg0_.toInt.toNat) (aPr (aW cr1_ inn1_ k11_) 7) e3f e4f e5f r1f m1f)) (hFt11 : (¬ e0f = 0 → e1f.toInt = 1 → e2f.toInt = 1 → gFt (fun w => gF (aW cr1_ inn1_ k11_) k21_ cr1_ inn1_ q11_ q21_ w gg1_.toInt.toNat) (aPr (aW cr1_ inn1_ k11_) 7) e3f e4f e5f r1f m1f)) (hGg0 : 0 ≤ gg0_.toInt ∧ gg0_.toInt ≤ 8) (hGg1 : 0 ≤ gg1_.toInt ∧ gg1_.toInt ≤ 8) : zMi l T yX11_least cX11_least 4 (some .int) 8 4 (6 * (zNA (i1.toInt = 0 ∧ 0 < (fk 0).toInt ∧ (0 ≤ i2.toInt ∧ i2.toInt < (fk 2).toInt ∧ i2.toInt < 2) ∧ (e0f.toInt = 0 ∨ ¬ e1f.toInt = i1.toInt ∨ ¬ e2f.toInt = i2.toInt)) mdA n4A (zPl cr0_ inn0_ k10_) - n4A) + 6 * (zNA (i1.toInt = 1 ∧ 1 < (fk 0).toInt ∧ (0 ≤ i2.toInt ∧ i2.toInt < (fk 2).toInt ∧ i2.toInt < 2) ∧ (e0f.toInt = 0 ∨ ¬ e1f.toInt = i1.toInt ∨ ¬ e2f.toInt = i2.toInt)) mdB n4B (zPl cr1_ inn1_ k11_) - n4B) + 2 * (zNF (i1.toInt = 1 ∧ 1 < (fk 0).toInt ∧ (0 ≤ i2.toInt ∧ i2.toInt < (fk 2).toInt ∧ i2.toInt < 2) ∧ (e0f.toInt = 0 ∨ ¬ e1f.toInt = i1.toInt ∨ ¬ e2f.toInt = i2.toInt)) (zNF (i1.toInt = 0 ∧ 0 < (fk 0).toInt ∧ (0 ≤ i2.toInt ∧ i2.toInt < (fk 2).toInt ∧ i2.toInt < 2) ∧ (e0f.toInt = 0 ∨ ¬ e1f.toInt = i1.toInt ∨ ¬ e2f.toInt = i2.toInt)) m1f (zMw mdA wyA cr0_ inn0_ k10_)) (zMw mdB wyB cr1_ inn1_ k11_) - m1f)) [.ref xo, .int i1, .int i2, .int w_] [[zO10 xo t im mk rd po co tr wa wb_ fi cd], wt, z0_, z1_, wg0_, wg1_, wwA, wwB, wff] (fun (r : Int32) bs => ∃ (laA_2 : Nat) (mdA_2 : Int32) (wyA_2 : Int32) (pc_A_2 : Int32) (f1A_2 : Nat → Int32) (f2A_2 : Nat → Int32) (f3A_2 : Nat → Int32) (f4A_2 : Nat → Int32) (f5A_2 : Nat → Int32) (f6A_2 : Nat → Int32) (n4A_2 : Nat) (wwA_2 : va_W) (laB_2 : Nat) (mdB_2 : Int32) (wyB_2 : Int32) (pc_B_2 : Int32) (f1B_2 : Nat → Int32) (f2B_2 : Nat → Int32) (f3B_2 : Nat → Int32) (f4B_2 : Nat → Int32) (f5B_2 : Nat → Int32) (f6B_2 : Nat → Int32) (n4B_2 : Nat) (wwB_2 : va_W) (e0f_2 : Int32) (e1f_2 : Int32) (e2f_2 : Int32) (e3f_2 : Int32) (e4f_2 : Int32) (e5f_2 : Int32) (r1f_2 : Nat → Int32) (m1f_2 : Nat) (r2f_2 : Nat → Int32) (wff_2 : va_W), bs = [[zO10 xo t im mk rd po co tr wa wb_ fi cd], wt, z0_, z1_, wg0_, wg1_, wwA_2, wwB_2, wff_2] ∧ bWays T wa laA_2 mdA_2 wyA_2 pc_A_2 f1A_2 f2A_2 f3A_2 f4A_2 f5A_2 f6A_2 n4A_2 wwA_2 ∧ (mdA_2 = 0 ∨ laA_2 = l0) ∧ (0 ≤ wyA_2.toInt ∧ wyA_2.toInt ≤ 16384) ∧ n4A_2 = zNA (i1.toInt = 0 ∧ 0 < (fk 0).toInt ∧ (0 ≤ i2.toInt ∧ i2.toInt < (fk 2).toInt ∧ i2.toInt < 2) ∧ (e0f.toInt = 0 ∨ ¬ e1f.toInt = i1.toInt ∨ ¬ e2f.toInt = i2.toInt)) mdA n4A (zPl cr0_ inn0_ k10_) ∧ zPw n4A_2 ∧ (¬ mdA = 0 → ¬ mdA_2 = 0) ∧ (mdA_2 = 0 ∨ zTab cr0_ inn0_ k10_ k20_ wyA_2 pc_A_2 f1A_2 f2A_2 f5A_2 n4A_2) ∧ bWays T wb_ laB_2 mdB_2 wyB_2 pc_B_2 f1B_2 f2B_2 f3B_2 f4B_2 f5B_2 f6B_2 n4B_2 wwB_2 ∧ (mdB_2 = 0 ∨ laB_2 = l1) ∧ (0 ≤ wyB_2.toInt ∧ wyB_2.toInt ≤ 16384) ∧ n4B_2 = zNA (i1.toInt = 1 ∧ 1 < (fk 0).toInt ∧ (0 ≤ i2.toInt ∧ i2.toInt < (fk 2).toInt ∧ i2.toInt < 2) ∧ (e0f.toInt = 0 ∨ ¬ e1f.toInt = i1.toInt ∨ ¬ e2f.toInt = i2.toInt)) mdB n4B (zPl cr1_ inn1_ k11_) ∧ zPw n4B_2 ∧ (¬ mdB = 0 → ¬ mdB_2 = 0) ∧ (mdB_2 = 0 ∨ zTab cr1_ inn1_ k11_ k21_ wyB_2 pc_B_2 f1B_2 f2B_2 f5B_2 n4B_2) ∧ bFit T fi e0f_2 e1f_2 e2f_2 e3f_2 e4f_2 e5f_2 r1f_2 m1f_2 r2f_2 wff_2 ∧ m1f_2 = zNF (i1.toInt = 1 ∧ 1 < (fk 0).toInt ∧ (0 ≤ i2.toInt ∧ i2.toInt < (fk 2).toInt ∧ i2.toInt < 2) ∧ (e0f.toInt = 0 ∨ ¬ e1f.toInt = i1.toInt ∨ ¬ e2f.toInt = i2.toInt)) (zNF (i1.toInt = 0 ∧ 0 < (fk 0).toInt ∧ (0 ≤ i2.toInt ∧ i2.toInt < (fk 2).toInt ∧ i2.toInt < 2) ∧ (e0f.toInt = 0 ∨ ¬ e1f.toInt = i1.toInt ∨ ¬ e2f.toInt = i2.toInt)) m1f (zMw mdA wyA cr0_ inn0_ k10_)) (zMw mdB wyB cr1_ inn1_ k11_) ∧ zFw m1f_2 ∧ 0 ≤ e3f_2.toInt ∧ (¬ e0f_2 = 0 → e1f_2.toInt = 0 ∧ ¬ mdA_2 = 0 ∨ e1f_2.toInt = 1 ∧ ¬ mdB_2 = 0) ∧ (¬ e0f_2 = 0 → e1f_2.toInt = 0 → e2f_2.toInt = 0 → gFt (fun w => gF (aW cr0_ inn0_ k10_) k20_ cr0_ inn0_ q10_ q20_ w gg0_.toInt.toNat) (aPr (aW cr0_ inn0_ k10_) 7) e3f_2 e4f_2 e5f_2 r1f_2 m1f_2) ∧ (¬ e0f_2 = 0 → e1f_2.toInt = 0 → e2f_2.toInt = 1 → gFt (fun w => gF (aW cr0_ inn0_ k10_) k20_ cr0_ inn0_ q11_ q21_ w gg1_.toInt.toNat) (aPr (aW cr0_ inn0_ k10_) 7) e3f_2 e4f_2 e5f_2 r1f_2 m1f_2) ∧ (¬ e0f_2 = 0 → e1f_2.toInt = 1 → e2f_2.toInt = 0 → gFt (fun w => gF (aW cr1_ inn1_ k11_) k21_ cr1_ inn1_ q10_ q20_ w gg0_.toInt.toNat) (aPr (aW cr1_ inn1_ k11_) 7) e3f_2 e4f_2 e5f_2 r1f_2 m1f_2) ∧ (¬ e0f_2 = 0 → e1f_2.toInt = 1 → e2f_2.toInt = 1 → gFt (fun w => gF (aW cr1_ inn1_ k11_) k21_ cr1_ inn1_ q11_ q21_ w gg1_.toInt.toNat) (aPr (aW cr1_ inn1_ k11_) 7) e3f_2 e4f_2 e5f_2 r1f_2 m1f_2) ∧ (((i1.toInt < 0 ∨ (fk 0).toInt ≤ i1.toInt ∨ 2 ≤ i1.toInt) ∨ (i2.toInt < 0 ∨ (fk 2).toInt ≤ i2.toInt ∨ 2 ≤ i2.toInt)) ∧ r = -1 ∨ (i1.toInt = 0 ∧ 0 < (fk 0).toInt) ∧ (i2.toInt = 0 ∧ 0 < (fk 2).toInt) ∧ r = kLeast cr0_ inn0_ k10_ k20_ gg0_ q10_ q20_ w_ ∨ (i1.toInt = 0 ∧ 0 < (fk 0).toInt) ∧ (i2.toInt = 1 ∧ 1 < (fk 2).toInt) ∧ r = kLeast cr0_ inn0_ k10_ k20_ gg1_ q11_ q21_ w_ ∨ (i1.toInt = 1 ∧ 1 < (fk 0).toInt) ∧ (i2.toInt = 0 ∧ 0 < (fk 2).toInt) ∧ r = kLeast cr1_ inn1_ k11_ k21_ gg0_ q10_ q20_ w_ ∨ (i1.toInt = 1 ∧ 1 < (fk 0).toInt) ∧ (i2.toInt = 1 ∧ 1 < (fk 2).toInt) ∧ r = kLeast cr1_ inn1_ k11_ k21_ gg1_ q11_ q21_ w_)) := by
  refine zMi_of (own := RX11) (by decide) rfl (Nat.le_of_ble_eq_true rfl) ?_
  intro p e s m args below meth c A ls C hr hlocks hnm hAe G hl
  refine zHide (fun Qz_ hQz_ => ?_)
  have hx := C.1
  have hb := C.2.1
  replace hmdA : zHd (mdA = 0 ∨ laA = l0) := hmdA
  replace hTbA : zHd (mdA = 0 ∨ zTab cr0_ inn0_ k10_ k20_ wyA pc_A f1A f2A f5A n4A) := hTbA
  replace hmdB : zHd (mdB = 0 ∨ laB = l1) := hmdB
  replace hTbB : zHd (mdB = 0 ∨ zTab cr1_ inn1_ k11_ k21_ wyB pc_B f1B f2B f5B n4B) := hTbB
  replace hFI : zHd ((¬ e0f = 0 → e1f.toInt = 0 ∧ ¬ mdA = 0 ∨ e1f.toInt = 1 ∧ ¬ mdB = 0)) := hFI
  have hl : lv_has ls 4 [(0, .ref xo), (1, .int i1), (2, .int i2), (3, .int w_)] := hl
  refine lv_aload_n hx hb dX11_least_0 rfl (lv_at hl 0 rfl) ?_
  refine lv_iload_n hx hb dX11_least_1 rfl (lv_at hl 1 rfl) ?_
  refine lv_iload_n hx hb dX11_least_2 rfl (lv_at hl 2 rfl) ?_
  refine z_Vi (bc := [[zO10 xo t im mk rd po co tr wa wb_ fi cd], wt, z0_, z1_, wg0_, wg1_, wwA, wwB, wff]) (br := []) (As := [.int i1, .int i2]) (rest := []) C G (c_e_fit l T xo t im mk rd po co tr wa wb_ fi cd l0 l1 d0 d1 g0 g1 ln fl pl ft fk wt cr0_ inn0_ k10_ k20_ k30_ k40_ z0_ cr1_ inn1_ k11_ k21_ k31_ k41_ z1_ gg0_ q10_ q20_ wg0_ gg1_ q11_ q21_ wg1_ laA mdA wyA pc_A f1A f2A f3A f4A f5A f6A n4A wwA laB mdB wyB pc_B f1B f2B f3B f4B f5B f6B n4B wwB e0f e1f e2f e3f e4f e5f r1f m1f r2f wff i1 i2 ht (by first | with_reducible assumption | with_reducible rfl | omega | assumption | rfl) hz0_ (by first | with_reducible assumption | with_reducible rfl | omega | assumption | rfl) hz1_ (by first | with_reducible assumption | with_reducible rfl | omega | assumption | rfl) hg0_ hg1_ hwwA (by first | with_reducible assumption | with_reducible rfl | omega | assumption | rfl) (by first | with_reducible assumption | with_reducible rfl | omega | assumption | rfl) (by first | with_reducible assumption | with_reducible rfl | omega | assumption | rfl) (by first | with_reducible assumption | with_reducible rfl | omega | assumption | rfl) (by first | with_reducible assumption | with_reducible rfl | omega | assumption | rfl) hwwB (by first | with_reducible assumption | with_reducible rfl | omega | assumption | rfl) (by first | with_reducible assumption | with_reducible rfl | omega | assumption | rfl) (by first | with_reducible assumption | with_reducible rfl | omega | assumption | rfl) (by first | with_reducible assumption | with_reducible rfl | omega | assumption | rfl) (by first | with_reducible assumption | with_reducible rfl | omega | assumption | rfl) hwff hfw hf3 hFI hFt00 hFt01 hFt10 hFt11 hGg0 hGg1) (kV_RX11_302 C.2.2.2.2 (Nat.le_of_ble_eq_true rfl) (Nat.le_of_ble_eq_true rfl)) [0, 1, 2, 3, 4, 5, 6, 7, 8] [0, 0, 0, 0, 0, 0, 0, 0, 0] rfl rfl (ci := 10) (qc := (RX11, TX11, 11)) rfl rfl (List.mem_flatten.mpr ⟨_, List.mem_of_getElem? (i := 0) rfl, List.mem_cons_self⟩) rfl rfl hl.1 dX11_least_3 (Nat.le_of_ble_eq_true rfl) (by show _ + (6 * (zNA (i1.toInt = 0 ∧ 0 < (fk 0).toInt ∧ (0 ≤ i2.toInt ∧ i2.toInt < (fk 2).toInt ∧ i2.toInt < 2) ∧ (e0f.toInt = 0 ∨ ¬ e1f.toInt = i1.toInt ∨ ¬ e2f.toInt = i2.toInt)) mdA n4A (zPl cr0_ inn0_ k10_) - n4A) + 6 * (zNA (i1.toInt = 1 ∧ 1 < (fk 0).toInt ∧ (0 ≤ i2.toInt ∧ i2.toInt < (fk 2).toInt ∧ i2.toInt < 2) ∧ (e0f.toInt = 0 ∨ ¬ e1f.toInt = i1.toInt ∨ ¬ e2f.toInt = i2.toInt)) mdB n4B (zPl cr1_ inn1_ k11_) - n4B) + 2 * (zNF (i1.toInt = 1 ∧ 1 < (fk 0).toInt ∧ (0 ≤ i2.toInt ∧ i2.toInt < (fk 2).toInt ∧ i2.toInt < 2) ∧ (e0f.toInt = 0 ∨ ¬ e1f.toInt = i1.toInt ∨ ¬ e2f.toInt = i2.toInt)) (zNF (i1.toInt = 0 ∧ 0 < (fk 0).toInt ∧ (0 ≤ i2.toInt ∧ i2.toInt < (fk 2).toInt ∧ i2.toInt < 2) ∧ (e0f.toInt = 0 ∨ ¬ e1f.toInt = i1.toInt ∨ ¬ e2f.toInt = i2.toInt)) m1f (zMw mdA wyA cr0_ inn0_ k10_)) (zMw mdB wyB cr1_ inn1_ k11_) - m1f)) ≤ 6 * (zNA (i1.toInt = 0 ∧ 0 < (fk 0).toInt ∧ (0 ≤ i2.toInt ∧ i2.toInt < (fk 2).toInt ∧ i2.toInt < 2) ∧ (e0f.toInt = 0 ∨ ¬ e1f.toInt = i1.toInt ∨ ¬ e2f.toInt = i2.toInt)) mdA n4A (zPl cr0_ inn0_ k10_) - n4A) + 6 * (zNA (i1.toInt = 1 ∧ 1 < (fk 0).toInt ∧ (0 ≤ i2.toInt ∧ i2.toInt < (fk 2).toInt ∧ i2.toInt < 2) ∧ (e0f.toInt = 0 ∨ ¬ e1f.toInt = i1.toInt ∨ ¬ e2f.toInt = i2.toInt)) mdB n4B (zPl cr1_ inn1_ k11_) - n4B) + 2 * (zNF (i1.toInt = 1 ∧ 1 < (fk 0).toInt ∧ (0 ≤ i2.toInt ∧ i2.toInt < (fk 2).toInt ∧ i2.toInt < 2) ∧ (e0f.toInt = 0 ∨ ¬ e1f.toInt = i1.toInt ∨ ¬ e2f.toInt = i2.toInt)) (zNF (i1.toInt = 0 ∧ 0 < (fk 0).toInt ∧ (0 ≤ i2.toInt ∧ i2.toInt < (fk 2).toInt ∧ i2.toInt < 2) ∧ (e0f.toInt = 0 ∨ ¬ e1f.toInt = i1.toInt ∨ ¬ e2f.toInt = i2.toInt)) m1f (zMw mdA wyA cr0_ inn0_ k10_)) (zMw mdB wyB cr1_ inn1_ k11_) - m1f); omega) (fun r_60 b1 H locs hw G => ?_)
  refine zEx34 hw ?_
  intro laA_1 mdA_2 wyA_3 pc_A_4 f1A_5 f2A_6 f3A_7 f4A_8 f5A_9 f6A_10 n4A_11 wwA_12 laB_13 mdB_14 wyB_15 pc_B_16 f1B_17 f2B_18 f3B_19 f4B_20 f5B_21 f6B_22 n4B_23 wwB_24 e0f_25 e1f_26 e2f_27 e3f_28 e4f_29 e5f_30 r1f_31 m1f_32 r2f_33 wff_34
  refine zCu26 ?_
  intro hbs9 h_35 h_36 h_37 h_38 h_39 h_40 h_41 h_42 h_43 h_44 h_45 h_46 h_47 h_48 h_49 h_50 h_51 h_52 h_53 h_54 h_55 h_56 h_57 h_58 h_59
  clear hw
  subst hbs9
  have G : zS T A s.heap s [[zO10 xo t im mk rd po co tr wa wb_ fi cd], wt, z0_, z1_, wg0_, wg1_, wwA_12, wwB_24, wff_34] _ _ := G
  replace h_36 : zHd ((mdA_2 = 0 ∨ laA_1 = l0)) := h_36
  replace h_40 : zHd ((¬ mdA = 0 → ¬ mdA_2 = 0)) := h_40
  replace h_41 : zHd ((mdA_2 = 0 ∨ zTab cr0_ inn0_ k10_ k20_ wyA_3 pc_A_4 f1A_5 f2A_6 f5A_9 n4A_11)) := h_41
  replace h_43 : zHd ((mdB_14 = 0 ∨ laB_13 = l1)) := h_43
  replace h_47 : zHd ((¬ mdB = 0 → ¬ mdB_14 = 0)) := h_47
  replace h_48 : zHd ((mdB_14 = 0 ∨ zTab cr1_ inn1_ k11_ k21_ wyB_15 pc_B_16 f1B_17 f2B_18 f5B_21 n4B_23)) := h_48
  replace h_54 : zHd ((¬ e0f_25 = 0 → e1f_26.toInt = 0 ∧ ¬ mdA_2 = 0 ∨ e1f_26.toInt = 1 ∧ ¬ mdB_14 = 0)) := h_54
  refine lv_if_eq (tgt := 19) hx hb dX11_least_6 (by decide) (fun c_61 => ?_) (fun c_61 => ?_)
  · have c_61n : r_60.toInt = (0 : Int) := (fa_eq _ _).mp c_61
    refine lv_iconst (v := (-1)) hx hb dX11_least_19 (by decide) ?_
    exact z_back hQz_ (z_iret C hr hlocks G (Nat.le_of_ble_eq_true rfl) (by omega) dX11_least_20 ⟨laA_1, mdA_2, wyA_3, pc_A_4, f1A_5, f2A_6, f3A_7, f4A_8, f5A_9, f6A_10, n4A_11, wwA_12, laB_13, mdB_14, wyB_15, pc_B_16, f1B_17, f2B_18, f3B_19, f4B_20, f5B_21, f6B_22, n4B_23, wwB_24, e0f_25, e1f_26, e2f_27, e3f_28, e4f_29, e5f_30, r1f_31, m1f_32, r2f_33, wff_34, rfl, h_35, h_36, h_37, h_38, h_39, h_40, h_41, h_42, h_43, h_44, h_45, h_46, h_47, h_48, h_49, h_50, h_51, h_52, h_54, h_55, h_56, h_57, h_58, (by rcases h_53 with ⟨x0, x1⟩ | ⟨x0, x1, x2, x3⟩ <;> first | (exfalso; first | (exact absurd (congrArg Int32.toInt x0) (by first | with_reducible assumption | assumption)) | (exact absurd x0 (by first | with_reducible assumption | assumption)) | (exact absurd x0 (by decide)) | omega | (have x9 := congrArg Int32.toInt x0; have x8 : (1 : Int32).toInt = 1 := rfl; have x7 : (0 : Int32).toInt = 0 := rfl; omega)) | (exact Or.inl ⟨by first | exact Or.inl (by omega) | exact Or.inr (by omega) | omega, rfl⟩) | (have x4 := (h_59).resolve_left (fun q9 => absurd (x0.symm.trans q9) (by decide)); rcases (show (i1.toInt = 0 ∧ i2.toInt = 0) ∨ (i1.toInt = 0 ∧ i2.toInt = 1) ∨ (i1.toInt = 1 ∧ i2.toInt = 0) ∨ (i1.toInt = 1 ∧ i2.toInt = 1) by omega) with z9 | z9 | z9 | z9 <;> first | (exact Or.inr (Or.inl ⟨⟨by omega, by omega⟩, ⟨by omega, by omega⟩, (by have y9 := (h_55 (by first | exact x2 | assumption) (by omega) (by omega)); unfold kLeast kLst; exact (if_pos (by have y8 := y9.1; have y7 := zNIz (y8.symm.trans (by first | with_reducible assumption | assumption)) (by have y6 := y9.2.2.2.2; have y5 := zFw_le h_51; omega); exact y7)).symm)⟩)) | (exact Or.inr (Or.inr (Or.inl ⟨⟨by omega, by omega⟩, ⟨by omega, by omega⟩, (by have y9 := (h_56 (by first | exact x2 | assumption) (by omega) (by omega)); unfold kLeast kLst; exact (if_pos (by have y8 := y9.1; have y7 := zNIz (y8.symm.trans (by first | with_reducible assumption | assumption)) (by have y6 := y9.2.2.2.2; have y5 := zFw_le h_51; omega); exact y7)).symm)⟩))) | (exact Or.inr (Or.inr (Or.inr (Or.inl ⟨⟨by omega, by omega⟩, ⟨by omega, by omega⟩, (by have y9 := (h_57 (by first | exact x2 | assumption) (by omega) (by omega)); unfold kLeast kLst; exact (if_pos (by have y8 := y9.1; have y7 := zNIz (y8.symm.trans (by first | with_reducible assumption | assumption)) (by have y6 := y9.2.2.2.2; have y5 := zFw_le h_51; omega); exact y7)).symm)⟩)))) | (exact Or.inr (Or.inr (Or.inr (Or.inr (⟨⟨by omega, by omega⟩, ⟨by omega, by omega⟩, (by have y9 := (h_58 (by first | exact x2 | assumption) (by omega) (by omega)); unfold kLeast kLst; exact (if_pos (by have y8 := y9.1; have y7 := zNIz (y8.symm.trans (by first | with_reducible assumption | assumption)) (by have y6 := y9.2.2.2.2; have y5 := zFw_le h_51; omega); exact y7)).symm)⟩)))))))⟩)
  · have c_61n : ¬ r_60.toInt = (0 : Int) := fun q => c_61 ((fa_eq _ _).mpr q)
    refine lv_aload_n hx hb dX11_least_9 rfl (lv_at hl 0 rfl) ?_
    refine z_get C G clX11 0 rfl 9 (by decide) m_fl_RX11_65 rfl dX11_least_10 ?_
    refine zEx2 h_49 ?_
    intro a1_62 a2_63 hbs9
    clear h_49
    subst hbs9
    have G : zS T A s.heap s [[zO10 xo t im mk rd po co tr wa wb_ fi cd], wt, z0_, z1_, wg0_, wg1_, wwA_12, wwB_24, [zO3 fi e0f_25 e1f_26 e2f_27 e3f_28 e4f_29 e5f_30 a1_62 a2_63], [zAr T 0 a1_62 m1f_32 r1f_31], [zAr T 0 a2_63 7 r2f_33]] _ _ := G.re rfl
    refine z_get C G clX3 8 rfl 3 (by decide) m_fl_RX11_306 rfl dX11_least_13 ?_
    refine lv_if_ne (tgt := 21) hx hb dX11_least_16 (by decide) (fun c_64 => ?_) (fun c_64 => ?_)
    · have c_64n : ¬ e3f_28.toInt = (0 : Int) := fun q => c_64 ((fa_eq _ _).mpr q)
      refine lv_iload_n hx hb dX11_least_21 rfl (lv_at hl 3 rfl) ?_
      refine lv_if_eq (tgt := 35) hx hb dX11_least_22 (by decide) (fun c_65 => ?_) (fun c_65 => ?_)
      · have c_65n : w_.toInt = (0 : Int) := (fa_eq _ _).mp c_65
        refine lv_aload_n hx hb dX11_least_35 rfl (lv_at hl 0 rfl) ?_
        refine z_get C G clX11 0 rfl 9 (by decide) m_fl_RX11_65 rfl dX11_least_36 ?_
        refine z_get C G clX3 8 rfl 4 (by decide) m_fl_RX11_327 rfl dX11_least_39 ?_
        have hw_66 : bFit T fi e0f_25 e1f_26 e2f_27 e3f_28 e4f_29 e5f_30 r1f_31 m1f_32 r2f_33 [zO3 fi e0f_25 e1f_26 e2f_27 e3f_28 e4f_29 e5f_30 a1_62 a2_63, zAr T 0 a1_62 m1f_32 r1f_31, zAr T 0 a2_63 7 r2f_33] := ⟨a1_62, a2_63, rfl⟩
        have G : zS T A s.heap s [[zO10 xo t im mk rd po co tr wa wb_ fi cd], wt, z0_, z1_, wg0_, wg1_, wwA_12, wwB_24, [zO3 fi e0f_25 e1f_26 e2f_27 e3f_28 e4f_29 e5f_30 a1_62 a2_63, zAr T 0 a1_62 m1f_32 r1f_31, zAr T 0 a2_63 7 r2f_33]] _ _ := G.re rfl
        exact z_back hQz_ (z_iret C hr hlocks G (Nat.le_of_ble_eq_true rfl) (by omega) dX11_least_42 ⟨laA_1, mdA_2, wyA_3, pc_A_4, f1A_5, f2A_6, f3A_7, f4A_8, f5A_9, f6A_10, n4A_11, wwA_12, laB_13, mdB_14, wyB_15, pc_B_16, f1B_17, f2B_18, f3B_19, f4B_20, f5B_21, f6B_22, n4B_23, wwB_24, e0f_25, e1f_26, e2f_27, e3f_28, e4f_29, e5f_30, r1f_31, m1f_32, r2f_33, ([zO3 fi e0f_25 e1f_26 e2f_27 e3f_28 e4f_29 e5f_30 a1_62 a2_63, zAr T 0 a1_62 m1f_32 r1f_31, zAr T 0 a2_63 7 r2f_33]), rfl, h_35, h_36, h_37, h_38, h_39, h_40, h_41, h_42, h_43, h_44, h_45, h_46, h_47, h_48, hw_66, h_50, h_51, h_52, h_54, h_55, h_56, h_57, h_58, (by rcases h_53 with ⟨x0, x1⟩ | ⟨x0, x1, x2, x3⟩ <;> first | (exfalso; first | (exact absurd (congrArg Int32.toInt x0) (by first | with_reducible assumption | assumption)) | (exact absurd x0 (by first | with_reducible assumption | assumption)) | (exact absurd x0 (by decide)) | omega | (have x9 := congrArg Int32.toInt x0; have x8 : (1 : Int32).toInt = 1 := rfl; have x7 : (0 : Int32).toInt = 0 := rfl; omega)) | (exact Or.inl ⟨by first | exact Or.inl (by omega) | exact Or.inr (by omega) | omega, rfl⟩) | (have x4 := (h_59).resolve_left (fun q9 => absurd (x0.symm.trans q9) (by decide)); rcases (show (i1.toInt = 0 ∧ i2.toInt = 0) ∨ (i1.toInt = 0 ∧ i2.toInt = 1) ∨ (i1.toInt = 1 ∧ i2.toInt = 0) ∨ (i1.toInt = 1 ∧ i2.toInt = 1) by omega) with z9 | z9 | z9 | z9 <;> first | (exact Or.inr (Or.inl ⟨⟨by omega, by omega⟩, ⟨by omega, by omega⟩, (by have y9 := (h_55 (by first | exact x2 | assumption) (by omega) (by omega)); unfold kLeast kLst; refine Eq.symm ((if_neg (fun y8 => absurd (y9.1.trans (congrArg nI y8)) (by first | with_reducible assumption | assumption))).trans ?_); first | (rw [if_pos (by first | with_reducible assumption | assumption)]; exact y9.2.1.symm) | (rw [if_neg (by first | with_reducible assumption | assumption)]; exact y9.2.2.1.symm))⟩)) | (exact Or.inr (Or.inr (Or.inl ⟨⟨by omega, by omega⟩, ⟨by omega, by omega⟩, (by have y9 := (h_56 (by first | exact x2 | assumption) (by omega) (by omega)); unfold kLeast kLst; refine Eq.symm ((if_neg (fun y8 => absurd (y9.1.trans (congrArg nI y8)) (by first | with_reducible assumption | assumption))).trans ?_); first | (rw [if_pos (by first | with_reducible assumption | assumption)]; exact y9.2.1.symm) | (rw [if_neg (by first | with_reducible assumption | assumption)]; exact y9.2.2.1.symm))⟩))) | (exact Or.inr (Or.inr (Or.inr (Or.inl ⟨⟨by omega, by omega⟩, ⟨by omega, by omega⟩, (by have y9 := (h_57 (by first | exact x2 | assumption) (by omega) (by omega)); unfold kLeast kLst; refine Eq.symm ((if_neg (fun y8 => absurd (y9.1.trans (congrArg nI y8)) (by first | with_reducible assumption | assumption))).trans ?_); first | (rw [if_pos (by first | with_reducible assumption | assumption)]; exact y9.2.1.symm) | (rw [if_neg (by first | with_reducible assumption | assumption)]; exact y9.2.2.1.symm))⟩)))) | (exact Or.inr (Or.inr (Or.inr (Or.inr (⟨⟨by omega, by omega⟩, ⟨by omega, by omega⟩, (by have y9 := (h_58 (by first | exact x2 | assumption) (by omega) (by omega)); unfold kLeast kLst; refine Eq.symm ((if_neg (fun y8 => absurd (y9.1.trans (congrArg nI y8)) (by first | with_reducible assumption | assumption))).trans ?_); first | (rw [if_pos (by first | with_reducible assumption | assumption)]; exact y9.2.1.symm) | (rw [if_neg (by first | with_reducible assumption | assumption)]; exact y9.2.2.1.symm))⟩)))))))⟩)
      · have c_65n : ¬ w_.toInt = (0 : Int) := fun q => c_65 ((fa_eq _ _).mpr q)
        refine lv_aload_n hx hb dX11_least_25 rfl (lv_at hl 0 rfl) ?_
        refine z_get C G clX11 0 rfl 9 (by decide) m_fl_RX11_65 rfl dX11_least_26 ?_
        refine z_get C G clX3 8 rfl 5 (by decide) m_fl_RX11_324 rfl dX11_least_29 ?_
        refine lv_goto (tgt := 42) hx hb dX11_least_32 (by decide) ?_
        have hw_67 : bFit T fi e0f_25 e1f_26 e2f_27 e3f_28 e4f_29 e5f_30 r1f_31 m1f_32 r2f_33 [zO3 fi e0f_25 e1f_26 e2f_27 e3f_28 e4f_29 e5f_30 a1_62 a2_63, zAr T 0 a1_62 m1f_32 r1f_31, zAr T 0 a2_63 7 r2f_33] := ⟨a1_62, a2_63, rfl⟩
        have G : zS T A s.heap s [[zO10 xo t im mk rd po co tr wa wb_ fi cd], wt, z0_, z1_, wg0_, wg1_, wwA_12, wwB_24, [zO3 fi e0f_25 e1f_26 e2f_27 e3f_28 e4f_29 e5f_30 a1_62 a2_63, zAr T 0 a1_62 m1f_32 r1f_31, zAr T 0 a2_63 7 r2f_33]] _ _ := G.re rfl
        exact z_back hQz_ (z_iret C hr hlocks G (Nat.le_of_ble_eq_true rfl) (by omega) dX11_least_42 ⟨laA_1, mdA_2, wyA_3, pc_A_4, f1A_5, f2A_6, f3A_7, f4A_8, f5A_9, f6A_10, n4A_11, wwA_12, laB_13, mdB_14, wyB_15, pc_B_16, f1B_17, f2B_18, f3B_19, f4B_20, f5B_21, f6B_22, n4B_23, wwB_24, e0f_25, e1f_26, e2f_27, e3f_28, e4f_29, e5f_30, r1f_31, m1f_32, r2f_33, ([zO3 fi e0f_25 e1f_26 e2f_27 e3f_28 e4f_29 e5f_30 a1_62 a2_63, zAr T 0 a1_62 m1f_32 r1f_31, zAr T 0 a2_63 7 r2f_33]), rfl, h_35, h_36, h_37, h_38, h_39, h_40, h_41, h_42, h_43, h_44, h_45, h_46, h_47, h_48, hw_67, h_50, h_51, h_52, h_54, h_55, h_56, h_57, h_58, (by rcases h_53 with ⟨x0, x1⟩ | ⟨x0, x1, x2, x3⟩ <;> first | (exfalso; first | (exact absurd (congrArg Int32.toInt x0) (by first | with_reducible assumption | assumption)) | (exact absurd x0 (by first | with_reducible assumption | assumption)) | (exact absurd x0 (by decide)) | omega | (have x9 := congrArg Int32.toInt x0; have x8 : (1 : Int32).toInt = 1 := rfl; have x7 : (0 : Int32).toInt = 0 := rfl; omega)) | (exact Or.inl ⟨by first | exact Or.inl (by omega) | exact Or.inr (by omega) | omega, rfl⟩) | (have x4 := (h_59).resolve_left (fun q9 => absurd (x0.symm.trans q9) (by decide)); rcases (show (i1.toInt = 0 ∧ i2.toInt = 0) ∨ (i1.toInt = 0 ∧ i2.toInt = 1) ∨ (i1.toInt = 1 ∧ i2.toInt = 0) ∨ (i1.toInt = 1 ∧ i2.toInt = 1) by omega) with z9 | z9 | z9 | z9 <;> first | (exact Or.inr (Or.inl ⟨⟨by omega, by omega⟩, ⟨by omega, by omega⟩, (by have y9 := (h_55 (by first | exact x2 | assumption) (by omega) (by omega)); unfold kLeast kLst; refine Eq.symm ((if_neg (fun y8 => absurd (y9.1.trans (congrArg nI y8)) (by first | with_reducible assumption | assumption))).trans ?_); first | (rw [if_pos (by first | with_reducible assumption | assumption)]; exact y9.2.1.symm) | (rw [if_neg (by first | with_reducible assumption | assumption)]; exact y9.2.2.1.symm))⟩)) | (exact Or.inr (Or.inr (Or.inl ⟨⟨by omega, by omega⟩, ⟨by omega, by omega⟩, (by have y9 := (h_56 (by first | exact x2 | assumption) (by omega) (by omega)); unfold kLeast kLst; refine Eq.symm ((if_neg (fun y8 => absurd (y9.1.trans (congrArg nI y8)) (by first | with_reducible assumption | assumption))).trans ?_); first | (rw [if_pos (by first | with_reducible assumption | assumption)]; exact y9.2.1.symm) | (rw [if_neg (by first | with_reducible assumption | assumption)]; exact y9.2.2.1.symm))⟩))) | (exact Or.inr (Or.inr (Or.inr (Or.inl ⟨⟨by omega, by omega⟩, ⟨by omega, by omega⟩, (by have y9 := (h_57 (by first | exact x2 | assumption) (by omega) (by omega)); unfold kLeast kLst; refine Eq.symm ((if_neg (fun y8 => absurd (y9.1.trans (congrArg nI y8)) (by first | with_reducible assumption | assumption))).trans ?_); first | (rw [if_pos (by first | with_reducible assumption | assumption)]; exact y9.2.1.symm) | (rw [if_neg (by first | with_reducible assumption | assumption)]; exact y9.2.2.1.symm))⟩)))) | (exact Or.inr (Or.inr (Or.inr (Or.inr (⟨⟨by omega, by omega⟩, ⟨by omega, by omega⟩, (by have y9 := (h_58 (by first | exact x2 | assumption) (by omega) (by omega)); unfold kLeast kLst; refine Eq.symm ((if_neg (fun y8 => absurd (y9.1.trans (congrArg nI y8)) (by first | with_reducible assumption | assumption))).trans ?_); first | (rw [if_pos (by first | with_reducible assumption | assumption)]; exact y9.2.1.symm) | (rw [if_neg (by first | with_reducible assumption | assumption)]; exact y9.2.2.1.symm))⟩)))))))⟩)
    · have c_64n : e3f_28.toInt = (0 : Int) := (fa_eq _ _).mp c_64
      refine lv_iconst (v := (-1)) hx hb dX11_least_19 (by decide) ?_
      have hw_68 : bFit T fi e0f_25 e1f_26 e2f_27 e3f_28 e4f_29 e5f_30 r1f_31 m1f_32 r2f_33 [zO3 fi e0f_25 e1f_26 e2f_27 e3f_28 e4f_29 e5f_30 a1_62 a2_63, zAr T 0 a1_62 m1f_32 r1f_31, zAr T 0 a2_63 7 r2f_33] := ⟨a1_62, a2_63, rfl⟩
      have G : zS T A s.heap s [[zO10 xo t im mk rd po co tr wa wb_ fi cd], wt, z0_, z1_, wg0_, wg1_, wwA_12, wwB_24, [zO3 fi e0f_25 e1f_26 e2f_27 e3f_28 e4f_29 e5f_30 a1_62 a2_63, zAr T 0 a1_62 m1f_32 r1f_31, zAr T 0 a2_63 7 r2f_33]] _ _ := G.re rfl
      exact z_back hQz_ (z_iret C hr hlocks G (Nat.le_of_ble_eq_true rfl) (by omega) dX11_least_20 ⟨laA_1, mdA_2, wyA_3, pc_A_4, f1A_5, f2A_6, f3A_7, f4A_8, f5A_9, f6A_10, n4A_11, wwA_12, laB_13, mdB_14, wyB_15, pc_B_16, f1B_17, f2B_18, f3B_19, f4B_20, f5B_21, f6B_22, n4B_23, wwB_24, e0f_25, e1f_26, e2f_27, e3f_28, e4f_29, e5f_30, r1f_31, m1f_32, r2f_33, ([zO3 fi e0f_25 e1f_26 e2f_27 e3f_28 e4f_29 e5f_30 a1_62 a2_63, zAr T 0 a1_62 m1f_32 r1f_31, zAr T 0 a2_63 7 r2f_33]), rfl, h_35, h_36, h_37, h_38, h_39, h_40, h_41, h_42, h_43, h_44, h_45, h_46, h_47, h_48, hw_68, h_50, h_51, h_52, h_54, h_55, h_56, h_57, h_58, (by rcases h_53 with ⟨x0, x1⟩ | ⟨x0, x1, x2, x3⟩ <;> first | (exfalso; first | (exact absurd (congrArg Int32.toInt x0) (by first | with_reducible assumption | assumption)) | (exact absurd x0 (by first | with_reducible assumption | assumption)) | (exact absurd x0 (by decide)) | omega | (have x9 := congrArg Int32.toInt x0; have x8 : (1 : Int32).toInt = 1 := rfl; have x7 : (0 : Int32).toInt = 0 := rfl; omega)) | (exact Or.inl ⟨by first | exact Or.inl (by omega) | exact Or.inr (by omega) | omega, rfl⟩) | (have x4 := (h_59).resolve_left (fun q9 => absurd (x0.symm.trans q9) (by decide)); rcases (show (i1.toInt = 0 ∧ i2.toInt = 0) ∨ (i1.toInt = 0 ∧ i2.toInt = 1) ∨ (i1.toInt = 1 ∧ i2.toInt = 0) ∨ (i1.toInt = 1 ∧ i2.toInt = 1) by omega) with z9 | z9 | z9 | z9 <;> first | (exact Or.inr (Or.inl ⟨⟨by omega, by omega⟩, ⟨by omega, by omega⟩, (by have y9 := (h_55 (by first | exact x2 | assumption) (by omega) (by omega)); unfold kLeast kLst; exact (if_pos (by have y8 := y9.1; have y7 := zNIz (y8.symm.trans (by first | with_reducible assumption | assumption)) (by have y6 := y9.2.2.2.2; have y5 := zFw_le h_51; omega); exact y7)).symm)⟩)) | (exact Or.inr (Or.inr (Or.inl ⟨⟨by omega, by omega⟩, ⟨by omega, by omega⟩, (by have y9 := (h_56 (by first | exact x2 | assumption) (by omega) (by omega)); unfold kLeast kLst; exact (if_pos (by have y8 := y9.1; have y7 := zNIz (y8.symm.trans (by first | with_reducible assumption | assumption)) (by have y6 := y9.2.2.2.2; have y5 := zFw_le h_51; omega); exact y7)).symm)⟩))) | (exact Or.inr (Or.inr (Or.inr (Or.inl ⟨⟨by omega, by omega⟩, ⟨by omega, by omega⟩, (by have y9 := (h_57 (by first | exact x2 | assumption) (by omega) (by omega)); unfold kLeast kLst; exact (if_pos (by have y8 := y9.1; have y7 := zNIz (y8.symm.trans (by first | with_reducible assumption | assumption)) (by have y6 := y9.2.2.2.2; have y5 := zFw_le h_51; omega); exact y7)).symm)⟩)))) | (exact Or.inr (Or.inr (Or.inr (Or.inr (⟨⟨by omega, by omega⟩, ⟨by omega, by omega⟩, (by have y9 := (h_58 (by first | exact x2 | assumption) (by omega) (by omega)); unfold kLeast kLst; exact (if_pos (by have y8 := y9.1; have y7 := zNIz (y8.symm.trans (by first | with_reducible assumption | assumption)) (by have y6 := y9.2.2.2.2; have y5 := zFw_le h_51; omega); exact y7)).symm)⟩)))))))⟩)
set_option maxHeartbeats 4000000 in
set_option maxRecDepth 100000 in
/-- c_fm_isSo -/
theorem c_fm_isSo (l : Launch) (T : zTy) (mo : Nat) (m_all : Nat) (m_has : Nat) (i_size : Int32) (i_next : Int32) (i_where : Int32) (i_token : Int32) (i_number : Int32) (i_word : Int32) (i_wrong : Int32) (i_farCrossing : Int32) (m_read : Nat) (i_z0 : Int32) (i_crossings : Int32) (i_inns : Int32) (m_posts : Nat) (m_shut : Nat) (m_here : Nat) (i_steps : Int32) (i_done : Int32) (i_at : Int32) (i_gone : Int32) (m_was : Nat) (m_came : Nat) (m_seenAt : Nat) (m_rowWorth : Nat) (m_farBy : Nat) (m_used : Nat) (i_everywhere : Int32) (i_again0 : Int32) (i_d0 : Int32) (i_never : Int32) (i_firstCame : Int32) (i_longRun : Int32) (i_moved : Int32) (i_crowd : Int32) (i_l0 : Int32) (i_fitMany : Int32) (i_fitLeast : Int32) (i_fitMost : Int32) (m_fitPost : Nat) (m_fitEnd : Nat) (m_keptPosts : Nat) (i_x0 : Int32) (f_all : Nat → Int32) (f_posts : Nat → Int32) (f_shut : Nat → Int32) (f_was : Nat → Int32) (v_ : Nat) (hL : zML f_all i_z0 i_crossings) (hP : zMP f_posts) (hV : zMV (zRo f_all i_z0) f_posts) (hS : (∀ j, j < 7 → f_shut j = 0)) (hD : zMG f_all i_l0) (hdf : (∀ j, j < 7 → 0 < ((zWo f_all i_z0 i_inns) j).toInt → f_posts j = aPo (zWo f_all i_z0 i_inns) v_ j)) (hv_ : v_ < aPr (zWo f_all i_z0 i_inns) 7) : zMi l T yX12_isSo cX12_isSo 5 (some .boolean) 5 0 0 [.ref mo] [[zO11 mo m_all m_has i_size i_next i_where i_token i_number i_word i_wrong i_farCrossing m_read i_z0 i_crossings i_inns m_posts m_shut m_here i_steps i_done i_at i_gone m_was m_came m_seenAt m_rowWorth m_farBy m_used i_everywhere i_again0 i_d0 i_never i_firstCame i_longRun i_moved i_crowd i_l0 i_fitMany i_fitLeast i_fitMost m_fitPost m_fitEnd m_keptPosts i_x0], [zAr T 0 m_all 3952 f_all], [zAr T 0 m_posts 7 f_posts], [zAr T 0 m_shut 7 f_shut], [zAr T 0 m_was 7 f_was]] (fun (r : Int32) bs => ∃ (j_steps : Int32) (j_at : Int32) (j_gone : Int32) (g_posts : Nat → Int32) (g_was : Nat → Int32) (th : Nat) (st : Nat), bs = [[zO11 mo m_all m_has i_size i_next i_where i_token i_number i_word i_wrong i_farCrossing m_read i_z0 i_crossings i_inns m_posts m_shut m_here j_steps i_done j_at j_gone m_was m_came m_seenAt m_rowWorth m_farBy m_used i_everywhere i_again0 i_d0 i_never i_firstCame i_longRun i_moved i_crowd i_l0 i_fitMany i_fitLeast i_fitMost m_fitPost m_fitEnd m_keptPosts i_x0], [zAr T 0 m_all 3952 f_all], [zAr T 0 m_posts 7 g_posts], [zAr T 0 m_shut 7 f_shut], [zAr T 0 m_was 7 g_was]] ∧ zMP g_posts ∧ zMV (zRo f_all i_z0) g_posts ∧ ((r = 1 ∧ gF (zWo f_all i_z0 i_inns) (zLo f_all i_z0) i_crossings i_inns (zGq f_all i_l0) (zGi f_all i_l0) v_ (f_all i_l0.toInt.toNat).toInt.toNat = (true, th, st) ∧ j_steps = nI st ∧ st ≤ 3992 ∧ (∀ j, j < 7 → 0 < ((zWo f_all i_z0 i_inns) j).toInt → g_posts j = aPo (zWo f_all i_z0 i_inns) th j) ∧ th < aPr (zWo f_all i_z0 i_inns) 7) ∨ (r = 0 ∧ (gF (zWo f_all i_z0 i_inns) (zLo f_all i_z0) i_crossings i_inns (zGq f_all i_l0) (zGi f_all i_l0) v_ (f_all i_l0.toInt.toNat).toInt.toNat).1 = false))) := by
  refine zMi_of (own := RX12) (by decide) rfl (Nat.le_of_ble_eq_true rfl) ?_
  intro p e s m args below meth c A ls C hr hlocks hnm hAe G hl
  refine zHide (fun Qz_ hQz_ => ?_)
  have hx := C.1
  have hb := C.2.1
  have hl : lv_has ls 5 [(0, .ref mo)] := hl
  have hz := hL.1
  have hcr := hL.cr
  have hDa := hD.1
  have hDb := hD.2
  have hcd := z_clI (x := i_l0) (by omega)
  have hgc9 : (f_all i_l0.toInt.toNat).toInt = (f_all i_l0.toNatClampNeg).toInt := rfl
  have hOk9 := zLOk (n := i_inns) hL
  refine lv_aload_n hx hb dX12_isSo_0 rfl (lv_at hl 0 rfl) ?_
  refine lv_iconst (v := 0) hx hb dX12_isSo_1 (by decide) ?_
  refine z_put C G clX12 0 rfl 17 (by decide) m_fl_RX12_196 rfl rfl rfl (Nat.le_of_ble_eq_true rfl) dX12_isSo_2 (fun H locs G => ?_)
  have G : zS T A s.heap s [[zO11 mo m_all m_has i_size i_next i_where i_token i_number i_word i_wrong i_farCrossing m_read i_z0 i_crossings i_inns m_posts m_shut m_here 0 i_done i_at i_gone m_was m_came m_seenAt m_rowWorth m_farBy m_used i_everywhere i_again0 i_d0 i_never i_firstCame i_longRun i_moved i_crowd i_l0 i_fitMany i_fitLeast i_fitMost m_fitPost m_fitEnd m_keptPosts i_x0], [zAr T 0 m_all 3952 f_all], [zAr T 0 m_posts 7 f_posts], [zAr T 0 m_shut 7 f_shut], [zAr T 0 m_was 7 f_was]] _ _ := G
  refine lv_iconst (v := 0) hx hb dX12_isSo_5 (by decide) ?_
  refine lv_istore_n (lv' := [(1, .int 0), (0, .ref mo)]) hx hb dX12_isSo_6 rfl hl (by decide) (zLvf_h rfl) (fun ls hl => ?_)
  refine z_lp8 (T := T) 7 (fun (i : Nat) (th : Nat) (st : Nat) (xsteps : Int32) (xat : Int32) (xgone : Int32) (xposts : Nat → Int32) (xwas : Nat → Int32) => [[zO11 mo m_all m_has i_size i_next i_where i_token i_number i_word i_wrong i_farCrossing m_read i_z0 i_crossings i_inns m_posts m_shut m_here xsteps i_done xat xgone m_was m_came m_seenAt m_rowWorth m_farBy m_used i_everywhere i_again0 i_d0 i_never i_firstCame i_longRun i_moved i_crowd i_l0 i_fitMany i_fitLeast i_fitMost m_fitPost m_fitEnd m_keptPosts i_x0], [zAr T 0 m_all 3952 f_all], [zAr T 0 m_posts 7 xposts], [zAr T 0 m_shut 7 f_shut], [zAr T 0 m_was 7 xwas]]) (fun (i : Nat) (th : Nat) (st : Nat) (xsteps : Int32) (xat : Int32) (xgone : Int32) (xposts : Nat → Int32) (xwas : Nat → Int32) => [(1, .int (nI i)), (0, .ref mo)]) (fun (i : Nat) (th : Nat) (st : Nat) (xsteps : Int32) (xat : Int32) (xgone : Int32) (xposts : Nat → Int32) (xwas : Nat → Int32) => i ≤ 8 ∧ (i : Int) ≤ (f_all i_l0.toInt.toNat).toInt ∧ zMP xposts ∧ zMV (zRo f_all i_z0) xposts ∧ gF (zWo f_all i_z0 i_inns) (zLo f_all i_z0) i_crossings i_inns (zGq f_all i_l0) (zGi f_all i_l0) v_ i = (true, th, st) ∧ xsteps = nI st ∧ st ≤ 499 * i ∧ (∀ j, j < 7 → 0 < ((zWo f_all i_z0 i_inns) j).toInt → xposts j = aPo (zWo f_all i_z0 i_inns) th j) ∧ th < aPr (zWo f_all i_z0 i_inns) 7) (fun (i : Nat) (th : Nat) (st : Nat) (xsteps : Int32) (xat : Int32) (xgone : Int32) (xposts : Nat → Int32) (xwas : Nat → Int32) => 8 - i) ?_ 0 v_ 0 0 i_at i_gone f_posts f_was (show 0 ≤ 8 ∧ (0 : Int) ≤ (f_all i_l0.toInt.toNat).toInt ∧ zMP f_posts ∧ zMV (zRo f_all i_z0) f_posts ∧ gF (zWo f_all i_z0 i_inns) (zLo f_all i_z0) i_crossings i_inns (zGq f_all i_l0) (zGi f_all i_l0) v_ 0 = (true, v_, 0) ∧ 0 = nI 0 ∧ 0 ≤ 499 * 0 ∧ (∀ j, j < 7 → 0 < ((zWo f_all i_z0 i_inns) j).toInt → f_posts j = aPo (zWo f_all i_z0 i_inns) v_ j) ∧ v_ < aPr (zWo f_all i_z0 i_inns) 7 from ⟨by omega, by omega, hP, hV, rfl, rfl, (Nat.zero_le _), hdf, hv_⟩) G (lv_sub hl [0, 1] rfl)
  intro i th st xsteps xat xgone xposts xwas hI9 ih_7 H locs ls G hl
  replace hI9 : i ≤ 8 ∧ (i : Int) ≤ (f_all i_l0.toInt.toNat).toInt ∧ zMP xposts ∧ zMV (zRo f_all i_z0) xposts ∧ gF (zWo f_all i_z0 i_inns) (zLo f_all i_z0) i_crossings i_inns (zGq f_all i_l0) (zGi f_all i_l0) v_ i = (true, th, st) ∧ xsteps = nI st ∧ st ≤ 499 * i ∧ (∀ j, j < 7 → 0 < ((zWo f_all i_z0 i_inns) j).toInt → xposts j = aPo (zWo f_all i_z0 i_inns) th j) ∧ th < aPr (zWo f_all i_z0 i_inns) 7 := hI9
  refine zAn9 hI9 ?_
  intro hi hig hQ hVq hgf hst hsl hdx hth
  clear hI9
  replace G : zS T A s.heap s [[zO11 mo m_all m_has i_size i_next i_where i_token i_number i_word i_wrong i_farCrossing m_read i_z0 i_crossings i_inns m_posts m_shut m_here xsteps i_done xat xgone m_was m_came m_seenAt m_rowWorth m_farBy m_used i_everywhere i_again0 i_d0 i_never i_firstCame i_longRun i_moved i_crowd i_l0 i_fitMany i_fitLeast i_fitMost m_fitPost m_fitEnd m_keptPosts i_x0], [zAr T 0 m_all 3952 f_all], [zAr T 0 m_posts 7 xposts], [zAr T 0 m_shut 7 f_shut], [zAr T 0 m_was 7 xwas]] _ _ := G
  replace hl : lv_has ls 5 [(1, .int (nI i)), (0, .ref mo)] := hl
  refine lv_iload_n hx hb dX12_isSo_7 rfl (lv_at hl 0 rfl) ?_
  refine lv_aload_n hx hb dX12_isSo_8 rfl (lv_at hl 1 rfl) ?_
  refine z_get C G clX12 0 rfl 0 (by decide) m_fl_RX12_7 rfl dX12_isSo_9 ?_
  refine lv_aload_n hx hb dX12_isSo_12 rfl (lv_at hl 1 rfl) ?_
  refine z_get C G clX12 0 rfl 35 (by decide) m_fl_RX12_360 rfl dX12_isSo_13 ?_
  refine z_ild C G 1 rfl (vp_in_iff.mpr ⟨by omega, by omega⟩) dX12_isSo_16 ?_
  refine lv_topi (fun v_1 ev_1 => ?_)
  subst ev_1
  refine lv_icmp_ge (tgt := 111) hx hb dX12_isSo_17 (by decide) (fun c_2 => ?_) (fun c_2 => ?_)
  · have c_2n : (f_all i_l0.toNatClampNeg).toInt ≤ (i : Int) := by have q := (fa_le _ _).mp c_2; rw [nI_toInt (n := i) (by omega)] at q; exact q
    refine lv_iconst (v := 1) hx hb dX12_isSo_111 (by decide) ?_
    exact z_back hQz_ (z_zret C hr hlocks G (Nat.le_of_ble_eq_true rfl) (Nat.le_of_ble_eq_true rfl) dX12_isSo_112 rfl ⟨xsteps, xat, xgone, xposts, xwas, th, st, rfl, hQ, hVq, (Or.inl (⟨rfl, (by rw [show (f_all i_l0.toInt.toNat).toInt.toNat = i by omega]; exact hgf), hst, (by omega), hdx, hth⟩))⟩)
  · have c_2n : ¬ (f_all i_l0.toNatClampNeg).toInt ≤ (i : Int) := fun q => c_2 ((fa_le _ _).mpr (by rw [nI_toInt (n := i) (by omega)]; exact q))
    refine lv_aload_n hx hb dX12_isSo_20 rfl (lv_at hl 1 rfl) ?_
    refine z_get C G clX12 0 rfl 0 (by decide) m_fl_RX12_7 rfl dX12_isSo_21 ?_
    refine lv_aload_n hx hb dX12_isSo_24 rfl (lv_at hl 1 rfl) ?_
    refine z_get C G clX12 0 rfl 35 (by decide) m_fl_RX12_360 rfl dX12_isSo_25 ?_
    refine lv_iconst (v := 1) hx hb dX12_isSo_28 (by decide) ?_
    refine lv_iadd hx hb dX12_isSo_29 ?_
    refine lv_topi (fun y_3 ey_3 => ?_)
    have ey_3i : y_3.toInt = i_l0.toInt + (1 : Int) := by rw [ey_3]; exact z_iaddI (x := i_l0) (y := (1 : Int32)) (by show -2147483648 ≤ i_l0.toInt + (1 : Int); omega) (by show i_l0.toInt + (1 : Int) < 2147483648; omega)
    refine lv_iconst (v := 2) hx hb dX12_isSo_30 (by decide) ?_
    refine lv_iload_n hx hb dX12_isSo_31 rfl (lv_at hl 0 rfl) ?_
    refine lv_imul hx hb dX12_isSo_32 ?_
    refine lv_topi (fun y_4 ey_4 => ?_)
    obtain rfl : y_4 = nI (2 * i) := ey_4.trans (z_imuln 2 i rfl rfl)
    refine lv_iadd hx hb dX12_isSo_33 ?_
    refine lv_topi (fun y_5 ey_5 => ?_)
    have ey_5i : y_5.toInt = y_3.toInt + ((2 * i) : Int) := by rw [ey_5]; exact (z_iaddI (x := y_3) (y := (nI (2 * i))) (by rw [nI_toInt (n := 2 * i) (by omega)]; show -2147483648 ≤ y_3.toInt + ((2 * i) : Int); omega) (by rw [nI_toInt (n := 2 * i) (by omega)]; show y_3.toInt + ((2 * i) : Int) < 2147483648; omega)).trans (by rw [nI_toInt (n := 2 * i) (by omega)] <;> rfl)
    refine z_ild C G 1 rfl (vp_in_iff.mpr ⟨by omega, by omega⟩) dX12_isSo_34 ?_
    refine lv_topi (fun v_6 ev_6 => ?_)
    subst ev_6
    refine lv_topi (fun y_7 ey_7 => ?_)
    obtain rfl : y_7 = (zGq f_all i_l0 i) := ey_7.trans ((congrArg f_all (show y_5.toInt.toNat = i_l0.toInt.toNat + (1 + 2 * i) by omega)))
    refine lv_istore_n (lv' := [(2, .int (zGq f_all i_l0 i)), (1, .int (nI i)), (0, .ref mo)]) hx hb dX12_isSo_35 rfl hl (by decide) (zLvf_h rfl) (fun ls hl => ?_)
    refine lv_aload_n hx hb dX12_isSo_36 rfl (lv_at hl 2 rfl) ?_
    refine z_get C G clX12 0 rfl 0 (by decide) m_fl_RX12_7 rfl dX12_isSo_37 ?_
    refine lv_aload_n hx hb dX12_isSo_40 rfl (lv_at hl 2 rfl) ?_
    refine z_get C G clX12 0 rfl 35 (by decide) m_fl_RX12_360 rfl dX12_isSo_41 ?_
    refine lv_iconst (v := 2) hx hb dX12_isSo_44 (by decide) ?_
    refine lv_iadd hx hb dX12_isSo_45 ?_
    refine lv_topi (fun y_8 ey_8 => ?_)
    have ey_8i : y_8.toInt = i_l0.toInt + (2 : Int) := by rw [ey_8]; exact z_iaddI (x := i_l0) (y := (2 : Int32)) (by show -2147483648 ≤ i_l0.toInt + (2 : Int); omega) (by show i_l0.toInt + (2 : Int) < 2147483648; omega)
    refine lv_iconst (v := 2) hx hb dX12_isSo_46 (by decide) ?_
    refine lv_iload_n hx hb dX12_isSo_47 rfl (lv_at hl 1 rfl) ?_
    refine lv_imul hx hb dX12_isSo_48 ?_
    refine lv_topi (fun y_9 ey_9 => ?_)
    obtain rfl : y_9 = nI (2 * i) := ey_9.trans (z_imuln 2 i rfl rfl)
    refine lv_iadd hx hb dX12_isSo_49 ?_
    refine lv_topi (fun y_10 ey_10 => ?_)
    have ey_10i : y_10.toInt = y_8.toInt + ((2 * i) : Int) := by rw [ey_10]; exact (z_iaddI (x := y_8) (y := (nI (2 * i))) (by rw [nI_toInt (n := 2 * i) (by omega)]; show -2147483648 ≤ y_8.toInt + ((2 * i) : Int); omega) (by rw [nI_toInt (n := 2 * i) (by omega)]; show y_8.toInt + ((2 * i) : Int) < 2147483648; omega)).trans (by rw [nI_toInt (n := 2 * i) (by omega)] <;> rfl)
    refine z_ild C G 1 rfl (vp_in_iff.mpr ⟨by omega, by omega⟩) dX12_isSo_50 ?_
    refine lv_topi (fun v_11 ev_11 => ?_)
    subst ev_11
    refine lv_topi (fun y_12 ey_12 => ?_)
    obtain rfl : y_12 = (zGi f_all i_l0 i) := ey_12.trans ((congrArg f_all (show y_10.toInt.toNat = i_l0.toInt.toNat + (2 + 2 * i) by omega)))
    refine lv_istore_n (lv' := [(3, .int (zGi f_all i_l0 i)), (2, .int (zGq f_all i_l0 i)), (1, .int (nI i)), (0, .ref mo)]) hx hb dX12_isSo_51 rfl hl (by decide) (zLvf_h rfl) (fun ls hl => ?_)
    refine lv_aload_n hx hb dX12_isSo_52 rfl (lv_at hl 3 rfl) ?_
    refine lv_iload_n hx hb dX12_isSo_53 rfl (lv_at hl 1 rfl) ?_
    refine z_Vi (bc := [[zO11 mo m_all m_has i_size i_next i_where i_token i_number i_word i_wrong i_farCrossing m_read i_z0 i_crossings i_inns m_posts m_shut m_here xsteps i_done xat xgone m_was m_came m_seenAt m_rowWorth m_farBy m_used i_everywhere i_again0 i_d0 i_never i_firstCame i_longRun i_moved i_crowd i_l0 i_fitMany i_fitLeast i_fitMost m_fitPost m_fitEnd m_keptPosts i_x0]]) (br := [[zAr T 0 m_all 3952 f_all], [zAr T 0 m_posts 7 xposts], [zAr T 0 m_shut 7 f_shut], [zAr T 0 m_was 7 xwas]]) (As := [.int (zGq f_all i_l0 i)]) (rest := []) C G (c_m_isCrossing l T mo m_all m_has i_size i_next i_where i_token i_number i_word i_wrong i_farCrossing m_read i_z0 i_crossings i_inns m_posts m_shut m_here xsteps i_done xat xgone m_was m_came m_seenAt m_rowWorth m_farBy m_used i_everywhere i_again0 i_d0 i_never i_firstCame i_longRun i_moved i_crowd i_l0 i_fitMany i_fitLeast i_fitMost m_fitPost m_fitEnd m_keptPosts i_x0 (zGq f_all i_l0 i) (by first | with_reducible assumption | with_reducible rfl | omega | assumption | rfl | decide)) (kV_RX12_187 C.2.2.2.2 (Nat.le_of_ble_eq_true rfl) (Nat.le_of_ble_eq_true rfl)) [0] [0] rfl rfl (ci := 11) (qc := (RX12, TX12, 43)) rfl rfl (List.mem_flatten.mpr ⟨_, List.mem_of_getElem? (i := 0) rfl, List.mem_cons_self⟩) rfl rfl hl.1 dX12_isSo_54 (Nat.le_of_ble_eq_true rfl) (Nat.le_of_ble_eq_true rfl) (fun r_14 b1 H locs hw G => ?_)
    refine zAn2 hw ?_
    intro hbs9 hc_13
    clear hw
    subst hbs9
    have G : zS T A s.heap s [[zAr T 0 m_all 3952 f_all], [zAr T 0 m_posts 7 xposts], [zAr T 0 m_shut 7 f_shut], [zAr T 0 m_was 7 xwas], [zO11 mo m_all m_has i_size i_next i_where i_token i_number i_word i_wrong i_farCrossing m_read i_z0 i_crossings i_inns m_posts m_shut m_here xsteps i_done xat xgone m_was m_came m_seenAt m_rowWorth m_farBy m_used i_everywhere i_again0 i_d0 i_never i_firstCame i_longRun i_moved i_crowd i_l0 i_fitMany i_fitLeast i_fitMost m_fitPost m_fitEnd m_keptPosts i_x0]] _ _ := G
    rcases hc_13 with ⟨rfl, h_15, h_16⟩ | ⟨rfl, h_17⟩
    · have h_15 : 0 ≤ (zGq f_all i_l0 i).toInt := h_15
      have h_16 : (zGq f_all i_l0 i).toInt < i_crossings.toInt := h_16
      refine lv_if_ne (tgt := 62) hx hb dX12_isSo_57 (by decide) (fun _ => ?_) (fun q => absurd q (by decide))
      refine lv_aload_n hx hb dX12_isSo_62 rfl (lv_at hl 3 rfl) ?_
      refine lv_iload_n hx hb dX12_isSo_63 rfl (lv_at hl 1 rfl) ?_
      refine z_Vi (bc := [[zO11 mo m_all m_has i_size i_next i_where i_token i_number i_word i_wrong i_farCrossing m_read i_z0 i_crossings i_inns m_posts m_shut m_here xsteps i_done xat xgone m_was m_came m_seenAt m_rowWorth m_farBy m_used i_everywhere i_again0 i_d0 i_never i_firstCame i_longRun i_moved i_crowd i_l0 i_fitMany i_fitLeast i_fitMost m_fitPost m_fitEnd m_keptPosts i_x0], [zAr T 0 m_all 3952 f_all], [zAr T 0 m_posts 7 xposts], [zAr T 0 m_shut 7 f_shut], [zAr T 0 m_was 7 xwas]]) (br := []) (As := [.int (zGq f_all i_l0 i)]) (rest := []) C G (c_fm_walks l T mo m_all m_has i_size i_next i_where i_token i_number i_word i_wrong i_farCrossing m_read i_z0 i_crossings i_inns m_posts m_shut m_here xsteps i_done xat xgone m_was m_came m_seenAt m_rowWorth m_farBy m_used i_everywhere i_again0 i_d0 i_never i_firstCame i_longRun i_moved i_crowd i_l0 i_fitMany i_fitLeast i_fitMost m_fitPost m_fitEnd m_keptPosts i_x0 f_all xposts f_shut xwas (zGq f_all i_l0 i) (by first | with_reducible assumption | with_reducible rfl | omega | assumption | rfl | decide) (by first | with_reducible assumption | with_reducible rfl | omega | assumption | rfl | decide) (by first | with_reducible assumption | with_reducible rfl | omega | assumption | rfl | decide) hVq hQ) (kV_RX12_217 C.2.2.2.2 (Nat.le_of_ble_eq_true rfl) (Nat.le_of_ble_eq_true rfl)) [4, 0, 1, 2, 3] [0, 0, 0, 0, 0] rfl rfl (ci := 11) (qc := (RX12, TX12, 43)) rfl rfl (List.mem_flatten.mpr ⟨_, List.mem_of_getElem? (i := 0) rfl, List.mem_cons_self⟩) rfl rfl hl.1 dX12_isSo_64 (Nat.le_of_ble_eq_true rfl) (Nat.le_of_ble_eq_true rfl) (fun r_32 b1 H locs hw G => ?_)
      refine zEx4 hw ?_
      intro j_at_18 j_gone_19 g_posts_20 g_was_21
      refine zCu11 ?_
      intro hbs9 h_22 h_23 h_24 h_25 h_26 h_27 h_28 h_29 h_30 h_31
      clear hw
      subst hbs9
      have G : zS T A s.heap s [[zO11 mo m_all m_has i_size i_next i_where i_token i_number i_word i_wrong i_farCrossing m_read i_z0 i_crossings i_inns m_posts m_shut m_here xsteps i_done j_at_18 j_gone_19 m_was m_came m_seenAt m_rowWorth m_farBy m_used i_everywhere i_again0 i_d0 i_never i_firstCame i_longRun i_moved i_crowd i_l0 i_fitMany i_fitLeast i_fitMost m_fitPost m_fitEnd m_keptPosts i_x0], [zAr T 0 m_all 3952 f_all], [zAr T 0 m_posts 7 g_posts_20], [zAr T 0 m_shut 7 f_shut], [zAr T 0 m_was 7 g_was_21]] _ _ := G
      replace h_27 : zHd ((r_32 = 1 ∧ zBit i_inns j_at_18 = 1 ∨ r_32 = 0 ∧ ¬ zBit i_inns j_at_18 = 1)) := h_27
      have hRw := rWalkF (n := i_inns) (c := (zGq f_all i_l0 i)) (w := th) hL (show zMP xposts by first | with_reducible assumption | assumption) hS hdx (by omega) (by omega)
      have hat9 : j_at_18 = rWh (zWo f_all i_z0 i_inns) (zLo f_all i_z0) th (zGq f_all i_l0 i) := h_29.trans hRw.1
      have hgo9 : j_gone_19 = nI (rStp (zWo f_all i_z0 i_inns) (zLo f_all i_z0) th (zGq f_all i_l0 i)) := by rw [h_30, hRw.2.1]
      have hgl9 : rStp (zWo f_all i_z0 i_inns) (zLo f_all i_z0) th (zGq f_all i_l0 i) ≤ 499 := rStp_le
      have hQy := h_22
      have hVy := h_23
      have hdy : ∀ j, j < 7 → 0 < ((zWo f_all i_z0 i_inns) j).toInt → g_posts_20 j = aPo (zWo f_all i_z0 i_inns) (rAf (zWo f_all i_z0 i_inns) (zLo f_all i_z0) th (zGq f_all i_l0 i)) j := fun j hj hw => by rw [h_28]; exact hRw.2.2.1 j hj hw
      refine lv_istore (lv' := [(4, .int r_32), (3, .int (zGi f_all i_l0 i)), (2, .int (zGq f_all i_l0 i)), (1, .int (nI i)), (0, .ref mo)]) hx hb dX12_isSo_67 hl (by decide) (zLvf_h rfl) (fun ls hl => ?_)
      refine lv_iload hx hb dX12_isSo_69 (lv_at hl 0 rfl) ?_
      refine lv_if_eq (tgt := 85) hx hb dX12_isSo_71 (by decide) (fun c_33 => ?_) (fun c_33 => ?_)
      · have c_33n : r_32.toInt = (0 : Int) := (fa_eq _ _).mp c_33
        refine lv_iload_n hx hb dX12_isSo_85 rfl (lv_at hl 1 rfl) ?_
        refine lv_iconst (v := (-1)) hx hb dX12_isSo_86 (by decide) ?_
        refine lv_icmp_eq (tgt := 92) hx hb dX12_isSo_87 (by decide) (fun c_34 => ?_) (fun c_34 => ?_)
        · have c_34n : (zGi f_all i_l0 i).toInt = (-1 : Int) := (fa_eq _ _).mp c_34
          have hso9 : gSo (zWo f_all i_z0 i_inns) (zLo f_all i_z0) i_inns th (zGq f_all i_l0 i) (zGi f_all i_l0 i) = true := by unfold gSo; rw [← hat9]; rcases h_27 with ⟨e8, e9⟩ | ⟨e8, e9⟩ <;> first | (exfalso; have e7 := congrArg Int32.toInt e8; have e6 : (0 : Int32).toInt = 0 := rfl; have e5 : (1 : Int32).toInt = 1 := rfl; omega) | (rw [if_pos e9]; exact decide_eq_true (by first | with_reducible assumption | assumption)) | (rw [if_neg e9]; exact decide_eq_true (by first | with_reducible assumption | assumption))
          have hgy9 := gF_y hgf ⟨by omega, by omega⟩ hso9
          have hba9 := gF_b (cr := i_crossings) (inn := i_inns) (d1 := zGq f_all i_l0) (d2 := zGi f_all i_l0) hOk9 (by omega) hv_ (i + 1)
          rw [hgy9] at hba9
          obtain ⟨hba1, hba2⟩ := hba9
          refine lv_aload_n hx hb dX12_isSo_92 rfl (lv_at hl 4 rfl) ?_
          refine lv_dup hx hb dX12_isSo_93 rfl ?_
          refine z_get C G clX12 0 rfl 17 (by decide) m_fl_RX12_196 rfl dX12_isSo_94 ?_
          refine lv_aload_n hx hb dX12_isSo_97 rfl (lv_at hl 4 rfl) ?_
          refine z_get C G clX12 0 rfl 20 (by decide) m_fl_RX12_208 rfl dX12_isSo_98 ?_
          refine lv_iadd hx hb dX12_isSo_101 ?_
          refine lv_topi (fun y_35 ey_35 => ?_)
          obtain rfl : y_35 = nI (st + rStp (zWo f_all i_z0 i_inns) (zLo f_all i_z0) th (zGq f_all i_l0 i)) := ey_35.trans ((by rw [hst, hgo9, nI_add]))
          refine z_put C G clX12 0 rfl 17 (by decide) m_fl_RX12_196 rfl rfl rfl (Nat.le_of_ble_eq_true rfl) dX12_isSo_102 (fun H locs G => ?_)
          have G : zS T A s.heap s [[zO11 mo m_all m_has i_size i_next i_where i_token i_number i_word i_wrong i_farCrossing m_read i_z0 i_crossings i_inns m_posts m_shut m_here (nI (st + rStp (zWo f_all i_z0 i_inns) (zLo f_all i_z0) th (zGq f_all i_l0 i))) i_done j_at_18 j_gone_19 m_was m_came m_seenAt m_rowWorth m_farBy m_used i_everywhere i_again0 i_d0 i_never i_firstCame i_longRun i_moved i_crowd i_l0 i_fitMany i_fitLeast i_fitMost m_fitPost m_fitEnd m_keptPosts i_x0], [zAr T 0 m_all 3952 f_all], [zAr T 0 m_posts 7 g_posts_20], [zAr T 0 m_shut 7 f_shut], [zAr T 0 m_was 7 g_was_21]] _ _ := G
          refine lv_iinc (v := nI (i + 1)) (lv' := [(1, .int (nI (i + 1))), (4, .int r_32), (3, .int (zGi f_all i_l0 i)), (2, .int (zGq f_all i_l0 i)), (0, .ref mo)]) hx hb dX12_isSo_105 hl (k := 3) rfl (z_inc i 1) (by decide) (zLvf_h rfl) (fun ls hl => ?_)
          refine lv_goto (tgt := 7) hx hb dX12_isSo_108 (by decide) ?_
          exact ih_7 (i + 1) (rAf (zWo f_all i_z0 i_inns) (zLo f_all i_z0) th (zGq f_all i_l0 i)) (st + rStp (zWo f_all i_z0 i_inns) (zLo f_all i_z0) th (zGq f_all i_l0 i)) (nI (st + rStp (zWo f_all i_z0 i_inns) (zLo f_all i_z0) th (zGq f_all i_l0 i))) j_at_18 j_gone_19 g_posts_20 g_was_21 (show (i + 1) ≤ 8 ∧ ((i + 1) : Int) ≤ (f_all i_l0.toInt.toNat).toInt ∧ zMP g_posts_20 ∧ zMV (zRo f_all i_z0) g_posts_20 ∧ gF (zWo f_all i_z0 i_inns) (zLo f_all i_z0) i_crossings i_inns (zGq f_all i_l0) (zGi f_all i_l0) v_ (i + 1) = (true, (rAf (zWo f_all i_z0 i_inns) (zLo f_all i_z0) th (zGq f_all i_l0 i)), (st + rStp (zWo f_all i_z0 i_inns) (zLo f_all i_z0) th (zGq f_all i_l0 i))) ∧ (nI (st + rStp (zWo f_all i_z0 i_inns) (zLo f_all i_z0) th (zGq f_all i_l0 i))) = nI (st + rStp (zWo f_all i_z0 i_inns) (zLo f_all i_z0) th (zGq f_all i_l0 i)) ∧ (st + rStp (zWo f_all i_z0 i_inns) (zLo f_all i_z0) th (zGq f_all i_l0 i)) ≤ 499 * (i + 1) ∧ (∀ j, j < 7 → 0 < ((zWo f_all i_z0 i_inns) j).toInt → g_posts_20 j = aPo (zWo f_all i_z0 i_inns) (rAf (zWo f_all i_z0 i_inns) (zLo f_all i_z0) th (zGq f_all i_l0 i)) j) ∧ (rAf (zWo f_all i_z0 i_inns) (zLo f_all i_z0) th (zGq f_all i_l0 i)) < aPr (zWo f_all i_z0 i_inns) 7 from ⟨by omega, by omega, hQy, hVy, hgy9, rfl, hba2, hdy, hba1⟩) (show 8 - (i + 1) < 8 - i from by omega) _ _ ls G (lv_sub hl [0, 4] rfl)
        · have c_34n : ¬ (zGi f_all i_l0 i).toInt = (-1 : Int) := fun q => c_34 ((fa_eq _ _).mpr q)
          have hso9 : ¬ gSo (zWo f_all i_z0 i_inns) (zLo f_all i_z0) i_inns th (zGq f_all i_l0 i) (zGi f_all i_l0 i) = true := by unfold gSo; rw [← hat9]; rcases h_27 with ⟨e8, e9⟩ | ⟨e8, e9⟩ <;> first | (exfalso; have e7 := congrArg Int32.toInt e8; have e6 : (0 : Int32).toInt = 0 := rfl; have e5 : (1 : Int32).toInt = 1 := rfl; omega) | (rw [if_pos e9]; exact fun q9 => absurd (of_decide_eq_true q9) (by first | with_reducible assumption | assumption)) | (rw [if_neg e9]; exact fun q9 => absurd (of_decide_eq_true q9) (by first | with_reducible assumption | assumption))
          refine lv_iconst (v := 0) hx hb dX12_isSo_90 (by decide) ?_
          exact z_back hQz_ (z_zret C hr hlocks G (Nat.le_of_ble_eq_true rfl) (Nat.le_of_ble_eq_true rfl) dX12_isSo_91 rfl ⟨xsteps, j_at_18, j_gone_19, g_posts_20, g_was_21, th, st, rfl, hQy, hVy, (Or.inr (⟨rfl, (gF_g (gF_n hgf (fun q9 => hso9 q9.2)) (by omega))⟩))⟩)
      · have c_33n : ¬ r_32.toInt = (0 : Int) := fun q => c_33 ((fa_eq _ _).mpr q)
        refine lv_aload_n hx hb dX12_isSo_74 rfl (lv_at hl 4 rfl) ?_
        refine z_get C G clX12 0 rfl 19 (by decide) m_fl_RX12_202 rfl dX12_isSo_75 ?_
        refine lv_iload_n hx hb dX12_isSo_78 rfl (lv_at hl 1 rfl) ?_
        refine lv_icmp_eq (tgt := 92) hx hb dX12_isSo_79 (by decide) (fun c_36 => ?_) (fun c_36 => ?_)
        · have c_36n : j_at_18.toInt = (zGi f_all i_l0 i).toInt := (fa_eq _ _).mp c_36
          have hso9 : gSo (zWo f_all i_z0 i_inns) (zLo f_all i_z0) i_inns th (zGq f_all i_l0 i) (zGi f_all i_l0 i) = true := by unfold gSo; rw [← hat9]; rcases h_27 with ⟨e8, e9⟩ | ⟨e8, e9⟩ <;> first | (exfalso; have e7 := congrArg Int32.toInt e8; have e6 : (0 : Int32).toInt = 0 := rfl; have e5 : (1 : Int32).toInt = 1 := rfl; omega) | (rw [if_pos e9]; exact decide_eq_true (by first | with_reducible assumption | assumption)) | (rw [if_neg e9]; exact decide_eq_true (by first | with_reducible assumption | assumption))
          have hgy9 := gF_y hgf ⟨by omega, by omega⟩ hso9
          have hba9 := gF_b (cr := i_crossings) (inn := i_inns) (d1 := zGq f_all i_l0) (d2 := zGi f_all i_l0) hOk9 (by omega) hv_ (i + 1)
          rw [hgy9] at hba9
          obtain ⟨hba1, hba2⟩ := hba9
          refine lv_aload_n hx hb dX12_isSo_92 rfl (lv_at hl 4 rfl) ?_
          refine lv_dup hx hb dX12_isSo_93 rfl ?_
          refine z_get C G clX12 0 rfl 17 (by decide) m_fl_RX12_196 rfl dX12_isSo_94 ?_
          refine lv_aload_n hx hb dX12_isSo_97 rfl (lv_at hl 4 rfl) ?_
          refine z_get C G clX12 0 rfl 20 (by decide) m_fl_RX12_208 rfl dX12_isSo_98 ?_
          refine lv_iadd hx hb dX12_isSo_101 ?_
          refine lv_topi (fun y_37 ey_37 => ?_)
          obtain rfl : y_37 = nI (st + rStp (zWo f_all i_z0 i_inns) (zLo f_all i_z0) th (zGq f_all i_l0 i)) := ey_37.trans ((by rw [hst, hgo9, nI_add]))
          refine z_put C G clX12 0 rfl 17 (by decide) m_fl_RX12_196 rfl rfl rfl (Nat.le_of_ble_eq_true rfl) dX12_isSo_102 (fun H locs G => ?_)
          have G : zS T A s.heap s [[zO11 mo m_all m_has i_size i_next i_where i_token i_number i_word i_wrong i_farCrossing m_read i_z0 i_crossings i_inns m_posts m_shut m_here (nI (st + rStp (zWo f_all i_z0 i_inns) (zLo f_all i_z0) th (zGq f_all i_l0 i))) i_done j_at_18 j_gone_19 m_was m_came m_seenAt m_rowWorth m_farBy m_used i_everywhere i_again0 i_d0 i_never i_firstCame i_longRun i_moved i_crowd i_l0 i_fitMany i_fitLeast i_fitMost m_fitPost m_fitEnd m_keptPosts i_x0], [zAr T 0 m_all 3952 f_all], [zAr T 0 m_posts 7 g_posts_20], [zAr T 0 m_shut 7 f_shut], [zAr T 0 m_was 7 g_was_21]] _ _ := G
          refine lv_iinc (v := nI (i + 1)) (lv' := [(1, .int (nI (i + 1))), (4, .int r_32), (3, .int (zGi f_all i_l0 i)), (2, .int (zGq f_all i_l0 i)), (0, .ref mo)]) hx hb dX12_isSo_105 hl (k := 3) rfl (z_inc i 1) (by decide) (zLvf_h rfl) (fun ls hl => ?_)
          refine lv_goto (tgt := 7) hx hb dX12_isSo_108 (by decide) ?_
          exact ih_7 (i + 1) (rAf (zWo f_all i_z0 i_inns) (zLo f_all i_z0) th (zGq f_all i_l0 i)) (st + rStp (zWo f_all i_z0 i_inns) (zLo f_all i_z0) th (zGq f_all i_l0 i)) (nI (st + rStp (zWo f_all i_z0 i_inns) (zLo f_all i_z0) th (zGq f_all i_l0 i))) j_at_18 j_gone_19 g_posts_20 g_was_21 (show (i + 1) ≤ 8 ∧ ((i + 1) : Int) ≤ (f_all i_l0.toInt.toNat).toInt ∧ zMP g_posts_20 ∧ zMV (zRo f_all i_z0) g_posts_20 ∧ gF (zWo f_all i_z0 i_inns) (zLo f_all i_z0) i_crossings i_inns (zGq f_all i_l0) (zGi f_all i_l0) v_ (i + 1) = (true, (rAf (zWo f_all i_z0 i_inns) (zLo f_all i_z0) th (zGq f_all i_l0 i)), (st + rStp (zWo f_all i_z0 i_inns) (zLo f_all i_z0) th (zGq f_all i_l0 i))) ∧ (nI (st + rStp (zWo f_all i_z0 i_inns) (zLo f_all i_z0) th (zGq f_all i_l0 i))) = nI (st + rStp (zWo f_all i_z0 i_inns) (zLo f_all i_z0) th (zGq f_all i_l0 i)) ∧ (st + rStp (zWo f_all i_z0 i_inns) (zLo f_all i_z0) th (zGq f_all i_l0 i)) ≤ 499 * (i + 1) ∧ (∀ j, j < 7 → 0 < ((zWo f_all i_z0 i_inns) j).toInt → g_posts_20 j = aPo (zWo f_all i_z0 i_inns) (rAf (zWo f_all i_z0 i_inns) (zLo f_all i_z0) th (zGq f_all i_l0 i)) j) ∧ (rAf (zWo f_all i_z0 i_inns) (zLo f_all i_z0) th (zGq f_all i_l0 i)) < aPr (zWo f_all i_z0 i_inns) 7 from ⟨by omega, by omega, hQy, hVy, hgy9, rfl, hba2, hdy, hba1⟩) (show 8 - (i + 1) < 8 - i from by omega) _ _ ls G (lv_sub hl [0, 4] rfl)
        · have c_36n : ¬ j_at_18.toInt = (zGi f_all i_l0 i).toInt := fun q => c_36 ((fa_eq _ _).mpr q)
          refine lv_goto (tgt := 90) hx hb dX12_isSo_82 (by decide) ?_
          have hso9 : ¬ gSo (zWo f_all i_z0 i_inns) (zLo f_all i_z0) i_inns th (zGq f_all i_l0 i) (zGi f_all i_l0 i) = true := by unfold gSo; rw [← hat9]; rcases h_27 with ⟨e8, e9⟩ | ⟨e8, e9⟩ <;> first | (exfalso; have e7 := congrArg Int32.toInt e8; have e6 : (0 : Int32).toInt = 0 := rfl; have e5 : (1 : Int32).toInt = 1 := rfl; omega) | (rw [if_pos e9]; exact fun q9 => absurd (of_decide_eq_true q9) (by first | with_reducible assumption | assumption)) | (rw [if_neg e9]; exact fun q9 => absurd (of_decide_eq_true q9) (by first | with_reducible assumption | assumption))
          refine lv_iconst (v := 0) hx hb dX12_isSo_90 (by decide) ?_
          exact z_back hQz_ (z_zret C hr hlocks G (Nat.le_of_ble_eq_true rfl) (Nat.le_of_ble_eq_true rfl) dX12_isSo_91 rfl ⟨xsteps, j_at_18, j_gone_19, g_posts_20, g_was_21, th, st, rfl, hQy, hVy, (Or.inr (⟨rfl, (gF_g (gF_n hgf (fun q9 => hso9 q9.2)) (by omega))⟩))⟩)
    · have h_17 : ((zGq f_all i_l0 i).toInt < 0 ∨ i_crossings.toInt ≤ (zGq f_all i_l0 i).toInt) := h_17
      refine lv_if_ne (tgt := 62) hx hb dX12_isSo_57 (by decide) (fun q => absurd (by decide) q) (fun _ => ?_)
      refine lv_iconst (v := 0) hx hb dX12_isSo_60 (by decide) ?_
      have G := G.sub (bs' := [[zO11 mo m_all m_has i_size i_next i_where i_token i_number i_word i_wrong i_farCrossing m_read i_z0 i_crossings i_inns m_posts m_shut m_here xsteps i_done xat xgone m_was m_came m_seenAt m_rowWorth m_farBy m_used i_everywhere i_again0 i_d0 i_never i_firstCame i_longRun i_moved i_crowd i_l0 i_fitMany i_fitLeast i_fitMost m_fitPost m_fitEnd m_keptPosts i_x0], [zAr T 0 m_all 3952 f_all], [zAr T 0 m_posts 7 xposts], [zAr T 0 m_shut 7 f_shut], [zAr T 0 m_was 7 xwas]]) [4, 0, 1, 2, 3] rfl
      exact z_back hQz_ (z_zret C hr hlocks G (Nat.le_of_ble_eq_true rfl) (Nat.le_of_ble_eq_true rfl) dX12_isSo_61 rfl ⟨xsteps, xat, xgone, xposts, xwas, th, st, rfl, hQ, hVq, (Or.inr (⟨rfl, (gF_g (gF_n hgf (fun q9 => by have q8 := q9.1; omega)) (by omega))⟩))⟩)
set_option maxHeartbeats 4000000 in
set_option maxRecDepth 100000 in
/-- c_fm_laysNoFits -/
theorem c_fm_laysNoFits (l : Launch) (T : zTy) (mo : Nat) (m_all : Nat) (m_has : Nat) (i_size : Int32) (i_next : Int32) (i_where : Int32) (i_token : Int32) (i_number : Int32) (i_word : Int32) (i_wrong : Int32) (i_farCrossing : Int32) (m_read : Nat) (i_z0 : Int32) (i_crossings : Int32) (i_inns : Int32) (m_posts : Nat) (m_shut : Nat) (m_here : Nat) (i_steps : Int32) (i_done : Int32) (i_at : Int32) (i_gone : Int32) (m_was : Nat) (m_came : Nat) (m_seenAt : Nat) (m_rowWorth : Nat) (m_farBy : Nat) (m_used : Nat) (i_everywhere : Int32) (i_again0 : Int32) (i_d0 : Int32) (i_never : Int32) (i_firstCame : Int32) (i_longRun : Int32) (i_moved : Int32) (i_crowd : Int32) (i_l0 : Int32) (i_fitMany : Int32) (i_fitLeast : Int32) (i_fitMost : Int32) (m_fitPost : Nat) (m_fitEnd : Nat) (m_keptPosts : Nat) (i_x0 : Int32) (f_fitPost : Nat → Int32) (f_fitEnd : Nat → Int32) : zMv l T yX12_laysNoFits cX12_laysNoFits 2 1 0 0 [.ref mo] [[zO11 mo m_all m_has i_size i_next i_where i_token i_number i_word i_wrong i_farCrossing m_read i_z0 i_crossings i_inns m_posts m_shut m_here i_steps i_done i_at i_gone m_was m_came m_seenAt m_rowWorth m_farBy m_used i_everywhere i_again0 i_d0 i_never i_firstCame i_longRun i_moved i_crowd i_l0 i_fitMany i_fitLeast i_fitMost m_fitPost m_fitEnd m_keptPosts i_x0], [zAr T 0 m_fitPost 28 f_fitPost], [zAr T 0 m_fitEnd 49 f_fitEnd]] (fun bs => ∃ (g_fitPost : Nat → Int32) (g_fitEnd : Nat → Int32), bs = [[zO11 mo m_all m_has i_size i_next i_where i_token i_number i_word i_wrong i_farCrossing m_read i_z0 i_crossings i_inns m_posts m_shut m_here i_steps i_done i_at i_gone m_was m_came m_seenAt m_rowWorth m_farBy m_used i_everywhere i_again0 i_d0 i_never i_firstCame i_longRun i_moved i_crowd i_l0 0 (-1) (-1) m_fitPost m_fitEnd m_keptPosts i_x0], [zAr T 0 m_fitPost 28 g_fitPost], [zAr T 0 m_fitEnd 49 g_fitEnd]] ∧ (∀ j, j < 28 → g_fitPost j = 0) ∧ (∀ j, j < 49 → g_fitEnd j = 0)) := by
  refine zMv_of (own := RX12) (by decide) rfl (Nat.le_of_ble_eq_true rfl) ?_
  intro p e s m args below meth c A ls C hr hlocks hnm hAe G hl
  refine zHide (fun Qz_ hQz_ => ?_)
  have hx := C.1
  have hb := C.2.1
  have hl : lv_has ls 2 [(0, .ref mo)] := hl
  refine lv_aload_n hx hb dX12_laysNoFits_0 rfl (lv_at hl 0 rfl) ?_
  refine lv_iconst (v := 0) hx hb dX12_laysNoFits_1 (by decide) ?_
  refine z_put C G clX12 0 rfl 36 (by decide) m_fl_RX12_366 rfl rfl rfl (Nat.le_of_ble_eq_true rfl) dX12_laysNoFits_2 (fun H locs G => ?_)
  have G : zS T A s.heap s [[zO11 mo m_all m_has i_size i_next i_where i_token i_number i_word i_wrong i_farCrossing m_read i_z0 i_crossings i_inns m_posts m_shut m_here i_steps i_done i_at i_gone m_was m_came m_seenAt m_rowWorth m_farBy m_used i_everywhere i_again0 i_d0 i_never i_firstCame i_longRun i_moved i_crowd i_l0 0 i_fitLeast i_fitMost m_fitPost m_fitEnd m_keptPosts i_x0], [zAr T 0 m_fitPost 28 f_fitPost], [zAr T 0 m_fitEnd 49 f_fitEnd]] _ _ := G
  refine lv_aload_n hx hb dX12_laysNoFits_5 rfl (lv_at hl 0 rfl) ?_
  refine lv_iconst (v := (-1)) hx hb dX12_laysNoFits_6 (by decide) ?_
  refine z_put C G clX12 0 rfl 37 (by decide) m_fl_RX12_369 rfl rfl rfl (Nat.le_of_ble_eq_true rfl) dX12_laysNoFits_7 (fun H locs G => ?_)
  have G : zS T A s.heap s [[zO11 mo m_all m_has i_size i_next i_where i_token i_number i_word i_wrong i_farCrossing m_read i_z0 i_crossings i_inns m_posts m_shut m_here i_steps i_done i_at i_gone m_was m_came m_seenAt m_rowWorth m_farBy m_used i_everywhere i_again0 i_d0 i_never i_firstCame i_longRun i_moved i_crowd i_l0 0 (-1) i_fitMost m_fitPost m_fitEnd m_keptPosts i_x0], [zAr T 0 m_fitPost 28 f_fitPost], [zAr T 0 m_fitEnd 49 f_fitEnd]] _ _ := G
  refine lv_aload_n hx hb dX12_laysNoFits_10 rfl (lv_at hl 0 rfl) ?_
  refine lv_iconst (v := (-1)) hx hb dX12_laysNoFits_11 (by decide) ?_
  refine z_put C G clX12 0 rfl 38 (by decide) m_fl_RX12_372 rfl rfl rfl (Nat.le_of_ble_eq_true rfl) dX12_laysNoFits_12 (fun H locs G => ?_)
  have G : zS T A s.heap s [[zO11 mo m_all m_has i_size i_next i_where i_token i_number i_word i_wrong i_farCrossing m_read i_z0 i_crossings i_inns m_posts m_shut m_here i_steps i_done i_at i_gone m_was m_came m_seenAt m_rowWorth m_farBy m_used i_everywhere i_again0 i_d0 i_never i_firstCame i_longRun i_moved i_crowd i_l0 0 (-1) (-1) m_fitPost m_fitEnd m_keptPosts i_x0], [zAr T 0 m_fitPost 28 f_fitPost], [zAr T 0 m_fitEnd 49 f_fitEnd]] _ _ := G
  refine lv_iconst (v := 0) hx hb dX12_laysNoFits_15 (by decide) ?_
  refine lv_istore_n (lv' := [(1, .int 0), (0, .ref mo)]) hx hb dX12_laysNoFits_16 rfl hl (by decide) (zLvf_h rfl) (fun ls hl => ?_)
  refine z_lp2 (T := T) 17 (fun (i : Nat) (xfitPost : Nat → Int32) => [[zO11 mo m_all m_has i_size i_next i_where i_token i_number i_word i_wrong i_farCrossing m_read i_z0 i_crossings i_inns m_posts m_shut m_here i_steps i_done i_at i_gone m_was m_came m_seenAt m_rowWorth m_farBy m_used i_everywhere i_again0 i_d0 i_never i_firstCame i_longRun i_moved i_crowd i_l0 0 (-1) (-1) m_fitPost m_fitEnd m_keptPosts i_x0], [zAr T 0 m_fitPost 28 xfitPost], [zAr T 0 m_fitEnd 49 f_fitEnd]]) (fun (i : Nat) (xfitPost : Nat → Int32) => [(1, .int (nI i)), (0, .ref mo)]) (fun (i : Nat) (xfitPost : Nat → Int32) => i ≤ 28 ∧ (∀ j, j < i → xfitPost j = 0)) (fun (i : Nat) (xfitPost : Nat → Int32) => 28 - i) ?_ 0 f_fitPost (show 0 ≤ 28 ∧ (∀ j, j < 0 → f_fitPost j = 0) from ⟨by omega, (fun j hj => absurd hj (by omega))⟩) G (lv_sub hl [0, 1] rfl)
  intro i xfitPost hI9 ih_17 H locs ls G hl
  replace hI9 : i ≤ 28 ∧ (∀ j, j < i → xfitPost j = 0) := hI9
  refine zAn2 hI9 ?_
  intro hi h0p
  clear hI9
  replace G : zS T A s.heap s [[zO11 mo m_all m_has i_size i_next i_where i_token i_number i_word i_wrong i_farCrossing m_read i_z0 i_crossings i_inns m_posts m_shut m_here i_steps i_done i_at i_gone m_was m_came m_seenAt m_rowWorth m_farBy m_used i_everywhere i_again0 i_d0 i_never i_firstCame i_longRun i_moved i_crowd i_l0 0 (-1) (-1) m_fitPost m_fitEnd m_keptPosts i_x0], [zAr T 0 m_fitPost 28 xfitPost], [zAr T 0 m_fitEnd 49 f_fitEnd]] _ _ := G
  replace hl : lv_has ls 2 [(1, .int (nI i)), (0, .ref mo)] := hl
  refine lv_iload_n hx hb dX12_laysNoFits_17 rfl (lv_at hl 0 rfl) ?_
  refine lv_bipush (v := 28) hx hb dX12_laysNoFits_18 (by decide) ?_
  refine lv_icmp_ge (tgt := 36) hx hb dX12_laysNoFits_20 (by decide) (fun c_1 => ?_) (fun c_1 => ?_)
  · have c_1n : 28 ≤ i := (nI_leI (a := 28) (b := i) (by omega) (by omega)).mp c_1
    refine lv_iconst (v := 0) hx hb dX12_laysNoFits_36 (by decide) ?_
    refine lv_istore_n (lv' := [(1, .int 0), (0, .ref mo)]) hx hb dX12_laysNoFits_37 rfl hl (by decide) (zLvf_h rfl) (fun ls hl => ?_)
    refine z_lp2 (T := T) 38 (fun (i : Nat) (xfitEnd : Nat → Int32) => [[zO11 mo m_all m_has i_size i_next i_where i_token i_number i_word i_wrong i_farCrossing m_read i_z0 i_crossings i_inns m_posts m_shut m_here i_steps i_done i_at i_gone m_was m_came m_seenAt m_rowWorth m_farBy m_used i_everywhere i_again0 i_d0 i_never i_firstCame i_longRun i_moved i_crowd i_l0 0 (-1) (-1) m_fitPost m_fitEnd m_keptPosts i_x0], [zAr T 0 m_fitPost 28 xfitPost], [zAr T 0 m_fitEnd 49 xfitEnd]]) (fun (i : Nat) (xfitEnd : Nat → Int32) => [(1, .int (nI i)), (0, .ref mo)]) (fun (i : Nat) (xfitEnd : Nat → Int32) => i ≤ 49 ∧ (∀ j, j < i → xfitEnd j = 0)) (fun (i : Nat) (xfitEnd : Nat → Int32) => 49 - i) ?_ 0 f_fitEnd (show 0 ≤ 49 ∧ (∀ j, j < 0 → f_fitEnd j = 0) from ⟨by omega, (fun j hj => absurd hj (by omega))⟩) G (lv_sub hl [0, 1] rfl)
    intro i xfitEnd hI9 ih_38 H locs ls G hl
    replace hI9 : i ≤ 49 ∧ (∀ j, j < i → xfitEnd j = 0) := hI9
    refine zAn2 hI9 ?_
    intro hi h0e
    clear hI9
    replace G : zS T A s.heap s [[zO11 mo m_all m_has i_size i_next i_where i_token i_number i_word i_wrong i_farCrossing m_read i_z0 i_crossings i_inns m_posts m_shut m_here i_steps i_done i_at i_gone m_was m_came m_seenAt m_rowWorth m_farBy m_used i_everywhere i_again0 i_d0 i_never i_firstCame i_longRun i_moved i_crowd i_l0 0 (-1) (-1) m_fitPost m_fitEnd m_keptPosts i_x0], [zAr T 0 m_fitPost 28 xfitPost], [zAr T 0 m_fitEnd 49 xfitEnd]] _ _ := G
    replace hl : lv_has ls 2 [(1, .int (nI i)), (0, .ref mo)] := hl
    refine lv_iload_n hx hb dX12_laysNoFits_38 rfl (lv_at hl 0 rfl) ?_
    refine lv_bipush (v := 49) hx hb dX12_laysNoFits_39 (by decide) ?_
    refine lv_icmp_ge (tgt := 57) hx hb dX12_laysNoFits_41 (by decide) (fun c_2 => ?_) (fun c_2 => ?_)
    · have c_2n : 49 ≤ i := (nI_leI (a := 49) (b := i) (by omega) (by omega)).mp c_2
      exact z_back hQz_ (z_vret C hr hlocks G (Nat.le_of_ble_eq_true rfl) (Nat.le_of_ble_eq_true rfl) dX12_laysNoFits_57 ⟨xfitPost, xfitEnd, rfl, (fun j hj => h0p j (by omega)), (fun j hj => h0e j (by omega))⟩)
    · have c_2n : ¬ 49 ≤ i := fun q => c_2 ((nI_leI (a := 49) (b := i) (by omega) (by omega)).mpr q)
      refine lv_aload_n hx hb dX12_laysNoFits_44 rfl (lv_at hl 1 rfl) ?_
      refine z_get C G clX12 0 rfl 40 (by decide) m_fl_RX12_50 rfl dX12_laysNoFits_45 ?_
      refine lv_iload_n hx hb dX12_laysNoFits_48 rfl (lv_at hl 0 rfl) ?_
      refine lv_iconst (v := 0) hx hb dX12_laysNoFits_49 (by decide) ?_
      refine z_ist C G 2 rfl (vp_in_nI (by omega) (by decide)) dX12_laysNoFits_50 (fun H locs G => ?_)
      rw [nI_clamp (by omega)] at G
      have G : zS T A s.heap s [[zO11 mo m_all m_has i_size i_next i_where i_token i_number i_word i_wrong i_farCrossing m_read i_z0 i_crossings i_inns m_posts m_shut m_here i_steps i_done i_at i_gone m_was m_came m_seenAt m_rowWorth m_farBy m_used i_everywhere i_again0 i_d0 i_never i_firstCame i_longRun i_moved i_crowd i_l0 0 (-1) (-1) m_fitPost m_fitEnd m_keptPosts i_x0], [zAr T 0 m_fitPost 28 xfitPost], [zAr T 0 m_fitEnd 49 (upd xfitEnd i 0)]] _ _ := G
      refine lv_iinc (v := nI (i + 1)) (lv' := [(1, .int (nI (i + 1))), (0, .ref mo)]) hx hb dX12_laysNoFits_51 hl (k := 0) rfl (z_inc i 1) (by decide) (zLvf_h rfl) (fun ls hl => ?_)
      refine lv_goto (tgt := 38) hx hb dX12_laysNoFits_54 (by decide) ?_
      exact ih_38 (i + 1) (upd xfitEnd i 0) (show (i + 1) ≤ 49 ∧ (∀ j, j < (i + 1) → (upd xfitEnd i 0) j = 0) from ⟨by omega, z_upS0 (f := fun _ => 0) h0e rfl⟩) (show 49 - (i + 1) < 49 - i from by omega) _ _ ls G (lv_sub hl [0, 1] rfl)
  · have c_1n : ¬ 28 ≤ i := fun q => c_1 ((nI_leI (a := 28) (b := i) (by omega) (by omega)).mpr q)
    refine lv_aload_n hx hb dX12_laysNoFits_23 rfl (lv_at hl 1 rfl) ?_
    refine z_get C G clX12 0 rfl 39 (by decide) m_fl_RX12_47 rfl dX12_laysNoFits_24 ?_
    refine lv_iload_n hx hb dX12_laysNoFits_27 rfl (lv_at hl 0 rfl) ?_
    refine lv_iconst (v := 0) hx hb dX12_laysNoFits_28 (by decide) ?_
    refine z_ist C G 1 rfl (vp_in_nI (by omega) (by decide)) dX12_laysNoFits_29 (fun H locs G => ?_)
    rw [nI_clamp (by omega)] at G
    have G : zS T A s.heap s [[zO11 mo m_all m_has i_size i_next i_where i_token i_number i_word i_wrong i_farCrossing m_read i_z0 i_crossings i_inns m_posts m_shut m_here i_steps i_done i_at i_gone m_was m_came m_seenAt m_rowWorth m_farBy m_used i_everywhere i_again0 i_d0 i_never i_firstCame i_longRun i_moved i_crowd i_l0 0 (-1) (-1) m_fitPost m_fitEnd m_keptPosts i_x0], [zAr T 0 m_fitPost 28 (upd xfitPost i 0)], [zAr T 0 m_fitEnd 49 f_fitEnd]] _ _ := G
    refine lv_iinc (v := nI (i + 1)) (lv' := [(1, .int (nI (i + 1))), (0, .ref mo)]) hx hb dX12_laysNoFits_30 hl (k := 0) rfl (z_inc i 1) (by decide) (zLvf_h rfl) (fun ls hl => ?_)
    refine lv_goto (tgt := 17) hx hb dX12_laysNoFits_33 (by decide) ?_
    exact ih_17 (i + 1) (upd xfitPost i 0) (show (i + 1) ≤ 28 ∧ (∀ j, j < (i + 1) → (upd xfitPost i 0) j = 0) from ⟨by omega, z_upS0 (f := fun _ => 0) h0p rfl⟩) (show 28 - (i + 1) < 28 - i from by omega) _ _ ls G (lv_sub hl [0, 1] rfl)
set_option maxHeartbeats 4000000 in
set_option maxRecDepth 100000 in
/-- c_fm_numberOfV -/
theorem c_fm_numberOfV (l : Launch) (T : zTy) (mo : Nat) (m_all : Nat) (m_has : Nat) (i_size : Int32) (i_next : Int32) (i_where : Int32) (i_token : Int32) (i_number : Int32) (i_word : Int32) (i_wrong : Int32) (i_farCrossing : Int32) (m_read : Nat) (i_z0 : Int32) (i_crossings : Int32) (i_inns : Int32) (m_posts : Nat) (m_shut : Nat) (m_here : Nat) (i_steps : Int32) (i_done : Int32) (i_at : Int32) (i_gone : Int32) (m_was : Nat) (m_came : Nat) (m_seenAt : Nat) (m_rowWorth : Nat) (m_farBy : Nat) (m_used : Nat) (i_everywhere : Int32) (i_again0 : Int32) (i_d0 : Int32) (i_never : Int32) (i_firstCame : Int32) (i_longRun : Int32) (i_moved : Int32) (i_crowd : Int32) (i_l0 : Int32) (i_fitMany : Int32) (i_fitLeast : Int32) (i_fitMost : Int32) (m_fitPost : Nat) (m_fitEnd : Nat) (m_keptPosts : Nat) (i_x0 : Int32) (f_all : Nat → Int32) (f_posts : Nat → Int32) (w_ : Int32) (hL : zML f_all i_z0 i_crossings) (hP : zMP f_posts) (hw0 : 0 ≤ w_.toInt) (hZ : zVZ f_all i_z0 i_crossings) : zMi l T yX12_numberOf cX12_numberOf 4 (some .int) 4 0 0 [.ref mo, .int w_] [[zO11 mo m_all m_has i_size i_next i_where i_token i_number i_word i_wrong i_farCrossing m_read i_z0 i_crossings i_inns m_posts m_shut m_here i_steps i_done i_at i_gone m_was m_came m_seenAt m_rowWorth m_farBy m_used i_everywhere i_again0 i_d0 i_never i_firstCame i_longRun i_moved i_crowd i_l0 i_fitMany i_fitLeast i_fitMost m_fitPost m_fitEnd m_keptPosts i_x0], [zAr T 0 m_all 3952 f_all], [zAr T 0 m_posts 7 f_posts]] (fun (r : Int32) bs => ∃ (g_posts : Nat → Int32), bs = [[zO11 mo m_all m_has i_size i_next i_where i_token i_number i_word i_wrong i_farCrossing m_read i_z0 i_crossings i_inns m_posts m_shut m_here i_steps i_done i_at i_gone m_was m_came m_seenAt m_rowWorth m_farBy m_used i_everywhere i_again0 i_d0 i_never i_firstCame i_longRun i_moved i_crowd i_l0 i_fitMany i_fitLeast i_fitMost m_fitPost m_fitEnd m_keptPosts i_x0], [zAr T 0 m_all 3952 f_all], [zAr T 0 m_posts 7 g_posts]] ∧ zMP g_posts ∧ r = aNu (zWo f_all i_z0 i_inns) w_.toInt.toNat i_crossings.toInt.toNat ∧ zMV (zRo f_all i_z0) g_posts) := by
  refine zMi_of (own := RX12) (by decide) rfl (Nat.le_of_ble_eq_true rfl) ?_
  intro p e s m args below meth c A ls C hr hlocks hnm hAe G hl
  refine zHide (fun Qz_ hQz_ => ?_)
  have hx := C.1
  have hb := C.2.1
  have hl : lv_has ls 4 [(0, .ref mo), (1, .int w_)] := hl
  have hz := hL.1
  have hcr := hL.cr
  refine lv_aload_n hx hb dX12_numberOf_0 rfl (lv_at hl 0 rfl) ?_
  refine lv_iload_n hx hb dX12_numberOf_1 rfl (lv_at hl 1 rfl) ?_
  refine z_Vv (bc := [[zO11 mo m_all m_has i_size i_next i_where i_token i_number i_word i_wrong i_farCrossing m_read i_z0 i_crossings i_inns m_posts m_shut m_here i_steps i_done i_at i_gone m_was m_came m_seenAt m_rowWorth m_farBy m_used i_everywhere i_again0 i_d0 i_never i_firstCame i_longRun i_moved i_crowd i_l0 i_fitMany i_fitLeast i_fitMost m_fitPost m_fitEnd m_keptPosts i_x0], [zAr T 0 m_all 3952 f_all], [zAr T 0 m_posts 7 f_posts]]) (br := []) (As := [.int w_]) (rest := []) C G (c_fm_setsWay l T mo m_all m_has i_size i_next i_where i_token i_number i_word i_wrong i_farCrossing m_read i_z0 i_crossings i_inns m_posts m_shut m_here i_steps i_done i_at i_gone m_was m_came m_seenAt m_rowWorth m_farBy m_used i_everywhere i_again0 i_d0 i_never i_firstCame i_longRun i_moved i_crowd i_l0 i_fitMany i_fitLeast i_fitMost m_fitPost m_fitEnd m_keptPosts i_x0 f_all f_posts w_ (by first | with_reducible assumption | with_reducible rfl | omega | assumption | rfl | decide) (by first | with_reducible assumption | with_reducible rfl | omega | assumption | rfl | decide) (by first | with_reducible assumption | with_reducible rfl | omega | assumption | rfl | decide) (by first | with_reducible assumption | with_reducible rfl | omega | assumption | rfl | decide)) (kV_RX12_226 C.2.2.2.2 (Nat.le_of_ble_eq_true rfl) (Nat.le_of_ble_eq_true rfl)) [0, 1, 2] [0, 0, 0] rfl rfl (ci := 11) (qc := (RX12, TX12, 43)) rfl rfl (List.mem_flatten.mpr ⟨_, List.mem_of_getElem? (i := 0) rfl, List.mem_cons_self⟩) rfl rfl hl.1 dX12_numberOf_2 (Nat.le_of_ble_eq_true rfl) (Nat.le_of_ble_eq_true rfl) (fun b1 H locs hw G => ?_)
  refine zEx1 hw ?_
  intro g_posts_1
  refine zCu4 ?_
  intro hbs9 h_2 h_3 h_4
  clear hw
  subst hbs9
  have G : zS T A s.heap s [[zO11 mo m_all m_has i_size i_next i_where i_token i_number i_word i_wrong i_farCrossing m_read i_z0 i_crossings i_inns m_posts m_shut m_here i_steps i_done i_at i_gone m_was m_came m_seenAt m_rowWorth m_farBy m_used i_everywhere i_again0 i_d0 i_never i_firstCame i_longRun i_moved i_crowd i_l0 i_fitMany i_fitLeast i_fitMost m_fitPost m_fitEnd m_keptPosts i_x0], [zAr T 0 m_all 3952 f_all], [zAr T 0 m_posts 7 g_posts_1]] _ _ := G
  refine lv_iconst (v := 1) hx hb dX12_numberOf_5 (by decide) ?_
  refine lv_istore_n (lv' := [(2, .int 1), (0, .ref mo), (1, .int w_)]) hx hb dX12_numberOf_6 rfl hl (by decide) (zLvf_h rfl) (fun ls hl => ?_)
  refine lv_iconst (v := 0) hx hb dX12_numberOf_7 (by decide) ?_
  refine lv_istore_n (lv' := [(3, .int 0), (2, .int 1), (0, .ref mo), (1, .int w_)]) hx hb dX12_numberOf_8 rfl hl (by decide) (zLvf_h rfl) (fun ls hl => ?_)
  refine z_lp2 (T := T) 9 (fun (i : Nat) (u : Int32) => [[zO11 mo m_all m_has i_size i_next i_where i_token i_number i_word i_wrong i_farCrossing m_read i_z0 i_crossings i_inns m_posts m_shut m_here i_steps i_done i_at i_gone m_was m_came m_seenAt m_rowWorth m_farBy m_used i_everywhere i_again0 i_d0 i_never i_firstCame i_longRun i_moved i_crowd i_l0 i_fitMany i_fitLeast i_fitMost m_fitPost m_fitEnd m_keptPosts i_x0], [zAr T 0 m_all 3952 f_all], [zAr T 0 m_posts 7 g_posts_1]]) (fun (i : Nat) (u : Int32) => [(3, .int (nI i)), (2, .int u), (0, .ref mo), (1, .int w_)]) (fun (i : Nat) (u : Int32) => i ≤ 7 ∧ (i : Int) ≤ i_crossings.toInt ∧ u = aNu (zWo f_all i_z0 i_inns) w_.toInt.toNat i) (fun (i : Nat) (u : Int32) => 7 - i) ?_ 0 1 (show 0 ≤ 7 ∧ (0 : Int) ≤ i_crossings.toInt ∧ 1 = aNu (zWo f_all i_z0 i_inns) w_.toInt.toNat 0 from ⟨by omega, by omega, rfl⟩) G (lv_sub hl [0, 1, 2, 3] rfl)
  intro i u hI9 ih_9 H locs ls G hl
  replace hI9 : i ≤ 7 ∧ (i : Int) ≤ i_crossings.toInt ∧ u = aNu (zWo f_all i_z0 i_inns) w_.toInt.toNat i := hI9
  refine zAn3 hI9 ?_
  intro hi hic hu
  clear hI9
  replace G : zS T A s.heap s [[zO11 mo m_all m_has i_size i_next i_where i_token i_number i_word i_wrong i_farCrossing m_read i_z0 i_crossings i_inns m_posts m_shut m_here i_steps i_done i_at i_gone m_was m_came m_seenAt m_rowWorth m_farBy m_used i_everywhere i_again0 i_d0 i_never i_firstCame i_longRun i_moved i_crowd i_l0 i_fitMany i_fitLeast i_fitMost m_fitPost m_fitEnd m_keptPosts i_x0], [zAr T 0 m_all 3952 f_all], [zAr T 0 m_posts 7 g_posts_1]] _ _ := G
  replace hl : lv_has ls 4 [(3, .int (nI i)), (2, .int u), (0, .ref mo), (1, .int w_)] := hl
  refine lv_iload_n hx hb dX12_numberOf_9 rfl (lv_at hl 0 rfl) ?_
  refine lv_aload_n hx hb dX12_numberOf_10 rfl (lv_at hl 2 rfl) ?_
  refine z_get C G clX12 0 rfl 12 (by decide) m_fl_RX12_169 rfl dX12_numberOf_11 ?_
  refine lv_icmp_ge (tgt := 35) hx hb dX12_numberOf_14 (by decide) (fun c_6 => ?_) (fun c_6 => ?_)
  · have c_6n : i_crossings.toInt ≤ (i : Int) := by have q := (fa_le _ _).mp c_6; rw [nI_toInt (n := i) (by omega)] at q; exact q
    refine lv_iload_n hx hb dX12_numberOf_35 rfl (lv_at hl 1 rfl) ?_
    exact z_back hQz_ (z_iret C hr hlocks G (Nat.le_of_ble_eq_true rfl) (Nat.le_of_ble_eq_true rfl) dX12_numberOf_36 ⟨g_posts_1, rfl, h_2, (by rw [hu]; exact congrArg (aNu (zWo f_all i_z0 i_inns) w_.toInt.toNat) (by omega)), h_3⟩)
  · have c_6n : ¬ i_crossings.toInt ≤ (i : Int) := fun q => c_6 ((fa_le _ _).mpr (by rw [nI_toInt (n := i) (by omega)]; exact q))
    refine lv_bipush (v := 10) hx hb dX12_numberOf_17 (by decide) ?_
    refine lv_iload_n hx hb dX12_numberOf_19 rfl (lv_at hl 1 rfl) ?_
    refine lv_imul hx hb dX12_numberOf_20 ?_
    refine lv_aload_n hx hb dX12_numberOf_21 rfl (lv_at hl 2 rfl) ?_
    refine z_get C G clX12 0 rfl 14 (by decide) m_fl_RX12_20 rfl dX12_numberOf_22 ?_
    refine lv_iload_n hx hb dX12_numberOf_25 rfl (lv_at hl 0 rfl) ?_
    refine z_ild C G 2 rfl (vp_in_nI (by omega) (by decide)) dX12_numberOf_26 ?_
    refine lv_topi (fun v_7 ev_7 => ?_)
    rw [nI_clamp (by omega)] at ev_7
    subst ev_7
    refine lv_iadd hx hb dX12_numberOf_27 ?_
    refine lv_istore_n (lv' := [(2, .int ((10 * u) + (g_posts_1 i))), (3, .int (nI i)), (0, .ref mo), (1, .int w_)]) hx hb dX12_numberOf_28 rfl hl (by decide) (zLvf_h rfl) (fun ls hl => ?_)
    refine lv_iinc (v := nI (i + 1)) (lv' := [(3, .int (nI (i + 1))), (2, .int ((10 * u) + (g_posts_1 i))), (0, .ref mo), (1, .int w_)]) hx hb dX12_numberOf_29 hl (k := 1) rfl (z_inc i 1) (by decide) (zLvf_h rfl) (fun ls hl => ?_)
    refine lv_goto (tgt := 9) hx hb dX12_numberOf_32 (by decide) ?_
    exact ih_9 (i + 1) ((10 * u) + (g_posts_1 i)) (show (i + 1) ≤ 7 ∧ ((i + 1) : Int) ≤ i_crossings.toInt ∧ ((10 * u) + (g_posts_1 i)) = aNu (zWo f_all i_z0 i_inns) w_.toInt.toNat (i + 1) from ⟨by omega, by omega, (aNu_m hu (h_4 i (by omega) (by omega)))⟩) (show 7 - (i + 1) < 7 - i from by omega) _ _ ls G (lv_sub hl [0, 1, 2, 3] rfl)
set_option maxHeartbeats 4000000 in
set_option maxRecDepth 100000 in
/-- c_k_odds -/
theorem c_k_odds (l : Launch) (T : zTy) (xo : Nat) (t : Nat) (im : Nat) (mk : Nat) (rd : Nat) (po : Nat) (co : Nat) (tr : Nat) (wa : Nat) (wb_ : Nat) (fi : Nat) (cd : Nat) (l0 : Nat) (l1 : Nat) (d0 : Nat) (d1 : Nat) (g0 : Nat) (g1 : Nat) (ln : Int32) (fl : Int32) (pl : Int32) (ft : Nat → Int32) (fk : Nat → Int32) (wt : va_W) (cr0_ : Int32) (inn0_ : Int32) (k10_ : Nat → Int32) (k20_ : Nat → Int32) (k30_ : Nat → Int32) (k40_ : Nat → Int32) (z0_ : va_W) (cr1_ : Int32) (inn1_ : Int32) (k11_ : Nat → Int32) (k21_ : Nat → Int32) (k31_ : Nat → Int32) (k41_ : Nat → Int32) (z1_ : va_W) (gg0_ : Int32) (q10_ : Nat → Int32) (q20_ : Nat → Int32) (wg0_ : va_W) (gg1_ : Int32) (q11_ : Nat → Int32) (q21_ : Nat → Int32) (wg1_ : va_W) (laA : Nat) (mdA : Int32) (wyA : Int32) (pc_A : Int32) (f1A : Nat → Int32) (f2A : Nat → Int32) (f3A : Nat → Int32) (f4A : Nat → Int32) (f5A : Nat → Int32) (f6A : Nat → Int32) (n4A : Nat) (wwA : va_W) (laB : Nat) (mdB : Int32) (wyB : Int32) (pc_B : Int32) (f1B : Nat → Int32) (f2B : Nat → Int32) (f3B : Nat → Int32) (f4B : Nat → Int32) (f5B : Nat → Int32) (f6B : Nat → Int32) (n4B : Nat) (wwB : va_W) (e0f : Int32) (e1f : Int32) (e2f : Int32) (e3f : Int32) (e4f : Int32) (e5f : Int32) (r1f : Nat → Int32) (m1f : Nat) (r2f : Nat → Int32) (wff : va_W) (i1 : Int32) (i2 : Int32) (a_ : Int32) (b_ : Int32) (w_ : Int32) (ht : bTold T t l0 l1 d0 d1 g0 g1 ln fl pl ft fk wt) (hK : zKT fk) (hz0_ : bLand T l0 cr0_ inn0_ k10_ k20_ k30_ k40_ z0_) (hI0_ : zLI cr0_ k10_ k30_) (hz1_ : bLand T l1 cr1_ inn1_ k11_ k21_ k31_ k41_ z1_) (hI1_ : zLI cr1_ k11_ k31_) (hg0_ : bLog T g0 gg0_ q10_ q20_ wg0_) (hg1_ : bLog T g1 gg1_ q11_ q21_ wg1_) (hwwA : bWays T wa laA mdA wyA pc_A f1A f2A f3A f4A f5A f6A n4A wwA) (hpwA : zPw n4A) (hmdA : mdA = 0 ∨ laA = l0) (hwmA : 0 ≤ wyA.toInt ∧ wyA.toInt ≤ 16384) (hTbA : mdA = 0 ∨ zTab cr0_ inn0_ k10_ k20_ wyA pc_A f1A f2A f5A n4A) (hLq0 : zLq cr0_ k10_ k20_) (hwwB : bWays T wb_ laB mdB wyB pc_B f1B f2B f3B f4B f5B f6B n4B wwB) (hpwB : zPw n4B) (hmdB : mdB = 0 ∨ laB = l1) (hwmB : 0 ≤ wyB.toInt ∧ wyB.toInt ≤ 16384) (hTbB : mdB = 0 ∨ zTab cr1_ inn1_ k11_ k21_ wyB pc_B f1B f2B f5B n4B) (hLq1 : zLq cr1_ k11_ k21_) (hwff : bFit T fi e0f e1f e2f e3f e4f e5f r1f m1f r2f wff) (hfw : zFw m1f) (hf3 : 0 ≤ e3f.toInt) (hFI : (¬ e0f = 0 → e1f.toInt = 0 ∧ ¬ mdA = 0 ∨ e1f.toInt = 1 ∧ ¬ mdB = 0)) (hFt00 : (¬ e0f = 0 → e1f.toInt = 0 → e2f.toInt = 0 → gFt (fun w => gF (aW cr0_ inn0_ k10_) k20_ cr0_ inn0_ q10_ q20_ w gg0_.toInt.toNat) (aPr (aW cr0_ inn0_ k10_) 7) e3f e4f e5f r1f m1f)) (hFt01 : (¬ e0f = 0 → e1f.toInt = 0 → e2f.toInt = 1 → gFt (fun w => gF (aW cr0_ inn0_ k10_) k20_ cr0_ inn0_ q11_ q21_ w gg1_.toInt.toNat) (aPr (aW cr0_ inn0_ k10_) 7) e3f e4f e5f r1f m1f)) (hFt10 : (¬ e0f = 0 → e1f.toInt = 1 → e2f.toInt = 0 → gFt (fun w => gF (aW cr1_ inn1_ k11_) k21_ cr1_ inn1_ q10_ q20_ w gg0_.toInt.toNat) (aPr (aW cr1_ inn1_ k11_) 7) e3f e4f e5f r1f m1f)) (hFt11 : (¬ e0f = 0 → e1f.toInt = 1 → e2f.toInt = 1 → gFt (fun w => gF (aW cr1_ inn1_ k11_) k21_ cr1_ inn1_ q11_ q21_ w gg1_.toInt.toNat) (aPr (aW cr1_ inn1_ k11_) 7) e3f e4f e5f r1f m1f)) (hGg0 : 0 ≤ gg0_.toInt ∧ gg0_.toInt ≤ 8) (hGg1 : 0 ≤ gg1_.toInt ∧ gg1_.toInt ≤ 8) : zMi l T yX11_odds cX11_odds 8 (some .int) 8 7 (6 * (zNA (i1.toInt = 0 ∧ 0 < (fk 0).toInt ∧ (0 ≤ i2.toInt ∧ i2.toInt < (fk 2).toInt ∧ i2.toInt < 2) ∧ (e0f.toInt = 0 ∨ ¬ e1f.toInt = i1.toInt ∨ ¬ e2f.toInt = i2.toInt)) mdA n4A (zPl cr0_ inn0_ k10_) - n4A) + 6 * (zNA (i1.toInt = 1 ∧ 1 < (fk 0).toInt ∧ (0 ≤ i2.toInt ∧ i2.toInt < (fk 2).toInt ∧ i2.toInt < 2) ∧ (e0f.toInt = 0 ∨ ¬ e1f.toInt = i1.toInt ∨ ¬ e2f.toInt = i2.toInt)) mdB n4B (zPl cr1_ inn1_ k11_) - n4B) + 2 * (zNF (i1.toInt = 1 ∧ 1 < (fk 0).toInt ∧ (0 ≤ i2.toInt ∧ i2.toInt < (fk 2).toInt ∧ i2.toInt < 2) ∧ (e0f.toInt = 0 ∨ ¬ e1f.toInt = i1.toInt ∨ ¬ e2f.toInt = i2.toInt)) (zNF (i1.toInt = 0 ∧ 0 < (fk 0).toInt ∧ (0 ≤ i2.toInt ∧ i2.toInt < (fk 2).toInt ∧ i2.toInt < 2) ∧ (e0f.toInt = 0 ∨ ¬ e1f.toInt = i1.toInt ∨ ¬ e2f.toInt = i2.toInt)) m1f (zMw mdA wyA cr0_ inn0_ k10_)) (zMw mdB wyB cr1_ inn1_ k11_) - m1f)) [.ref xo, .int i1, .int i2, .int a_, .int b_, .int w_] [[zO10 xo t im mk rd po co tr wa wb_ fi cd], wt, z0_, z1_, wg0_, wg1_, wwA, wwB, wff] (fun (r : Int32) bs => ∃ (laA_2 : Nat) (mdA_2 : Int32) (wyA_2 : Int32) (pc_A_2 : Int32) (f1A_2 : Nat → Int32) (f2A_2 : Nat → Int32) (f3A_2 : Nat → Int32) (f4A_2 : Nat → Int32) (f5A_2 : Nat → Int32) (f6A_2 : Nat → Int32) (n4A_2 : Nat) (wwA_2 : va_W) (laB_2 : Nat) (mdB_2 : Int32) (wyB_2 : Int32) (pc_B_2 : Int32) (f1B_2 : Nat → Int32) (f2B_2 : Nat → Int32) (f3B_2 : Nat → Int32) (f4B_2 : Nat → Int32) (f5B_2 : Nat → Int32) (f6B_2 : Nat → Int32) (n4B_2 : Nat) (wwB_2 : va_W) (e0f_2 : Int32) (e1f_2 : Int32) (e2f_2 : Int32) (e3f_2 : Int32) (e4f_2 : Int32) (e5f_2 : Int32) (r1f_2 : Nat → Int32) (m1f_2 : Nat) (r2f_2 : Nat → Int32) (wff_2 : va_W), bs = [[zO10 xo t im mk rd po co tr wa wb_ fi cd], wt, z0_, z1_, wg0_, wg1_, wwA_2, wwB_2, wff_2] ∧ bWays T wa laA_2 mdA_2 wyA_2 pc_A_2 f1A_2 f2A_2 f3A_2 f4A_2 f5A_2 f6A_2 n4A_2 wwA_2 ∧ (mdA_2 = 0 ∨ laA_2 = l0) ∧ (0 ≤ wyA_2.toInt ∧ wyA_2.toInt ≤ 16384) ∧ n4A_2 = zNA (i1.toInt = 0 ∧ 0 < (fk 0).toInt ∧ (0 ≤ i2.toInt ∧ i2.toInt < (fk 2).toInt ∧ i2.toInt < 2) ∧ (e0f.toInt = 0 ∨ ¬ e1f.toInt = i1.toInt ∨ ¬ e2f.toInt = i2.toInt)) mdA n4A (zPl cr0_ inn0_ k10_) ∧ zPw n4A_2 ∧ (¬ mdA = 0 → ¬ mdA_2 = 0) ∧ (mdA_2 = 0 ∨ zTab cr0_ inn0_ k10_ k20_ wyA_2 pc_A_2 f1A_2 f2A_2 f5A_2 n4A_2) ∧ bWays T wb_ laB_2 mdB_2 wyB_2 pc_B_2 f1B_2 f2B_2 f3B_2 f4B_2 f5B_2 f6B_2 n4B_2 wwB_2 ∧ (mdB_2 = 0 ∨ laB_2 = l1) ∧ (0 ≤ wyB_2.toInt ∧ wyB_2.toInt ≤ 16384) ∧ n4B_2 = zNA (i1.toInt = 1 ∧ 1 < (fk 0).toInt ∧ (0 ≤ i2.toInt ∧ i2.toInt < (fk 2).toInt ∧ i2.toInt < 2) ∧ (e0f.toInt = 0 ∨ ¬ e1f.toInt = i1.toInt ∨ ¬ e2f.toInt = i2.toInt)) mdB n4B (zPl cr1_ inn1_ k11_) ∧ zPw n4B_2 ∧ (¬ mdB = 0 → ¬ mdB_2 = 0) ∧ (mdB_2 = 0 ∨ zTab cr1_ inn1_ k11_ k21_ wyB_2 pc_B_2 f1B_2 f2B_2 f5B_2 n4B_2) ∧ bFit T fi e0f_2 e1f_2 e2f_2 e3f_2 e4f_2 e5f_2 r1f_2 m1f_2 r2f_2 wff_2 ∧ m1f_2 = zNF (i1.toInt = 1 ∧ 1 < (fk 0).toInt ∧ (0 ≤ i2.toInt ∧ i2.toInt < (fk 2).toInt ∧ i2.toInt < 2) ∧ (e0f.toInt = 0 ∨ ¬ e1f.toInt = i1.toInt ∨ ¬ e2f.toInt = i2.toInt)) (zNF (i1.toInt = 0 ∧ 0 < (fk 0).toInt ∧ (0 ≤ i2.toInt ∧ i2.toInt < (fk 2).toInt ∧ i2.toInt < 2) ∧ (e0f.toInt = 0 ∨ ¬ e1f.toInt = i1.toInt ∨ ¬ e2f.toInt = i2.toInt)) m1f (zMw mdA wyA cr0_ inn0_ k10_)) (zMw mdB wyB cr1_ inn1_ k11_) ∧ zFw m1f_2 ∧ 0 ≤ e3f_2.toInt ∧ (¬ e0f_2 = 0 → e1f_2.toInt = 0 ∧ ¬ mdA_2 = 0 ∨ e1f_2.toInt = 1 ∧ ¬ mdB_2 = 0) ∧ (¬ e0f_2 = 0 → e1f_2.toInt = 0 → e2f_2.toInt = 0 → gFt (fun w => gF (aW cr0_ inn0_ k10_) k20_ cr0_ inn0_ q10_ q20_ w gg0_.toInt.toNat) (aPr (aW cr0_ inn0_ k10_) 7) e3f_2 e4f_2 e5f_2 r1f_2 m1f_2) ∧ (¬ e0f_2 = 0 → e1f_2.toInt = 0 → e2f_2.toInt = 1 → gFt (fun w => gF (aW cr0_ inn0_ k10_) k20_ cr0_ inn0_ q11_ q21_ w gg1_.toInt.toNat) (aPr (aW cr0_ inn0_ k10_) 7) e3f_2 e4f_2 e5f_2 r1f_2 m1f_2) ∧ (¬ e0f_2 = 0 → e1f_2.toInt = 1 → e2f_2.toInt = 0 → gFt (fun w => gF (aW cr1_ inn1_ k11_) k21_ cr1_ inn1_ q10_ q20_ w gg0_.toInt.toNat) (aPr (aW cr1_ inn1_ k11_) 7) e3f_2 e4f_2 e5f_2 r1f_2 m1f_2) ∧ (¬ e0f_2 = 0 → e1f_2.toInt = 1 → e2f_2.toInt = 1 → gFt (fun w => gF (aW cr1_ inn1_ k11_) k21_ cr1_ inn1_ q11_ q21_ w gg1_.toInt.toNat) (aPr (aW cr1_ inn1_ k11_) 7) e3f_2 e4f_2 e5f_2 r1f_2 m1f_2)) := by
  refine zMi_of (own := RX11) (by decide) rfl (Nat.le_of_ble_eq_true rfl) ?_
  intro p e s m args below meth c A ls C hr hlocks hnm hAe G hl
  refine zHide (fun Qz_ hQz_ => ?_)
  have hx := C.1
  have hb := C.2.1
  replace hmdA : zHd (mdA = 0 ∨ laA = l0) := hmdA
  replace hTbA : zHd (mdA = 0 ∨ zTab cr0_ inn0_ k10_ k20_ wyA pc_A f1A f2A f5A n4A) := hTbA
  replace hmdB : zHd (mdB = 0 ∨ laB = l1) := hmdB
  replace hTbB : zHd (mdB = 0 ∨ zTab cr1_ inn1_ k11_ k21_ wyB pc_B f1B f2B f5B n4B) := hTbB
  replace hFI : zHd ((¬ e0f = 0 → e1f.toInt = 0 ∧ ¬ mdA = 0 ∨ e1f.toInt = 1 ∧ ¬ mdB = 0)) := hFI
  have hl : lv_has ls 8 [(0, .ref xo), (1, .int i1), (2, .int i2), (3, .int a_), (4, .int b_), (5, .int w_)] := hl
  refine lv_aload_n hx hb dX11_odds_0 rfl (lv_at hl 0 rfl) ?_
  refine z_get C G clX11 0 rfl 0 (by decide) m_fl_RX11_10 rfl dX11_odds_1 ?_
  refine lv_iload_n hx hb dX11_odds_4 rfl (lv_at hl 1 rfl) ?_
  refine z_Vq (bc := [wt]) (br := [[zO10 xo t im mk rd po co tr wa wb_ fi cd], z0_, z1_, wg0_, wg1_, wwA, wwB, wff]) (As := [.int i1]) (rest := []) C G (c_landAt l T t l0 l1 d0 d1 g0 g1 ln fl pl ft fk wt i1 ht) (kV_RX11_121 C.2.2.2.2 (Nat.le_of_ble_eq_true rfl) (Nat.le_of_ble_eq_true rfl)) [1] [1] rfl rfl (ci := 8) (qc := (RX9, TX9, 8)) rfl rfl (List.mem_flatten.mpr ⟨_, List.mem_of_getElem? (i := 0) rfl, (bTold_mem ht).choose_spec⟩) rfl rfl hl.1 dX11_odds_5 (Nat.le_of_ble_eq_true rfl) (by show _ + 0 ≤ 6 * (zNA (i1.toInt = 0 ∧ 0 < (fk 0).toInt ∧ (0 ≤ i2.toInt ∧ i2.toInt < (fk 2).toInt ∧ i2.toInt < 2) ∧ (e0f.toInt = 0 ∨ ¬ e1f.toInt = i1.toInt ∨ ¬ e2f.toInt = i2.toInt)) mdA n4A (zPl cr0_ inn0_ k10_) - n4A) + 6 * (zNA (i1.toInt = 1 ∧ 1 < (fk 0).toInt ∧ (0 ≤ i2.toInt ∧ i2.toInt < (fk 2).toInt ∧ i2.toInt < 2) ∧ (e0f.toInt = 0 ∨ ¬ e1f.toInt = i1.toInt ∨ ¬ e2f.toInt = i2.toInt)) mdB n4B (zPl cr1_ inn1_ k11_) - n4B) + 2 * (zNF (i1.toInt = 1 ∧ 1 < (fk 0).toInt ∧ (0 ≤ i2.toInt ∧ i2.toInt < (fk 2).toInt ∧ i2.toInt < 2) ∧ (e0f.toInt = 0 ∨ ¬ e1f.toInt = i1.toInt ∨ ¬ e2f.toInt = i2.toInt)) (zNF (i1.toInt = 0 ∧ 0 < (fk 0).toInt ∧ (0 ≤ i2.toInt ∧ i2.toInt < (fk 2).toInt ∧ i2.toInt < 2) ∧ (e0f.toInt = 0 ∨ ¬ e1f.toInt = i1.toInt ∨ ¬ e2f.toInt = i2.toInt)) m1f (zMw mdA wyA cr0_ inn0_ k10_)) (zMw mdB wyB cr1_ inn1_ k11_) - m1f); omega) (fun r_2 b1 H locs hw G => ?_)
  refine zAn2 hw ?_
  intro hbs9 hc_1
  clear hw
  subst hbs9
  have G : zS T A s.heap s [[zO10 xo t im mk rd po co tr wa wb_ fi cd], z0_, z1_, wg0_, wg1_, wwA, wwB, wff, wt] _ _ := G
  rcases hc_1 with ⟨rfl, h_3⟩ | ⟨rfl, h_4, h_5⟩ | ⟨rfl, h_6, h_7⟩
  · have h_3 : (i1.toInt < 0 ∨ (fk 0).toInt ≤ i1.toInt ∨ 2 ≤ i1.toInt) := h_3
    refine lv_astoreN (lv' := [(6, .null), (0, .ref xo), (1, .int i1), (2, .int i2), (3, .int a_), (4, .int b_), (5, .int w_)]) hx hb dX11_odds_8 hl (by decide) (zLvf_h rfl) (fun ls hl => ?_)
    refine lv_aload_n hx hb dX11_odds_10 rfl (lv_at hl 1 rfl) ?_
    refine lv_iload_n hx hb dX11_odds_11 rfl (lv_at hl 2 rfl) ?_
    refine lv_iload_n hx hb dX11_odds_12 rfl (lv_at hl 3 rfl) ?_
    refine z_Vi (bc := [[zO10 xo t im mk rd po co tr wa wb_ fi cd], wt, z0_, z1_, wg0_, wg1_, wwA, wwB, wff]) (br := []) (As := [.int i1, .int i2]) (rest := []) C G (c_e_fit l T xo t im mk rd po co tr wa wb_ fi cd l0 l1 d0 d1 g0 g1 ln fl pl ft fk wt cr0_ inn0_ k10_ k20_ k30_ k40_ z0_ cr1_ inn1_ k11_ k21_ k31_ k41_ z1_ gg0_ q10_ q20_ wg0_ gg1_ q11_ q21_ wg1_ laA mdA wyA pc_A f1A f2A f3A f4A f5A f6A n4A wwA laB mdB wyB pc_B f1B f2B f3B f4B f5B f6B n4B wwB e0f e1f e2f e3f e4f e5f r1f m1f r2f wff i1 i2 ht (by first | with_reducible assumption | with_reducible rfl | omega | assumption | rfl) hz0_ (by first | with_reducible assumption | with_reducible rfl | omega | assumption | rfl) hz1_ (by first | with_reducible assumption | with_reducible rfl | omega | assumption | rfl) hg0_ hg1_ hwwA (by first | with_reducible assumption | with_reducible rfl | omega | assumption | rfl) (by first | with_reducible assumption | with_reducible rfl | omega | assumption | rfl) (by first | with_reducible assumption | with_reducible rfl | omega | assumption | rfl) (by first | with_reducible assumption | with_reducible rfl | omega | assumption | rfl) (by first | with_reducible assumption | with_reducible rfl | omega | assumption | rfl) hwwB (by first | with_reducible assumption | with_reducible rfl | omega | assumption | rfl) (by first | with_reducible assumption | with_reducible rfl | omega | assumption | rfl) (by first | with_reducible assumption | with_reducible rfl | omega | assumption | rfl) (by first | with_reducible assumption | with_reducible rfl | omega | assumption | rfl) (by first | with_reducible assumption | with_reducible rfl | omega | assumption | rfl) hwff hfw hf3 hFI hFt00 hFt01 hFt10 hFt11 hGg0 hGg1) (kV_RX11_302 C.2.2.2.2 (Nat.le_of_ble_eq_true rfl) (Nat.le_of_ble_eq_true rfl)) [0, 8, 1, 2, 3, 4, 5, 6, 7] [0, 0, 0, 0, 0, 0, 0, 0, 0] rfl rfl (ci := 10) (qc := (RX11, TX11, 11)) rfl rfl (List.mem_flatten.mpr ⟨_, List.mem_of_getElem? (i := 0) rfl, List.mem_cons_self⟩) rfl rfl hl.1 dX11_odds_13 (Nat.le_of_ble_eq_true rfl) (by show _ + (6 * (zNA (i1.toInt = 0 ∧ 0 < (fk 0).toInt ∧ (0 ≤ i2.toInt ∧ i2.toInt < (fk 2).toInt ∧ i2.toInt < 2) ∧ (e0f.toInt = 0 ∨ ¬ e1f.toInt = i1.toInt ∨ ¬ e2f.toInt = i2.toInt)) mdA n4A (zPl cr0_ inn0_ k10_) - n4A) + 6 * (zNA (i1.toInt = 1 ∧ 1 < (fk 0).toInt ∧ (0 ≤ i2.toInt ∧ i2.toInt < (fk 2).toInt ∧ i2.toInt < 2) ∧ (e0f.toInt = 0 ∨ ¬ e1f.toInt = i1.toInt ∨ ¬ e2f.toInt = i2.toInt)) mdB n4B (zPl cr1_ inn1_ k11_) - n4B) + 2 * (zNF (i1.toInt = 1 ∧ 1 < (fk 0).toInt ∧ (0 ≤ i2.toInt ∧ i2.toInt < (fk 2).toInt ∧ i2.toInt < 2) ∧ (e0f.toInt = 0 ∨ ¬ e1f.toInt = i1.toInt ∨ ¬ e2f.toInt = i2.toInt)) (zNF (i1.toInt = 0 ∧ 0 < (fk 0).toInt ∧ (0 ≤ i2.toInt ∧ i2.toInt < (fk 2).toInt ∧ i2.toInt < 2) ∧ (e0f.toInt = 0 ∨ ¬ e1f.toInt = i1.toInt ∨ ¬ e2f.toInt = i2.toInt)) m1f (zMw mdA wyA cr0_ inn0_ k10_)) (zMw mdB wyB cr1_ inn1_ k11_) - m1f)) ≤ 6 * (zNA (i1.toInt = 0 ∧ 0 < (fk 0).toInt ∧ (0 ≤ i2.toInt ∧ i2.toInt < (fk 2).toInt ∧ i2.toInt < 2) ∧ (e0f.toInt = 0 ∨ ¬ e1f.toInt = i1.toInt ∨ ¬ e2f.toInt = i2.toInt)) mdA n4A (zPl cr0_ inn0_ k10_) - n4A) + 6 * (zNA (i1.toInt = 1 ∧ 1 < (fk 0).toInt ∧ (0 ≤ i2.toInt ∧ i2.toInt < (fk 2).toInt ∧ i2.toInt < 2) ∧ (e0f.toInt = 0 ∨ ¬ e1f.toInt = i1.toInt ∨ ¬ e2f.toInt = i2.toInt)) mdB n4B (zPl cr1_ inn1_ k11_) - n4B) + 2 * (zNF (i1.toInt = 1 ∧ 1 < (fk 0).toInt ∧ (0 ≤ i2.toInt ∧ i2.toInt < (fk 2).toInt ∧ i2.toInt < 2) ∧ (e0f.toInt = 0 ∨ ¬ e1f.toInt = i1.toInt ∨ ¬ e2f.toInt = i2.toInt)) (zNF (i1.toInt = 0 ∧ 0 < (fk 0).toInt ∧ (0 ≤ i2.toInt ∧ i2.toInt < (fk 2).toInt ∧ i2.toInt < 2) ∧ (e0f.toInt = 0 ∨ ¬ e1f.toInt = i1.toInt ∨ ¬ e2f.toInt = i2.toInt)) m1f (zMw mdA wyA cr0_ inn0_ k10_)) (zMw mdB wyB cr1_ inn1_ k11_) - m1f); omega) (fun r_67 b1 H locs hw G => ?_)
    refine zEx34 hw ?_
    intro laA_8 mdA_9 wyA_10 pc_A_11 f1A_12 f2A_13 f3A_14 f4A_15 f5A_16 f6A_17 n4A_18 wwA_19 laB_20 mdB_21 wyB_22 pc_B_23 f1B_24 f2B_25 f3B_26 f4B_27 f5B_28 f6B_29 n4B_30 wwB_31 e0f_32 e1f_33 e2f_34 e3f_35 e4f_36 e5f_37 r1f_38 m1f_39 r2f_40 wff_41
    refine zCu26 ?_
    intro hbs9 h_42 h_43 h_44 h_45 h_46 h_47 h_48 h_49 h_50 h_51 h_52 h_53 h_54 h_55 h_56 h_57 h_58 h_59 h_60 h_61 h_62 h_63 h_64 h_65 h_66
    clear hw
    subst hbs9
    have G : zS T A s.heap s [[zO10 xo t im mk rd po co tr wa wb_ fi cd], wt, z0_, z1_, wg0_, wg1_, wwA_19, wwB_31, wff_41] _ _ := G
    replace h_43 : zHd ((mdA_9 = 0 ∨ laA_8 = l0)) := h_43
    replace h_47 : zHd ((¬ mdA = 0 → ¬ mdA_9 = 0)) := h_47
    replace h_48 : zHd ((mdA_9 = 0 ∨ zTab cr0_ inn0_ k10_ k20_ wyA_10 pc_A_11 f1A_12 f2A_13 f5A_16 n4A_18)) := h_48
    replace h_50 : zHd ((mdB_21 = 0 ∨ laB_20 = l1)) := h_50
    replace h_54 : zHd ((¬ mdB = 0 → ¬ mdB_21 = 0)) := h_54
    replace h_55 : zHd ((mdB_21 = 0 ∨ zTab cr1_ inn1_ k11_ k21_ wyB_22 pc_B_23 f1B_24 f2B_25 f5B_28 n4B_30)) := h_55
    replace h_61 : zHd ((¬ e0f_32 = 0 → e1f_33.toInt = 0 ∧ ¬ mdA_9 = 0 ∨ e1f_33.toInt = 1 ∧ ¬ mdB_21 = 0)) := h_61
    have hfm9 : m1f_39 ≤ 16384 := zFw_le h_58
    refine lv_if_eq (tgt := 40) hx hb dX11_odds_16 (by decide) (fun c_68 => ?_) (fun c_68 => ?_)
    · have c_68n : r_67.toInt = (0 : Int) := (fa_eq _ _).mp c_68
      refine lv_iconst (v := (-1)) hx hb dX11_odds_40 (by decide) ?_
      exact z_back hQz_ (z_iret C hr hlocks G (Nat.le_of_ble_eq_true rfl) (by omega) dX11_odds_41 ⟨laA_8, mdA_9, wyA_10, pc_A_11, f1A_12, f2A_13, f3A_14, f4A_15, f5A_16, f6A_17, n4A_18, wwA_19, laB_20, mdB_21, wyB_22, pc_B_23, f1B_24, f2B_25, f3B_26, f4B_27, f5B_28, f6B_29, n4B_30, wwB_31, e0f_32, e1f_33, e2f_34, e3f_35, e4f_36, e5f_37, r1f_38, m1f_39, r2f_40, wff_41, rfl, h_42, h_43, h_44, h_45, h_46, h_47, h_48, h_49, h_50, h_51, h_52, h_53, h_54, h_55, h_56, h_57, h_58, h_59, h_61, h_62, h_63, h_64, h_65⟩)
    · have c_68n : ¬ r_67.toInt = (0 : Int) := fun q => c_68 ((fa_eq _ _).mpr q)
      refine lv_aloadN hx hb dX11_odds_19 (lv_at hl 0 rfl) ?_
      refine lv_ifnullN (tgt := 40) hx hb dX11_odds_21 (by decide) ?_
      refine lv_iconst (v := (-1)) hx hb dX11_odds_40 (by decide) ?_
      exact z_back hQz_ (z_iret C hr hlocks G (Nat.le_of_ble_eq_true rfl) (by omega) dX11_odds_41 ⟨laA_8, mdA_9, wyA_10, pc_A_11, f1A_12, f2A_13, f3A_14, f4A_15, f5A_16, f6A_17, n4A_18, wwA_19, laB_20, mdB_21, wyB_22, pc_B_23, f1B_24, f2B_25, f3B_26, f4B_27, f5B_28, f6B_29, n4B_30, wwB_31, e0f_32, e1f_33, e2f_34, e3f_35, e4f_36, e5f_37, r1f_38, m1f_39, r2f_40, wff_41, rfl, h_42, h_43, h_44, h_45, h_46, h_47, h_48, h_49, h_50, h_51, h_52, h_53, h_54, h_55, h_56, h_57, h_58, h_59, h_61, h_62, h_63, h_64, h_65⟩)
  · have h_4 : i1.toInt = 0 := h_4
    have h_5 : 0 < (fk 0).toInt := h_5
    refine lv_astore (lv' := [(6, .ref l0), (0, .ref xo), (1, .int i1), (2, .int i2), (3, .int a_), (4, .int b_), (5, .int w_)]) hx hb dX11_odds_8 hl (by decide) (zLvf_h rfl) (fun ls hl => ?_)
    refine lv_aload_n hx hb dX11_odds_10 rfl (lv_at hl 1 rfl) ?_
    refine lv_iload_n hx hb dX11_odds_11 rfl (lv_at hl 2 rfl) ?_
    refine lv_iload_n hx hb dX11_odds_12 rfl (lv_at hl 3 rfl) ?_
    refine z_Vi (bc := [[zO10 xo t im mk rd po co tr wa wb_ fi cd], wt, z0_, z1_, wg0_, wg1_, wwA, wwB, wff]) (br := []) (As := [.int i1, .int i2]) (rest := []) C G (c_e_fit l T xo t im mk rd po co tr wa wb_ fi cd l0 l1 d0 d1 g0 g1 ln fl pl ft fk wt cr0_ inn0_ k10_ k20_ k30_ k40_ z0_ cr1_ inn1_ k11_ k21_ k31_ k41_ z1_ gg0_ q10_ q20_ wg0_ gg1_ q11_ q21_ wg1_ laA mdA wyA pc_A f1A f2A f3A f4A f5A f6A n4A wwA laB mdB wyB pc_B f1B f2B f3B f4B f5B f6B n4B wwB e0f e1f e2f e3f e4f e5f r1f m1f r2f wff i1 i2 ht (by first | with_reducible assumption | with_reducible rfl | omega | assumption | rfl) hz0_ (by first | with_reducible assumption | with_reducible rfl | omega | assumption | rfl) hz1_ (by first | with_reducible assumption | with_reducible rfl | omega | assumption | rfl) hg0_ hg1_ hwwA (by first | with_reducible assumption | with_reducible rfl | omega | assumption | rfl) (by first | with_reducible assumption | with_reducible rfl | omega | assumption | rfl) (by first | with_reducible assumption | with_reducible rfl | omega | assumption | rfl) (by first | with_reducible assumption | with_reducible rfl | omega | assumption | rfl) (by first | with_reducible assumption | with_reducible rfl | omega | assumption | rfl) hwwB (by first | with_reducible assumption | with_reducible rfl | omega | assumption | rfl) (by first | with_reducible assumption | with_reducible rfl | omega | assumption | rfl) (by first | with_reducible assumption | with_reducible rfl | omega | assumption | rfl) (by first | with_reducible assumption | with_reducible rfl | omega | assumption | rfl) (by first | with_reducible assumption | with_reducible rfl | omega | assumption | rfl) hwff hfw hf3 hFI hFt00 hFt01 hFt10 hFt11 hGg0 hGg1) (kV_RX11_302 C.2.2.2.2 (Nat.le_of_ble_eq_true rfl) (Nat.le_of_ble_eq_true rfl)) [0, 8, 1, 2, 3, 4, 5, 6, 7] [0, 0, 0, 0, 0, 0, 0, 0, 0] rfl rfl (ci := 10) (qc := (RX11, TX11, 11)) rfl rfl (List.mem_flatten.mpr ⟨_, List.mem_of_getElem? (i := 0) rfl, List.mem_cons_self⟩) rfl rfl hl.1 dX11_odds_13 (Nat.le_of_ble_eq_true rfl) (by show _ + (6 * (zNA (i1.toInt = 0 ∧ 0 < (fk 0).toInt ∧ (0 ≤ i2.toInt ∧ i2.toInt < (fk 2).toInt ∧ i2.toInt < 2) ∧ (e0f.toInt = 0 ∨ ¬ e1f.toInt = i1.toInt ∨ ¬ e2f.toInt = i2.toInt)) mdA n4A (zPl cr0_ inn0_ k10_) - n4A) + 6 * (zNA (i1.toInt = 1 ∧ 1 < (fk 0).toInt ∧ (0 ≤ i2.toInt ∧ i2.toInt < (fk 2).toInt ∧ i2.toInt < 2) ∧ (e0f.toInt = 0 ∨ ¬ e1f.toInt = i1.toInt ∨ ¬ e2f.toInt = i2.toInt)) mdB n4B (zPl cr1_ inn1_ k11_) - n4B) + 2 * (zNF (i1.toInt = 1 ∧ 1 < (fk 0).toInt ∧ (0 ≤ i2.toInt ∧ i2.toInt < (fk 2).toInt ∧ i2.toInt < 2) ∧ (e0f.toInt = 0 ∨ ¬ e1f.toInt = i1.toInt ∨ ¬ e2f.toInt = i2.toInt)) (zNF (i1.toInt = 0 ∧ 0 < (fk 0).toInt ∧ (0 ≤ i2.toInt ∧ i2.toInt < (fk 2).toInt ∧ i2.toInt < 2) ∧ (e0f.toInt = 0 ∨ ¬ e1f.toInt = i1.toInt ∨ ¬ e2f.toInt = i2.toInt)) m1f (zMw mdA wyA cr0_ inn0_ k10_)) (zMw mdB wyB cr1_ inn1_ k11_) - m1f)) ≤ 6 * (zNA (i1.toInt = 0 ∧ 0 < (fk 0).toInt ∧ (0 ≤ i2.toInt ∧ i2.toInt < (fk 2).toInt ∧ i2.toInt < 2) ∧ (e0f.toInt = 0 ∨ ¬ e1f.toInt = i1.toInt ∨ ¬ e2f.toInt = i2.toInt)) mdA n4A (zPl cr0_ inn0_ k10_) - n4A) + 6 * (zNA (i1.toInt = 1 ∧ 1 < (fk 0).toInt ∧ (0 ≤ i2.toInt ∧ i2.toInt < (fk 2).toInt ∧ i2.toInt < 2) ∧ (e0f.toInt = 0 ∨ ¬ e1f.toInt = i1.toInt ∨ ¬ e2f.toInt = i2.toInt)) mdB n4B (zPl cr1_ inn1_ k11_) - n4B) + 2 * (zNF (i1.toInt = 1 ∧ 1 < (fk 0).toInt ∧ (0 ≤ i2.toInt ∧ i2.toInt < (fk 2).toInt ∧ i2.toInt < 2) ∧ (e0f.toInt = 0 ∨ ¬ e1f.toInt = i1.toInt ∨ ¬ e2f.toInt = i2.toInt)) (zNF (i1.toInt = 0 ∧ 0 < (fk 0).toInt ∧ (0 ≤ i2.toInt ∧ i2.toInt < (fk 2).toInt ∧ i2.toInt < 2) ∧ (e0f.toInt = 0 ∨ ¬ e1f.toInt = i1.toInt ∨ ¬ e2f.toInt = i2.toInt)) m1f (zMw mdA wyA cr0_ inn0_ k10_)) (zMw mdB wyB cr1_ inn1_ k11_) - m1f); omega) (fun r_128 b1 H locs hw G => ?_)
    refine zEx34 hw ?_
    intro laA_69 mdA_70 wyA_71 pc_A_72 f1A_73 f2A_74 f3A_75 f4A_76 f5A_77 f6A_78 n4A_79 wwA_80 laB_81 mdB_82 wyB_83 pc_B_84 f1B_85 f2B_86 f3B_87 f4B_88 f5B_89 f6B_90 n4B_91 wwB_92 e0f_93 e1f_94 e2f_95 e3f_96 e4f_97 e5f_98 r1f_99 m1f_100 r2f_101 wff_102
    refine zCu26 ?_
    intro hbs9 h_103 h_104 h_105 h_106 h_107 h_108 h_109 h_110 h_111 h_112 h_113 h_114 h_115 h_116 h_117 h_118 h_119 h_120 h_121 h_122 h_123 h_124 h_125 h_126 h_127
    clear hw
    subst hbs9
    have G : zS T A s.heap s [[zO10 xo t im mk rd po co tr wa wb_ fi cd], wt, z0_, z1_, wg0_, wg1_, wwA_80, wwB_92, wff_102] _ _ := G
    replace h_104 : zHd ((mdA_70 = 0 ∨ laA_69 = l0)) := h_104
    replace h_108 : zHd ((¬ mdA = 0 → ¬ mdA_70 = 0)) := h_108
    replace h_109 : zHd ((mdA_70 = 0 ∨ zTab cr0_ inn0_ k10_ k20_ wyA_71 pc_A_72 f1A_73 f2A_74 f5A_77 n4A_79)) := h_109
    replace h_111 : zHd ((mdB_82 = 0 ∨ laB_81 = l1)) := h_111
    replace h_115 : zHd ((¬ mdB = 0 → ¬ mdB_82 = 0)) := h_115
    replace h_116 : zHd ((mdB_82 = 0 ∨ zTab cr1_ inn1_ k11_ k21_ wyB_83 pc_B_84 f1B_85 f2B_86 f5B_89 n4B_91)) := h_116
    replace h_122 : zHd ((¬ e0f_93 = 0 → e1f_94.toInt = 0 ∧ ¬ mdA_70 = 0 ∨ e1f_94.toInt = 1 ∧ ¬ mdB_82 = 0)) := h_122
    have hfm9 : m1f_100 ≤ 16384 := zFw_le h_119
    refine lv_if_eq (tgt := 40) hx hb dX11_odds_16 (by decide) (fun c_129 => ?_) (fun c_129 => ?_)
    · have c_129n : r_128.toInt = (0 : Int) := (fa_eq _ _).mp c_129
      refine lv_iconst (v := (-1)) hx hb dX11_odds_40 (by decide) ?_
      exact z_back hQz_ (z_iret C hr hlocks G (Nat.le_of_ble_eq_true rfl) (by omega) dX11_odds_41 ⟨laA_69, mdA_70, wyA_71, pc_A_72, f1A_73, f2A_74, f3A_75, f4A_76, f5A_77, f6A_78, n4A_79, wwA_80, laB_81, mdB_82, wyB_83, pc_B_84, f1B_85, f2B_86, f3B_87, f4B_88, f5B_89, f6B_90, n4B_91, wwB_92, e0f_93, e1f_94, e2f_95, e3f_96, e4f_97, e5f_98, r1f_99, m1f_100, r2f_101, wff_102, rfl, h_103, h_104, h_105, h_106, h_107, h_108, h_109, h_110, h_111, h_112, h_113, h_114, h_115, h_116, h_117, h_118, h_119, h_120, h_122, h_123, h_124, h_125, h_126⟩)
    · have c_129n : ¬ r_128.toInt = (0 : Int) := fun q => c_129 ((fa_eq _ _).mpr q)
      refine lv_aload hx hb dX11_odds_19 (lv_at hl 0 rfl) ?_
      refine lv_ifnull hx hb dX11_odds_21 ?_
      refine lv_iload hx hb dX11_odds_24 (lv_at hl 5 rfl) ?_
      refine lv_if_lt (tgt := 40) hx hb dX11_odds_26 (by decide) (fun c_130 => ?_) (fun c_130 => ?_)
      · have c_130n : b_.toInt < (0 : Int) := (fa_lt _ _).mp c_130
        refine lv_iconst (v := (-1)) hx hb dX11_odds_40 (by decide) ?_
        exact z_back hQz_ (z_iret C hr hlocks G (Nat.le_of_ble_eq_true rfl) (by omega) dX11_odds_41 ⟨laA_69, mdA_70, wyA_71, pc_A_72, f1A_73, f2A_74, f3A_75, f4A_76, f5A_77, f6A_78, n4A_79, wwA_80, laB_81, mdB_82, wyB_83, pc_B_84, f1B_85, f2B_86, f3B_87, f4B_88, f5B_89, f6B_90, n4B_91, wwB_92, e0f_93, e1f_94, e2f_95, e3f_96, e4f_97, e5f_98, r1f_99, m1f_100, r2f_101, wff_102, rfl, h_103, h_104, h_105, h_106, h_107, h_108, h_109, h_110, h_111, h_112, h_113, h_114, h_115, h_116, h_117, h_118, h_119, h_120, h_122, h_123, h_124, h_125, h_126⟩)
      · have c_130n : ¬ b_.toInt < (0 : Int) := fun q => c_130 ((fa_lt _ _).mpr q)
        refine lv_iload hx hb dX11_odds_29 (lv_at hl 5 rfl) ?_
        refine lv_aload hx hb dX11_odds_31 (lv_at hl 0 rfl) ?_
        refine lv_iload_n hx hb dX11_odds_33 rfl (lv_at hl 4 rfl) ?_
        refine z_Vi (bc := [z0_]) (br := [[zO10 xo t im mk rd po co tr wa wb_ fi cd], wt, z1_, wg0_, wg1_, wwA_80, wwB_92, wff_102]) (As := [.int a_]) (rest := [.int b_]) C G (c_waysOut l T l0 cr0_ inn0_ k10_ k20_ k30_ k40_ z0_ a_ hz0_) (kV_RX11_221 C.2.2.2.2 (Nat.le_of_ble_eq_true rfl) (Nat.le_of_ble_eq_true rfl)) [2] [2] rfl rfl (ci := 4) (qc := (RX4, TX4, 6)) rfl rfl (List.mem_flatten.mpr ⟨_, List.mem_of_getElem? (i := 0) rfl, (bLand_mem hz0_).choose_spec⟩) rfl rfl hl.1 dX11_odds_34 (Nat.le_of_ble_eq_true rfl) (by show _ + 0 ≤ 6 * (zNA (i1.toInt = 0 ∧ 0 < (fk 0).toInt ∧ (0 ≤ i2.toInt ∧ i2.toInt < (fk 2).toInt ∧ i2.toInt < 2) ∧ (e0f.toInt = 0 ∨ ¬ e1f.toInt = i1.toInt ∨ ¬ e2f.toInt = i2.toInt)) mdA n4A (zPl cr0_ inn0_ k10_) - n4A) + 6 * (zNA (i1.toInt = 1 ∧ 1 < (fk 0).toInt ∧ (0 ≤ i2.toInt ∧ i2.toInt < (fk 2).toInt ∧ i2.toInt < 2) ∧ (e0f.toInt = 0 ∨ ¬ e1f.toInt = i1.toInt ∨ ¬ e2f.toInt = i2.toInt)) mdB n4B (zPl cr1_ inn1_ k11_) - n4B) + 2 * (zNF (i1.toInt = 1 ∧ 1 < (fk 0).toInt ∧ (0 ≤ i2.toInt ∧ i2.toInt < (fk 2).toInt ∧ i2.toInt < 2) ∧ (e0f.toInt = 0 ∨ ¬ e1f.toInt = i1.toInt ∨ ¬ e2f.toInt = i2.toInt)) (zNF (i1.toInt = 0 ∧ 0 < (fk 0).toInt ∧ (0 ≤ i2.toInt ∧ i2.toInt < (fk 2).toInt ∧ i2.toInt < 2) ∧ (e0f.toInt = 0 ∨ ¬ e1f.toInt = i1.toInt ∨ ¬ e2f.toInt = i2.toInt)) m1f (zMw mdA wyA cr0_ inn0_ k10_)) (zMw mdB wyB cr1_ inn1_ k11_) - m1f); omega) (fun r_132 b1 H locs hw G => ?_)
        refine zAn2 hw ?_
        intro hbs9 h_131
        clear hw
        subst hbs9
        have G : zS T A s.heap s [[zO10 xo t im mk rd po co tr wa wb_ fi cd], wt, z1_, wg0_, wg1_, wwA_80, wwB_92, wff_102, z0_] _ _ := G
        subst h_131
        refine lv_icmp_lt (tgt := 42) hx hb dX11_odds_37 (by decide) (fun c_133 => ?_) (fun c_133 => ?_)
        · have c_133n : b_.toInt < (zWays cr0_ inn0_ k10_ a_).toInt := (fa_lt _ _).mp c_133
          refine lv_aload_n hx hb dX11_odds_42 rfl (lv_at hl 1 rfl) ?_
          refine z_get C G clX11 0 rfl 9 (by decide) m_fl_RX11_65 rfl dX11_odds_43 ?_
          refine zEx2 h_117 ?_
          intro a1_134 a2_135 hbs9
          clear h_117
          subst hbs9
          have G : zS T A s.heap s [[zO10 xo t im mk rd po co tr wa wb_ fi cd], wt, z1_, wg0_, wg1_, wwA_80, wwB_92, [zO3 fi e0f_93 e1f_94 e2f_95 e3f_96 e4f_97 e5f_98 a1_134 a2_135], [zAr T 0 a1_134 m1f_100 r1f_99], [zAr T 0 a2_135 7 r2f_101], z0_] _ _ := G.re rfl
          refine z_get C G clX3 7 rfl 3 (by decide) m_fl_RX11_306 rfl dX11_odds_46 ?_
          refine lv_if_ne (tgt := 54) hx hb dX11_odds_49 (by decide) (fun c_136 => ?_) (fun c_136 => ?_)
          · have c_136n : ¬ e3f_96.toInt = (0 : Int) := fun q => c_136 ((fa_eq _ _).mpr q)
            refine lv_aload_n hx hb dX11_odds_54 rfl (lv_at hl 1 rfl) ?_
            refine z_get C G clX11 0 rfl 9 (by decide) m_fl_RX11_65 rfl dX11_odds_55 ?_
            refine lv_aload_n hx hb dX11_odds_58 rfl (lv_at hl 1 rfl) ?_
            refine lv_iload_n hx hb dX11_odds_59 rfl (lv_at hl 2 rfl) ?_
            refine lv_aload hx hb dX11_odds_60 (lv_at hl 0 rfl) ?_
            have hX := h_121.resolve_left (fun q => absurd (congrArg Int32.toInt q.1) (by show ¬ _ = (0 : Int); omega))
            have hmk : ¬ mdA_70 = 0 := (h_122 hX.2.2.1).elim (fun q => q.2) (fun q => absurd q.1 (by have := hX.2.2.2; omega))
            have hzk : zMk mdA_70 n4A_79 (zPl cr0_ inn0_ k10_) = n4A_79 := by unfold zMk; rw [if_neg hmk]
            have hn9 : zMk mdA_70 n4A_79 (zPl cr0_ inn0_ k10_) ≤ 131072 := by rw [hzk]; exact zPw_le h_107
            refine z_Vq (bc := [[zO10 xo t im mk rd po co tr wa wb_ fi cd], wwA_80, z0_]) (br := [wt, z1_, wg0_, wg1_, wwB_92, [zO3 fi e0f_93 e1f_94 e2f_95 e3f_96 e4f_97 e5f_98 a1_134 a2_135], [zAr T 0 a1_134 m1f_100 r1f_99], [zAr T 0 a2_135 7 r2f_101]]) (As := [.int i1, .ref l0]) (rest := [.ref fi]) C G (c_f_waysInA l T xo t im mk rd po co tr wa wb_ fi cd i1 laA_69 mdA_70 wyA_71 pc_A_72 f1A_73 f2A_74 f3A_75 f4A_76 f5A_77 f6A_78 n4A_79 wwA_80 l0 cr0_ inn0_ k10_ k20_ k30_ k40_ z0_ h_103 hz0_ hI0_ h_107 h_104 (kaOk hI0_ hLq0).1 h_109 (by omega)) (kV_RX11_235 C.2.2.2.2 (Nat.le_of_ble_eq_true rfl) (Nat.le_of_ble_eq_true rfl)) [0, 5, 10] [0, 4, 4] rfl rfl (ci := 10) (qc := (RX11, TX11, 11)) rfl rfl (List.mem_flatten.mpr ⟨_, List.mem_of_getElem? (i := 0) rfl, List.mem_cons_self⟩) rfl rfl hl.1 dX11_odds_62 (Nat.le_of_ble_eq_true rfl) (by show _ + (6 * (zMk mdA_70 n4A_79 (zPl cr0_ inn0_ k10_) - n4A_79)) ≤ 6 * (zNA (i1.toInt = 0 ∧ 0 < (fk 0).toInt ∧ (0 ≤ i2.toInt ∧ i2.toInt < (fk 2).toInt ∧ i2.toInt < 2) ∧ (e0f.toInt = 0 ∨ ¬ e1f.toInt = i1.toInt ∨ ¬ e2f.toInt = i2.toInt)) mdA n4A (zPl cr0_ inn0_ k10_) - n4A) + 6 * (zNA (i1.toInt = 1 ∧ 1 < (fk 0).toInt ∧ (0 ≤ i2.toInt ∧ i2.toInt < (fk 2).toInt ∧ i2.toInt < 2) ∧ (e0f.toInt = 0 ∨ ¬ e1f.toInt = i1.toInt ∨ ¬ e2f.toInt = i2.toInt)) mdB n4B (zPl cr1_ inn1_ k11_) - n4B) + 2 * (zNF (i1.toInt = 1 ∧ 1 < (fk 0).toInt ∧ (0 ≤ i2.toInt ∧ i2.toInt < (fk 2).toInt ∧ i2.toInt < 2) ∧ (e0f.toInt = 0 ∨ ¬ e1f.toInt = i1.toInt ∨ ¬ e2f.toInt = i2.toInt)) (zNF (i1.toInt = 0 ∧ 0 < (fk 0).toInt ∧ (0 ≤ i2.toInt ∧ i2.toInt < (fk 2).toInt ∧ i2.toInt < 2) ∧ (e0f.toInt = 0 ∨ ¬ e1f.toInt = i1.toInt ∨ ¬ e2f.toInt = i2.toInt)) m1f (zMw mdA wyA cr0_ inn0_ k10_)) (zMw mdB wyB cr1_ inn1_ k11_) - m1f); omega) (fun r_151 b1 H locs hw G => ?_)
            refine zEx9 hw ?_
            intro w2_137 m2_138 wy2_139 pc2_140 g1_141 g2_142 g4_143 g5_144 g6_145
            refine zCu6 ?_
            intro hbs9 h_146 h_147 h_148 h_149 h_150
            clear hw
            subst hbs9
            have G : zS T A s.heap s [wt, z1_, wg0_, wg1_, wwB_92, [zO3 fi e0f_93 e1f_94 e2f_95 e3f_96 e4f_97 e5f_98 a1_134 a2_135], [zAr T 0 a1_134 m1f_100 r1f_99], [zAr T 0 a2_135 7 r2f_101], [zO10 xo t im mk rd po co tr wa wb_ fi cd], w2_137, z0_] _ _ := G
            subst h_146
            have hwy9 : 0 ≤ wy2_139.toInt ∧ wy2_139.toInt ≤ 16384 := by have q9 := zWy_in (inn := inn0_) hI0_; rw [h_148]; exact ⟨by omega, q9.2⟩
            refine lv_iload_n hx hb dX11_odds_65 rfl (lv_at hl 4 rfl) ?_
            refine lv_iload hx hb dX11_odds_66 (lv_at hl 5 rfl) ?_
            have hw_152 : bFit T fi e0f_93 e1f_94 e2f_95 e3f_96 e4f_97 e5f_98 r1f_99 m1f_100 r2f_101 [zO3 fi e0f_93 e1f_94 e2f_95 e3f_96 e4f_97 e5f_98 a1_134 a2_135, zAr T 0 a1_134 m1f_100 r1f_99, zAr T 0 a2_135 7 r2f_101] := ⟨a1_134, a2_135, rfl⟩
            have G : zS T A s.heap s [wt, z1_, wg0_, wg1_, wwB_92, [zO3 fi e0f_93 e1f_94 e2f_95 e3f_96 e4f_97 e5f_98 a1_134 a2_135, zAr T 0 a1_134 m1f_100 r1f_99, zAr T 0 a2_135 7 r2f_101], [zO10 xo t im mk rd po co tr wa wb_ fi cd], w2_137, z0_] _ _ := G.re rfl
            refine z_Vi (bc := [[zO3 fi e0f_93 e1f_94 e2f_95 e3f_96 e4f_97 e5f_98 a1_134 a2_135, zAr T 0 a1_134 m1f_100 r1f_99, zAr T 0 a2_135 7 r2f_101], w2_137]) (br := [wt, z1_, wg0_, wg1_, wwB_92, [zO10 xo t im mk rd po co tr wa wb_ fi cd], z0_]) (As := [.ref wa, .int a_, .int b_]) (rest := []) C G (c_pointing l T fi e0f_93 e1f_94 e2f_95 e3f_96 e4f_97 e5f_98 r1f_99 m1f_100 r2f_101 ([zO3 fi e0f_93 e1f_94 e2f_95 e3f_96 e4f_97 e5f_98 a1_134 a2_135, zAr T 0 a1_134 m1f_100 r1f_99, zAr T 0 a2_135 7 r2f_101]) wa l0 m2_138 wy2_139 pc2_140 g1_141 g2_142 f3A_75 g4_143 g5_144 g6_145 (zMk mdA_70 n4A_79 (zPl cr0_ inn0_ k10_)) w2_137 a_ b_ hw_152 h_147 hfm9) (kV_RX11_320 C.2.2.2.2 (Nat.le_of_ble_eq_true rfl) (Nat.le_of_ble_eq_true rfl)) [5, 7] [5, 1] rfl rfl (ci := 3) (qc := (RX3, TX3, 8)) rfl rfl (List.mem_flatten.mpr ⟨_, List.mem_of_getElem? (i := 0) rfl, (bFit_mem hw_152).choose_spec⟩) rfl rfl hl.1 dX11_odds_68 (Nat.le_of_ble_eq_true rfl) (by show _ + 0 ≤ 6 * (zNA (i1.toInt = 0 ∧ 0 < (fk 0).toInt ∧ (0 ≤ i2.toInt ∧ i2.toInt < (fk 2).toInt ∧ i2.toInt < 2) ∧ (e0f.toInt = 0 ∨ ¬ e1f.toInt = i1.toInt ∨ ¬ e2f.toInt = i2.toInt)) mdA n4A (zPl cr0_ inn0_ k10_) - n4A) + 6 * (zNA (i1.toInt = 1 ∧ 1 < (fk 0).toInt ∧ (0 ≤ i2.toInt ∧ i2.toInt < (fk 2).toInt ∧ i2.toInt < 2) ∧ (e0f.toInt = 0 ∨ ¬ e1f.toInt = i1.toInt ∨ ¬ e2f.toInt = i2.toInt)) mdB n4B (zPl cr1_ inn1_ k11_) - n4B) + 2 * (zNF (i1.toInt = 1 ∧ 1 < (fk 0).toInt ∧ (0 ≤ i2.toInt ∧ i2.toInt < (fk 2).toInt ∧ i2.toInt < 2) ∧ (e0f.toInt = 0 ∨ ¬ e1f.toInt = i1.toInt ∨ ¬ e2f.toInt = i2.toInt)) (zNF (i1.toInt = 0 ∧ 0 < (fk 0).toInt ∧ (0 ≤ i2.toInt ∧ i2.toInt < (fk 2).toInt ∧ i2.toInt < 2) ∧ (e0f.toInt = 0 ∨ ¬ e1f.toInt = i1.toInt ∨ ¬ e2f.toInt = i2.toInt)) m1f (zMw mdA wyA cr0_ inn0_ k10_)) (zMw mdB wyB cr1_ inn1_ k11_) - m1f); omega) (fun r_153 b1 H locs hw G => ?_)
            obtain rfl := hw
            have G : zS T A s.heap s [wt, z1_, wg0_, wg1_, wwB_92, [zO10 xo t im mk rd po co tr wa wb_ fi cd], z0_, [zO3 fi e0f_93 e1f_94 e2f_95 e3f_96 e4f_97 e5f_98 a1_134 a2_135, zAr T 0 a1_134 m1f_100 r1f_99, zAr T 0 a2_135 7 r2f_101], w2_137] _ _ := G
            refine lv_istore (lv' := [(7, .int r_153), (6, .ref l0), (0, .ref xo), (1, .int i1), (2, .int i2), (3, .int a_), (4, .int b_), (5, .int w_)]) hx hb dX11_odds_71 hl (by decide) (zLvf_h rfl) (fun ls hl => ?_)
            refine lv_iload hx hb dX11_odds_73 (lv_at hl 0 rfl) ?_
            refine lv_aload_n hx hb dX11_odds_75 rfl (lv_at hl 2 rfl) ?_
            refine z_get C G clX11 5 rfl 9 (by decide) m_fl_RX11_65 rfl dX11_odds_76 ?_
            have G : zS T A s.heap s [wt, z1_, wg0_, wg1_, wwB_92, [zO10 xo t im mk rd po co tr wa wb_ fi cd], z0_, [zO3 fi e0f_93 e1f_94 e2f_95 e3f_96 e4f_97 e5f_98 a1_134 a2_135], [zAr T 0 a1_134 m1f_100 r1f_99], [zAr T 0 a2_135 7 r2f_101], w2_137] _ _ := G.re rfl
            refine z_get C G clX3 7 rfl 3 (by decide) m_fl_RX11_306 rfl dX11_odds_79 ?_
            refine lv_iload hx hb dX11_odds_82 (lv_at hl 7 rfl) ?_
            refine z_Si (bc := []) (br := [wt, z1_, wg0_, wg1_, wwB_92, [zO10 xo t im mk rd po co tr wa wb_ fi cd], z0_, [zO3 fi e0f_93 e1f_94 e2f_95 e3f_96 e4f_97 e5f_98 a1_134 a2_135], [zAr T 0 a1_134 m1f_100 r1f_99], [zAr T 0 a2_135 7 r2f_101], w2_137]) (As := [.int r_153, .int e3f_96, .int w_]) (rest := []) C G (c_inLeastTerms l T r_153 e3f_96 w_) (kS_RX11_262 C.2.2.2.2 (Nat.le_of_ble_eq_true rfl) (Nat.le_of_ble_eq_true rfl)) [] [] rfl rfl rfl rfl hl.1 dX11_odds_84 (Nat.le_of_ble_eq_true rfl) (by show _ + 0 ≤ 6 * (zNA (i1.toInt = 0 ∧ 0 < (fk 0).toInt ∧ (0 ≤ i2.toInt ∧ i2.toInt < (fk 2).toInt ∧ i2.toInt < 2) ∧ (e0f.toInt = 0 ∨ ¬ e1f.toInt = i1.toInt ∨ ¬ e2f.toInt = i2.toInt)) mdA n4A (zPl cr0_ inn0_ k10_) - n4A) + 6 * (zNA (i1.toInt = 1 ∧ 1 < (fk 0).toInt ∧ (0 ≤ i2.toInt ∧ i2.toInt < (fk 2).toInt ∧ i2.toInt < 2) ∧ (e0f.toInt = 0 ∨ ¬ e1f.toInt = i1.toInt ∨ ¬ e2f.toInt = i2.toInt)) mdB n4B (zPl cr1_ inn1_ k11_) - n4B) + 2 * (zNF (i1.toInt = 1 ∧ 1 < (fk 0).toInt ∧ (0 ≤ i2.toInt ∧ i2.toInt < (fk 2).toInt ∧ i2.toInt < 2) ∧ (e0f.toInt = 0 ∨ ¬ e1f.toInt = i1.toInt ∨ ¬ e2f.toInt = i2.toInt)) (zNF (i1.toInt = 0 ∧ 0 < (fk 0).toInt ∧ (0 ≤ i2.toInt ∧ i2.toInt < (fk 2).toInt ∧ i2.toInt < 2) ∧ (e0f.toInt = 0 ∨ ¬ e1f.toInt = i1.toInt ∨ ¬ e2f.toInt = i2.toInt)) m1f (zMw mdA wyA cr0_ inn0_ k10_)) (zMw mdB wyB cr1_ inn1_ k11_) - m1f); omega) (fun r_154 b1 H locs hw G => ?_)
            obtain rfl := hw
            have G : zS T A s.heap s [wt, z1_, wg0_, wg1_, wwB_92, [zO10 xo t im mk rd po co tr wa wb_ fi cd], z0_, [zO3 fi e0f_93 e1f_94 e2f_95 e3f_96 e4f_97 e5f_98 a1_134 a2_135], [zAr T 0 a1_134 m1f_100 r1f_99], [zAr T 0 a2_135 7 r2f_101], w2_137] _ _ := G
            have hw_155 : bFit T fi e0f_93 e1f_94 e2f_95 e3f_96 e4f_97 e5f_98 r1f_99 m1f_100 r2f_101 [zO3 fi e0f_93 e1f_94 e2f_95 e3f_96 e4f_97 e5f_98 a1_134 a2_135, zAr T 0 a1_134 m1f_100 r1f_99, zAr T 0 a2_135 7 r2f_101] := ⟨a1_134, a2_135, rfl⟩
            have G : zS T A s.heap s [wt, z1_, wg0_, wg1_, wwB_92, [zO10 xo t im mk rd po co tr wa wb_ fi cd], z0_, [zO3 fi e0f_93 e1f_94 e2f_95 e3f_96 e4f_97 e5f_98 a1_134 a2_135, zAr T 0 a1_134 m1f_100 r1f_99, zAr T 0 a2_135 7 r2f_101], w2_137] _ _ := G.re rfl
            have G := G.sub (bs' := [[zO10 xo t im mk rd po co tr wa wb_ fi cd], wt, z0_, z1_, wg0_, wg1_, w2_137, wwB_92, [zO3 fi e0f_93 e1f_94 e2f_95 e3f_96 e4f_97 e5f_98 a1_134 a2_135, zAr T 0 a1_134 m1f_100 r1f_99, zAr T 0 a2_135 7 r2f_101]]) [5, 0, 6, 1, 2, 3, 8, 4, 7] rfl
            exact z_back hQz_ (z_iret C hr hlocks G (Nat.le_of_ble_eq_true rfl) (by omega) dX11_odds_87 ⟨l0, m2_138, wy2_139, pc2_140, g1_141, g2_142, f3A_75, g4_143, g5_144, g6_145, (zMk mdA_70 n4A_79 (zPl cr0_ inn0_ k10_)), w2_137, laB_81, mdB_82, wyB_83, pc_B_84, f1B_85, f2B_86, f3B_87, f4B_88, f5B_89, f6B_90, n4B_91, wwB_92, e0f_93, e1f_94, e2f_95, e3f_96, e4f_97, e5f_98, r1f_99, m1f_100, r2f_101, ([zO3 fi e0f_93 e1f_94 e2f_95 e3f_96 e4f_97 e5f_98 a1_134 a2_135, zAr T 0 a1_134 m1f_100 r1f_99, zAr T 0 a2_135 7 r2f_101]), rfl, h_147, (Or.inr rfl), hwy9, (hzk.trans h_106), (by rw [hzk]; exact h_107), (fun _ => h_149), (Or.inr h_150), h_110, h_111, h_112, h_113, h_114, h_115, h_116, hw_155, h_118, h_119, h_120, (fun q => (h_122 q).elim (fun w => Or.inl ⟨w.1, h_149⟩) (fun w => Or.inr ⟨w.1, w.2⟩)), h_123, h_124, h_125, h_126⟩)
          · have c_136n : e3f_96.toInt = (0 : Int) := (fa_eq _ _).mp c_136
            refine lv_iconst (v := (-1)) hx hb dX11_odds_52 (by decide) ?_
            have hw_156 : bFit T fi e0f_93 e1f_94 e2f_95 e3f_96 e4f_97 e5f_98 r1f_99 m1f_100 r2f_101 [zO3 fi e0f_93 e1f_94 e2f_95 e3f_96 e4f_97 e5f_98 a1_134 a2_135, zAr T 0 a1_134 m1f_100 r1f_99, zAr T 0 a2_135 7 r2f_101] := ⟨a1_134, a2_135, rfl⟩
            have G : zS T A s.heap s [[zO10 xo t im mk rd po co tr wa wb_ fi cd], wt, z1_, wg0_, wg1_, wwA_80, wwB_92, [zO3 fi e0f_93 e1f_94 e2f_95 e3f_96 e4f_97 e5f_98 a1_134 a2_135, zAr T 0 a1_134 m1f_100 r1f_99, zAr T 0 a2_135 7 r2f_101], z0_] _ _ := G.re rfl
            have G := G.sub (bs' := [[zO10 xo t im mk rd po co tr wa wb_ fi cd], wt, z0_, z1_, wg0_, wg1_, wwA_80, wwB_92, [zO3 fi e0f_93 e1f_94 e2f_95 e3f_96 e4f_97 e5f_98 a1_134 a2_135, zAr T 0 a1_134 m1f_100 r1f_99, zAr T 0 a2_135 7 r2f_101]]) [0, 1, 8, 2, 3, 4, 5, 6, 7] rfl
            exact z_back hQz_ (z_iret C hr hlocks G (Nat.le_of_ble_eq_true rfl) (by omega) dX11_odds_53 ⟨laA_69, mdA_70, wyA_71, pc_A_72, f1A_73, f2A_74, f3A_75, f4A_76, f5A_77, f6A_78, n4A_79, wwA_80, laB_81, mdB_82, wyB_83, pc_B_84, f1B_85, f2B_86, f3B_87, f4B_88, f5B_89, f6B_90, n4B_91, wwB_92, e0f_93, e1f_94, e2f_95, e3f_96, e4f_97, e5f_98, r1f_99, m1f_100, r2f_101, ([zO3 fi e0f_93 e1f_94 e2f_95 e3f_96 e4f_97 e5f_98 a1_134 a2_135, zAr T 0 a1_134 m1f_100 r1f_99, zAr T 0 a2_135 7 r2f_101]), rfl, h_103, h_104, h_105, h_106, h_107, h_108, h_109, h_110, h_111, h_112, h_113, h_114, h_115, h_116, hw_156, h_118, h_119, h_120, h_122, h_123, h_124, h_125, h_126⟩)
        · have c_133n : ¬ b_.toInt < (zWays cr0_ inn0_ k10_ a_).toInt := fun q => c_133 ((fa_lt _ _).mpr q)
          refine lv_iconst (v := (-1)) hx hb dX11_odds_40 (by decide) ?_
          have G := G.sub (bs' := [[zO10 xo t im mk rd po co tr wa wb_ fi cd], wt, z0_, z1_, wg0_, wg1_, wwA_80, wwB_92, wff_102]) [0, 1, 8, 2, 3, 4, 5, 6, 7] rfl
          exact z_back hQz_ (z_iret C hr hlocks G (Nat.le_of_ble_eq_true rfl) (by omega) dX11_odds_41 ⟨laA_69, mdA_70, wyA_71, pc_A_72, f1A_73, f2A_74, f3A_75, f4A_76, f5A_77, f6A_78, n4A_79, wwA_80, laB_81, mdB_82, wyB_83, pc_B_84, f1B_85, f2B_86, f3B_87, f4B_88, f5B_89, f6B_90, n4B_91, wwB_92, e0f_93, e1f_94, e2f_95, e3f_96, e4f_97, e5f_98, r1f_99, m1f_100, r2f_101, wff_102, rfl, h_103, h_104, h_105, h_106, h_107, h_108, h_109, h_110, h_111, h_112, h_113, h_114, h_115, h_116, h_117, h_118, h_119, h_120, h_122, h_123, h_124, h_125, h_126⟩)
  · have h_6 : i1.toInt = 1 := h_6
    have h_7 : 1 < (fk 0).toInt := h_7
    refine lv_astore (lv' := [(6, .ref l1), (0, .ref xo), (1, .int i1), (2, .int i2), (3, .int a_), (4, .int b_), (5, .int w_)]) hx hb dX11_odds_8 hl (by decide) (zLvf_h rfl) (fun ls hl => ?_)
    refine lv_aload_n hx hb dX11_odds_10 rfl (lv_at hl 1 rfl) ?_
    refine lv_iload_n hx hb dX11_odds_11 rfl (lv_at hl 2 rfl) ?_
    refine lv_iload_n hx hb dX11_odds_12 rfl (lv_at hl 3 rfl) ?_
    refine z_Vi (bc := [[zO10 xo t im mk rd po co tr wa wb_ fi cd], wt, z0_, z1_, wg0_, wg1_, wwA, wwB, wff]) (br := []) (As := [.int i1, .int i2]) (rest := []) C G (c_e_fit l T xo t im mk rd po co tr wa wb_ fi cd l0 l1 d0 d1 g0 g1 ln fl pl ft fk wt cr0_ inn0_ k10_ k20_ k30_ k40_ z0_ cr1_ inn1_ k11_ k21_ k31_ k41_ z1_ gg0_ q10_ q20_ wg0_ gg1_ q11_ q21_ wg1_ laA mdA wyA pc_A f1A f2A f3A f4A f5A f6A n4A wwA laB mdB wyB pc_B f1B f2B f3B f4B f5B f6B n4B wwB e0f e1f e2f e3f e4f e5f r1f m1f r2f wff i1 i2 ht (by first | with_reducible assumption | with_reducible rfl | omega | assumption | rfl) hz0_ (by first | with_reducible assumption | with_reducible rfl | omega | assumption | rfl) hz1_ (by first | with_reducible assumption | with_reducible rfl | omega | assumption | rfl) hg0_ hg1_ hwwA (by first | with_reducible assumption | with_reducible rfl | omega | assumption | rfl) (by first | with_reducible assumption | with_reducible rfl | omega | assumption | rfl) (by first | with_reducible assumption | with_reducible rfl | omega | assumption | rfl) (by first | with_reducible assumption | with_reducible rfl | omega | assumption | rfl) (by first | with_reducible assumption | with_reducible rfl | omega | assumption | rfl) hwwB (by first | with_reducible assumption | with_reducible rfl | omega | assumption | rfl) (by first | with_reducible assumption | with_reducible rfl | omega | assumption | rfl) (by first | with_reducible assumption | with_reducible rfl | omega | assumption | rfl) (by first | with_reducible assumption | with_reducible rfl | omega | assumption | rfl) (by first | with_reducible assumption | with_reducible rfl | omega | assumption | rfl) hwff hfw hf3 hFI hFt00 hFt01 hFt10 hFt11 hGg0 hGg1) (kV_RX11_302 C.2.2.2.2 (Nat.le_of_ble_eq_true rfl) (Nat.le_of_ble_eq_true rfl)) [0, 8, 1, 2, 3, 4, 5, 6, 7] [0, 0, 0, 0, 0, 0, 0, 0, 0] rfl rfl (ci := 10) (qc := (RX11, TX11, 11)) rfl rfl (List.mem_flatten.mpr ⟨_, List.mem_of_getElem? (i := 0) rfl, List.mem_cons_self⟩) rfl rfl hl.1 dX11_odds_13 (Nat.le_of_ble_eq_true rfl) (by show _ + (6 * (zNA (i1.toInt = 0 ∧ 0 < (fk 0).toInt ∧ (0 ≤ i2.toInt ∧ i2.toInt < (fk 2).toInt ∧ i2.toInt < 2) ∧ (e0f.toInt = 0 ∨ ¬ e1f.toInt = i1.toInt ∨ ¬ e2f.toInt = i2.toInt)) mdA n4A (zPl cr0_ inn0_ k10_) - n4A) + 6 * (zNA (i1.toInt = 1 ∧ 1 < (fk 0).toInt ∧ (0 ≤ i2.toInt ∧ i2.toInt < (fk 2).toInt ∧ i2.toInt < 2) ∧ (e0f.toInt = 0 ∨ ¬ e1f.toInt = i1.toInt ∨ ¬ e2f.toInt = i2.toInt)) mdB n4B (zPl cr1_ inn1_ k11_) - n4B) + 2 * (zNF (i1.toInt = 1 ∧ 1 < (fk 0).toInt ∧ (0 ≤ i2.toInt ∧ i2.toInt < (fk 2).toInt ∧ i2.toInt < 2) ∧ (e0f.toInt = 0 ∨ ¬ e1f.toInt = i1.toInt ∨ ¬ e2f.toInt = i2.toInt)) (zNF (i1.toInt = 0 ∧ 0 < (fk 0).toInt ∧ (0 ≤ i2.toInt ∧ i2.toInt < (fk 2).toInt ∧ i2.toInt < 2) ∧ (e0f.toInt = 0 ∨ ¬ e1f.toInt = i1.toInt ∨ ¬ e2f.toInt = i2.toInt)) m1f (zMw mdA wyA cr0_ inn0_ k10_)) (zMw mdB wyB cr1_ inn1_ k11_) - m1f)) ≤ 6 * (zNA (i1.toInt = 0 ∧ 0 < (fk 0).toInt ∧ (0 ≤ i2.toInt ∧ i2.toInt < (fk 2).toInt ∧ i2.toInt < 2) ∧ (e0f.toInt = 0 ∨ ¬ e1f.toInt = i1.toInt ∨ ¬ e2f.toInt = i2.toInt)) mdA n4A (zPl cr0_ inn0_ k10_) - n4A) + 6 * (zNA (i1.toInt = 1 ∧ 1 < (fk 0).toInt ∧ (0 ≤ i2.toInt ∧ i2.toInt < (fk 2).toInt ∧ i2.toInt < 2) ∧ (e0f.toInt = 0 ∨ ¬ e1f.toInt = i1.toInt ∨ ¬ e2f.toInt = i2.toInt)) mdB n4B (zPl cr1_ inn1_ k11_) - n4B) + 2 * (zNF (i1.toInt = 1 ∧ 1 < (fk 0).toInt ∧ (0 ≤ i2.toInt ∧ i2.toInt < (fk 2).toInt ∧ i2.toInt < 2) ∧ (e0f.toInt = 0 ∨ ¬ e1f.toInt = i1.toInt ∨ ¬ e2f.toInt = i2.toInt)) (zNF (i1.toInt = 0 ∧ 0 < (fk 0).toInt ∧ (0 ≤ i2.toInt ∧ i2.toInt < (fk 2).toInt ∧ i2.toInt < 2) ∧ (e0f.toInt = 0 ∨ ¬ e1f.toInt = i1.toInt ∨ ¬ e2f.toInt = i2.toInt)) m1f (zMw mdA wyA cr0_ inn0_ k10_)) (zMw mdB wyB cr1_ inn1_ k11_) - m1f); omega) (fun r_216 b1 H locs hw G => ?_)
    refine zEx34 hw ?_
    intro laA_157 mdA_158 wyA_159 pc_A_160 f1A_161 f2A_162 f3A_163 f4A_164 f5A_165 f6A_166 n4A_167 wwA_168 laB_169 mdB_170 wyB_171 pc_B_172 f1B_173 f2B_174 f3B_175 f4B_176 f5B_177 f6B_178 n4B_179 wwB_180 e0f_181 e1f_182 e2f_183 e3f_184 e4f_185 e5f_186 r1f_187 m1f_188 r2f_189 wff_190
    refine zCu26 ?_
    intro hbs9 h_191 h_192 h_193 h_194 h_195 h_196 h_197 h_198 h_199 h_200 h_201 h_202 h_203 h_204 h_205 h_206 h_207 h_208 h_209 h_210 h_211 h_212 h_213 h_214 h_215
    clear hw
    subst hbs9
    have G : zS T A s.heap s [[zO10 xo t im mk rd po co tr wa wb_ fi cd], wt, z0_, z1_, wg0_, wg1_, wwA_168, wwB_180, wff_190] _ _ := G
    replace h_192 : zHd ((mdA_158 = 0 ∨ laA_157 = l0)) := h_192
    replace h_196 : zHd ((¬ mdA = 0 → ¬ mdA_158 = 0)) := h_196
    replace h_197 : zHd ((mdA_158 = 0 ∨ zTab cr0_ inn0_ k10_ k20_ wyA_159 pc_A_160 f1A_161 f2A_162 f5A_165 n4A_167)) := h_197
    replace h_199 : zHd ((mdB_170 = 0 ∨ laB_169 = l1)) := h_199
    replace h_203 : zHd ((¬ mdB = 0 → ¬ mdB_170 = 0)) := h_203
    replace h_204 : zHd ((mdB_170 = 0 ∨ zTab cr1_ inn1_ k11_ k21_ wyB_171 pc_B_172 f1B_173 f2B_174 f5B_177 n4B_179)) := h_204
    replace h_210 : zHd ((¬ e0f_181 = 0 → e1f_182.toInt = 0 ∧ ¬ mdA_158 = 0 ∨ e1f_182.toInt = 1 ∧ ¬ mdB_170 = 0)) := h_210
    have hfm9 : m1f_188 ≤ 16384 := zFw_le h_207
    refine lv_if_eq (tgt := 40) hx hb dX11_odds_16 (by decide) (fun c_217 => ?_) (fun c_217 => ?_)
    · have c_217n : r_216.toInt = (0 : Int) := (fa_eq _ _).mp c_217
      refine lv_iconst (v := (-1)) hx hb dX11_odds_40 (by decide) ?_
      exact z_back hQz_ (z_iret C hr hlocks G (Nat.le_of_ble_eq_true rfl) (by omega) dX11_odds_41 ⟨laA_157, mdA_158, wyA_159, pc_A_160, f1A_161, f2A_162, f3A_163, f4A_164, f5A_165, f6A_166, n4A_167, wwA_168, laB_169, mdB_170, wyB_171, pc_B_172, f1B_173, f2B_174, f3B_175, f4B_176, f5B_177, f6B_178, n4B_179, wwB_180, e0f_181, e1f_182, e2f_183, e3f_184, e4f_185, e5f_186, r1f_187, m1f_188, r2f_189, wff_190, rfl, h_191, h_192, h_193, h_194, h_195, h_196, h_197, h_198, h_199, h_200, h_201, h_202, h_203, h_204, h_205, h_206, h_207, h_208, h_210, h_211, h_212, h_213, h_214⟩)
    · have c_217n : ¬ r_216.toInt = (0 : Int) := fun q => c_217 ((fa_eq _ _).mpr q)
      refine lv_aload hx hb dX11_odds_19 (lv_at hl 0 rfl) ?_
      refine lv_ifnull hx hb dX11_odds_21 ?_
      refine lv_iload hx hb dX11_odds_24 (lv_at hl 5 rfl) ?_
      refine lv_if_lt (tgt := 40) hx hb dX11_odds_26 (by decide) (fun c_218 => ?_) (fun c_218 => ?_)
      · have c_218n : b_.toInt < (0 : Int) := (fa_lt _ _).mp c_218
        refine lv_iconst (v := (-1)) hx hb dX11_odds_40 (by decide) ?_
        exact z_back hQz_ (z_iret C hr hlocks G (Nat.le_of_ble_eq_true rfl) (by omega) dX11_odds_41 ⟨laA_157, mdA_158, wyA_159, pc_A_160, f1A_161, f2A_162, f3A_163, f4A_164, f5A_165, f6A_166, n4A_167, wwA_168, laB_169, mdB_170, wyB_171, pc_B_172, f1B_173, f2B_174, f3B_175, f4B_176, f5B_177, f6B_178, n4B_179, wwB_180, e0f_181, e1f_182, e2f_183, e3f_184, e4f_185, e5f_186, r1f_187, m1f_188, r2f_189, wff_190, rfl, h_191, h_192, h_193, h_194, h_195, h_196, h_197, h_198, h_199, h_200, h_201, h_202, h_203, h_204, h_205, h_206, h_207, h_208, h_210, h_211, h_212, h_213, h_214⟩)
      · have c_218n : ¬ b_.toInt < (0 : Int) := fun q => c_218 ((fa_lt _ _).mpr q)
        refine lv_iload hx hb dX11_odds_29 (lv_at hl 5 rfl) ?_
        refine lv_aload hx hb dX11_odds_31 (lv_at hl 0 rfl) ?_
        refine lv_iload_n hx hb dX11_odds_33 rfl (lv_at hl 4 rfl) ?_
        refine z_Vi (bc := [z1_]) (br := [[zO10 xo t im mk rd po co tr wa wb_ fi cd], wt, z0_, wg0_, wg1_, wwA_168, wwB_180, wff_190]) (As := [.int a_]) (rest := [.int b_]) C G (c_waysOut l T l1 cr1_ inn1_ k11_ k21_ k31_ k41_ z1_ a_ hz1_) (kV_RX11_221 C.2.2.2.2 (Nat.le_of_ble_eq_true rfl) (Nat.le_of_ble_eq_true rfl)) [3] [3] rfl rfl (ci := 4) (qc := (RX4, TX4, 6)) rfl rfl (List.mem_flatten.mpr ⟨_, List.mem_of_getElem? (i := 0) rfl, (bLand_mem hz1_).choose_spec⟩) rfl rfl hl.1 dX11_odds_34 (Nat.le_of_ble_eq_true rfl) (by show _ + 0 ≤ 6 * (zNA (i1.toInt = 0 ∧ 0 < (fk 0).toInt ∧ (0 ≤ i2.toInt ∧ i2.toInt < (fk 2).toInt ∧ i2.toInt < 2) ∧ (e0f.toInt = 0 ∨ ¬ e1f.toInt = i1.toInt ∨ ¬ e2f.toInt = i2.toInt)) mdA n4A (zPl cr0_ inn0_ k10_) - n4A) + 6 * (zNA (i1.toInt = 1 ∧ 1 < (fk 0).toInt ∧ (0 ≤ i2.toInt ∧ i2.toInt < (fk 2).toInt ∧ i2.toInt < 2) ∧ (e0f.toInt = 0 ∨ ¬ e1f.toInt = i1.toInt ∨ ¬ e2f.toInt = i2.toInt)) mdB n4B (zPl cr1_ inn1_ k11_) - n4B) + 2 * (zNF (i1.toInt = 1 ∧ 1 < (fk 0).toInt ∧ (0 ≤ i2.toInt ∧ i2.toInt < (fk 2).toInt ∧ i2.toInt < 2) ∧ (e0f.toInt = 0 ∨ ¬ e1f.toInt = i1.toInt ∨ ¬ e2f.toInt = i2.toInt)) (zNF (i1.toInt = 0 ∧ 0 < (fk 0).toInt ∧ (0 ≤ i2.toInt ∧ i2.toInt < (fk 2).toInt ∧ i2.toInt < 2) ∧ (e0f.toInt = 0 ∨ ¬ e1f.toInt = i1.toInt ∨ ¬ e2f.toInt = i2.toInt)) m1f (zMw mdA wyA cr0_ inn0_ k10_)) (zMw mdB wyB cr1_ inn1_ k11_) - m1f); omega) (fun r_220 b1 H locs hw G => ?_)
        refine zAn2 hw ?_
        intro hbs9 h_219
        clear hw
        subst hbs9
        have G : zS T A s.heap s [[zO10 xo t im mk rd po co tr wa wb_ fi cd], wt, z0_, wg0_, wg1_, wwA_168, wwB_180, wff_190, z1_] _ _ := G
        subst h_219
        refine lv_icmp_lt (tgt := 42) hx hb dX11_odds_37 (by decide) (fun c_221 => ?_) (fun c_221 => ?_)
        · have c_221n : b_.toInt < (zWays cr1_ inn1_ k11_ a_).toInt := (fa_lt _ _).mp c_221
          refine lv_aload_n hx hb dX11_odds_42 rfl (lv_at hl 1 rfl) ?_
          refine z_get C G clX11 0 rfl 9 (by decide) m_fl_RX11_65 rfl dX11_odds_43 ?_
          refine zEx2 h_205 ?_
          intro a1_222 a2_223 hbs9
          clear h_205
          subst hbs9
          have G : zS T A s.heap s [[zO10 xo t im mk rd po co tr wa wb_ fi cd], wt, z0_, wg0_, wg1_, wwA_168, wwB_180, [zO3 fi e0f_181 e1f_182 e2f_183 e3f_184 e4f_185 e5f_186 a1_222 a2_223], [zAr T 0 a1_222 m1f_188 r1f_187], [zAr T 0 a2_223 7 r2f_189], z1_] _ _ := G.re rfl
          refine z_get C G clX3 7 rfl 3 (by decide) m_fl_RX11_306 rfl dX11_odds_46 ?_
          refine lv_if_ne (tgt := 54) hx hb dX11_odds_49 (by decide) (fun c_224 => ?_) (fun c_224 => ?_)
          · have c_224n : ¬ e3f_184.toInt = (0 : Int) := fun q => c_224 ((fa_eq _ _).mpr q)
            refine lv_aload_n hx hb dX11_odds_54 rfl (lv_at hl 1 rfl) ?_
            refine z_get C G clX11 0 rfl 9 (by decide) m_fl_RX11_65 rfl dX11_odds_55 ?_
            refine lv_aload_n hx hb dX11_odds_58 rfl (lv_at hl 1 rfl) ?_
            refine lv_iload_n hx hb dX11_odds_59 rfl (lv_at hl 2 rfl) ?_
            refine lv_aload hx hb dX11_odds_60 (lv_at hl 0 rfl) ?_
            have hX := h_209.resolve_left (fun q => absurd (congrArg Int32.toInt q.1) (by show ¬ _ = (0 : Int); omega))
            have hmk : ¬ mdB_170 = 0 := (h_210 hX.2.2.1).elim (fun q => absurd q.1 (by have := hX.2.2.2; omega)) (fun q => q.2)
            have hzk : zMk mdB_170 n4B_179 (zPl cr1_ inn1_ k11_) = n4B_179 := by unfold zMk; rw [if_neg hmk]
            have hn9 : zMk mdB_170 n4B_179 (zPl cr1_ inn1_ k11_) ≤ 131072 := by rw [hzk]; exact zPw_le h_202
            refine z_Vq (bc := [[zO10 xo t im mk rd po co tr wa wb_ fi cd], wwB_180, z1_]) (br := [wt, z0_, wg0_, wg1_, wwA_168, [zO3 fi e0f_181 e1f_182 e2f_183 e3f_184 e4f_185 e5f_186 a1_222 a2_223], [zAr T 0 a1_222 m1f_188 r1f_187], [zAr T 0 a2_223 7 r2f_189]]) (As := [.int i1, .ref l1]) (rest := [.ref fi]) C G (c_f_waysInB l T xo t im mk rd po co tr wa wb_ fi cd i1 laB_169 mdB_170 wyB_171 pc_B_172 f1B_173 f2B_174 f3B_175 f4B_176 f5B_177 f6B_178 n4B_179 wwB_180 l1 cr1_ inn1_ k11_ k21_ k31_ k41_ z1_ h_198 hz1_ hI1_ h_202 h_199 (kaOk hI1_ hLq1).1 h_204 (by omega)) (kV_RX11_235 C.2.2.2.2 (Nat.le_of_ble_eq_true rfl) (Nat.le_of_ble_eq_true rfl)) [0, 6, 10] [0, 5, 3] rfl rfl (ci := 10) (qc := (RX11, TX11, 11)) rfl rfl (List.mem_flatten.mpr ⟨_, List.mem_of_getElem? (i := 0) rfl, List.mem_cons_self⟩) rfl rfl hl.1 dX11_odds_62 (Nat.le_of_ble_eq_true rfl) (by show _ + (6 * (zMk mdB_170 n4B_179 (zPl cr1_ inn1_ k11_) - n4B_179)) ≤ 6 * (zNA (i1.toInt = 0 ∧ 0 < (fk 0).toInt ∧ (0 ≤ i2.toInt ∧ i2.toInt < (fk 2).toInt ∧ i2.toInt < 2) ∧ (e0f.toInt = 0 ∨ ¬ e1f.toInt = i1.toInt ∨ ¬ e2f.toInt = i2.toInt)) mdA n4A (zPl cr0_ inn0_ k10_) - n4A) + 6 * (zNA (i1.toInt = 1 ∧ 1 < (fk 0).toInt ∧ (0 ≤ i2.toInt ∧ i2.toInt < (fk 2).toInt ∧ i2.toInt < 2) ∧ (e0f.toInt = 0 ∨ ¬ e1f.toInt = i1.toInt ∨ ¬ e2f.toInt = i2.toInt)) mdB n4B (zPl cr1_ inn1_ k11_) - n4B) + 2 * (zNF (i1.toInt = 1 ∧ 1 < (fk 0).toInt ∧ (0 ≤ i2.toInt ∧ i2.toInt < (fk 2).toInt ∧ i2.toInt < 2) ∧ (e0f.toInt = 0 ∨ ¬ e1f.toInt = i1.toInt ∨ ¬ e2f.toInt = i2.toInt)) (zNF (i1.toInt = 0 ∧ 0 < (fk 0).toInt ∧ (0 ≤ i2.toInt ∧ i2.toInt < (fk 2).toInt ∧ i2.toInt < 2) ∧ (e0f.toInt = 0 ∨ ¬ e1f.toInt = i1.toInt ∨ ¬ e2f.toInt = i2.toInt)) m1f (zMw mdA wyA cr0_ inn0_ k10_)) (zMw mdB wyB cr1_ inn1_ k11_) - m1f); omega) (fun r_239 b1 H locs hw G => ?_)
            refine zEx9 hw ?_
            intro w2_225 m2_226 wy2_227 pc2_228 g1_229 g2_230 g4_231 g5_232 g6_233
            refine zCu6 ?_
            intro hbs9 h_234 h_235 h_236 h_237 h_238
            clear hw
            subst hbs9
            have G : zS T A s.heap s [wt, z0_, wg0_, wg1_, wwA_168, [zO3 fi e0f_181 e1f_182 e2f_183 e3f_184 e4f_185 e5f_186 a1_222 a2_223], [zAr T 0 a1_222 m1f_188 r1f_187], [zAr T 0 a2_223 7 r2f_189], [zO10 xo t im mk rd po co tr wa wb_ fi cd], w2_225, z1_] _ _ := G
            subst h_234
            have hwy9 : 0 ≤ wy2_227.toInt ∧ wy2_227.toInt ≤ 16384 := by have q9 := zWy_in (inn := inn1_) hI1_; rw [h_236]; exact ⟨by omega, q9.2⟩
            refine lv_iload_n hx hb dX11_odds_65 rfl (lv_at hl 4 rfl) ?_
            refine lv_iload hx hb dX11_odds_66 (lv_at hl 5 rfl) ?_
            have hw_240 : bFit T fi e0f_181 e1f_182 e2f_183 e3f_184 e4f_185 e5f_186 r1f_187 m1f_188 r2f_189 [zO3 fi e0f_181 e1f_182 e2f_183 e3f_184 e4f_185 e5f_186 a1_222 a2_223, zAr T 0 a1_222 m1f_188 r1f_187, zAr T 0 a2_223 7 r2f_189] := ⟨a1_222, a2_223, rfl⟩
            have G : zS T A s.heap s [wt, z0_, wg0_, wg1_, wwA_168, [zO3 fi e0f_181 e1f_182 e2f_183 e3f_184 e4f_185 e5f_186 a1_222 a2_223, zAr T 0 a1_222 m1f_188 r1f_187, zAr T 0 a2_223 7 r2f_189], [zO10 xo t im mk rd po co tr wa wb_ fi cd], w2_225, z1_] _ _ := G.re rfl
            refine z_Vi (bc := [[zO3 fi e0f_181 e1f_182 e2f_183 e3f_184 e4f_185 e5f_186 a1_222 a2_223, zAr T 0 a1_222 m1f_188 r1f_187, zAr T 0 a2_223 7 r2f_189], w2_225]) (br := [wt, z0_, wg0_, wg1_, wwA_168, [zO10 xo t im mk rd po co tr wa wb_ fi cd], z1_]) (As := [.ref wb_, .int a_, .int b_]) (rest := []) C G (c_pointing l T fi e0f_181 e1f_182 e2f_183 e3f_184 e4f_185 e5f_186 r1f_187 m1f_188 r2f_189 ([zO3 fi e0f_181 e1f_182 e2f_183 e3f_184 e4f_185 e5f_186 a1_222 a2_223, zAr T 0 a1_222 m1f_188 r1f_187, zAr T 0 a2_223 7 r2f_189]) wb_ l1 m2_226 wy2_227 pc2_228 g1_229 g2_230 f3B_175 g4_231 g5_232 g6_233 (zMk mdB_170 n4B_179 (zPl cr1_ inn1_ k11_)) w2_225 a_ b_ hw_240 h_235 hfm9) (kV_RX11_320 C.2.2.2.2 (Nat.le_of_ble_eq_true rfl) (Nat.le_of_ble_eq_true rfl)) [5, 7] [5, 1] rfl rfl (ci := 3) (qc := (RX3, TX3, 8)) rfl rfl (List.mem_flatten.mpr ⟨_, List.mem_of_getElem? (i := 0) rfl, (bFit_mem hw_240).choose_spec⟩) rfl rfl hl.1 dX11_odds_68 (Nat.le_of_ble_eq_true rfl) (by show _ + 0 ≤ 6 * (zNA (i1.toInt = 0 ∧ 0 < (fk 0).toInt ∧ (0 ≤ i2.toInt ∧ i2.toInt < (fk 2).toInt ∧ i2.toInt < 2) ∧ (e0f.toInt = 0 ∨ ¬ e1f.toInt = i1.toInt ∨ ¬ e2f.toInt = i2.toInt)) mdA n4A (zPl cr0_ inn0_ k10_) - n4A) + 6 * (zNA (i1.toInt = 1 ∧ 1 < (fk 0).toInt ∧ (0 ≤ i2.toInt ∧ i2.toInt < (fk 2).toInt ∧ i2.toInt < 2) ∧ (e0f.toInt = 0 ∨ ¬ e1f.toInt = i1.toInt ∨ ¬ e2f.toInt = i2.toInt)) mdB n4B (zPl cr1_ inn1_ k11_) - n4B) + 2 * (zNF (i1.toInt = 1 ∧ 1 < (fk 0).toInt ∧ (0 ≤ i2.toInt ∧ i2.toInt < (fk 2).toInt ∧ i2.toInt < 2) ∧ (e0f.toInt = 0 ∨ ¬ e1f.toInt = i1.toInt ∨ ¬ e2f.toInt = i2.toInt)) (zNF (i1.toInt = 0 ∧ 0 < (fk 0).toInt ∧ (0 ≤ i2.toInt ∧ i2.toInt < (fk 2).toInt ∧ i2.toInt < 2) ∧ (e0f.toInt = 0 ∨ ¬ e1f.toInt = i1.toInt ∨ ¬ e2f.toInt = i2.toInt)) m1f (zMw mdA wyA cr0_ inn0_ k10_)) (zMw mdB wyB cr1_ inn1_ k11_) - m1f); omega) (fun r_241 b1 H locs hw G => ?_)
            obtain rfl := hw
            have G : zS T A s.heap s [wt, z0_, wg0_, wg1_, wwA_168, [zO10 xo t im mk rd po co tr wa wb_ fi cd], z1_, [zO3 fi e0f_181 e1f_182 e2f_183 e3f_184 e4f_185 e5f_186 a1_222 a2_223, zAr T 0 a1_222 m1f_188 r1f_187, zAr T 0 a2_223 7 r2f_189], w2_225] _ _ := G
            refine lv_istore (lv' := [(7, .int r_241), (6, .ref l1), (0, .ref xo), (1, .int i1), (2, .int i2), (3, .int a_), (4, .int b_), (5, .int w_)]) hx hb dX11_odds_71 hl (by decide) (zLvf_h rfl) (fun ls hl => ?_)
            refine lv_iload hx hb dX11_odds_73 (lv_at hl 0 rfl) ?_
            refine lv_aload_n hx hb dX11_odds_75 rfl (lv_at hl 2 rfl) ?_
            refine z_get C G clX11 5 rfl 9 (by decide) m_fl_RX11_65 rfl dX11_odds_76 ?_
            have G : zS T A s.heap s [wt, z0_, wg0_, wg1_, wwA_168, [zO10 xo t im mk rd po co tr wa wb_ fi cd], z1_, [zO3 fi e0f_181 e1f_182 e2f_183 e3f_184 e4f_185 e5f_186 a1_222 a2_223], [zAr T 0 a1_222 m1f_188 r1f_187], [zAr T 0 a2_223 7 r2f_189], w2_225] _ _ := G.re rfl
            refine z_get C G clX3 7 rfl 3 (by decide) m_fl_RX11_306 rfl dX11_odds_79 ?_
            refine lv_iload hx hb dX11_odds_82 (lv_at hl 7 rfl) ?_
            refine z_Si (bc := []) (br := [wt, z0_, wg0_, wg1_, wwA_168, [zO10 xo t im mk rd po co tr wa wb_ fi cd], z1_, [zO3 fi e0f_181 e1f_182 e2f_183 e3f_184 e4f_185 e5f_186 a1_222 a2_223], [zAr T 0 a1_222 m1f_188 r1f_187], [zAr T 0 a2_223 7 r2f_189], w2_225]) (As := [.int r_241, .int e3f_184, .int w_]) (rest := []) C G (c_inLeastTerms l T r_241 e3f_184 w_) (kS_RX11_262 C.2.2.2.2 (Nat.le_of_ble_eq_true rfl) (Nat.le_of_ble_eq_true rfl)) [] [] rfl rfl rfl rfl hl.1 dX11_odds_84 (Nat.le_of_ble_eq_true rfl) (by show _ + 0 ≤ 6 * (zNA (i1.toInt = 0 ∧ 0 < (fk 0).toInt ∧ (0 ≤ i2.toInt ∧ i2.toInt < (fk 2).toInt ∧ i2.toInt < 2) ∧ (e0f.toInt = 0 ∨ ¬ e1f.toInt = i1.toInt ∨ ¬ e2f.toInt = i2.toInt)) mdA n4A (zPl cr0_ inn0_ k10_) - n4A) + 6 * (zNA (i1.toInt = 1 ∧ 1 < (fk 0).toInt ∧ (0 ≤ i2.toInt ∧ i2.toInt < (fk 2).toInt ∧ i2.toInt < 2) ∧ (e0f.toInt = 0 ∨ ¬ e1f.toInt = i1.toInt ∨ ¬ e2f.toInt = i2.toInt)) mdB n4B (zPl cr1_ inn1_ k11_) - n4B) + 2 * (zNF (i1.toInt = 1 ∧ 1 < (fk 0).toInt ∧ (0 ≤ i2.toInt ∧ i2.toInt < (fk 2).toInt ∧ i2.toInt < 2) ∧ (e0f.toInt = 0 ∨ ¬ e1f.toInt = i1.toInt ∨ ¬ e2f.toInt = i2.toInt)) (zNF (i1.toInt = 0 ∧ 0 < (fk 0).toInt ∧ (0 ≤ i2.toInt ∧ i2.toInt < (fk 2).toInt ∧ i2.toInt < 2) ∧ (e0f.toInt = 0 ∨ ¬ e1f.toInt = i1.toInt ∨ ¬ e2f.toInt = i2.toInt)) m1f (zMw mdA wyA cr0_ inn0_ k10_)) (zMw mdB wyB cr1_ inn1_ k11_) - m1f); omega) (fun r_242 b1 H locs hw G => ?_)
            obtain rfl := hw
            have G : zS T A s.heap s [wt, z0_, wg0_, wg1_, wwA_168, [zO10 xo t im mk rd po co tr wa wb_ fi cd], z1_, [zO3 fi e0f_181 e1f_182 e2f_183 e3f_184 e4f_185 e5f_186 a1_222 a2_223], [zAr T 0 a1_222 m1f_188 r1f_187], [zAr T 0 a2_223 7 r2f_189], w2_225] _ _ := G
            have hw_243 : bFit T fi e0f_181 e1f_182 e2f_183 e3f_184 e4f_185 e5f_186 r1f_187 m1f_188 r2f_189 [zO3 fi e0f_181 e1f_182 e2f_183 e3f_184 e4f_185 e5f_186 a1_222 a2_223, zAr T 0 a1_222 m1f_188 r1f_187, zAr T 0 a2_223 7 r2f_189] := ⟨a1_222, a2_223, rfl⟩
            have G : zS T A s.heap s [wt, z0_, wg0_, wg1_, wwA_168, [zO10 xo t im mk rd po co tr wa wb_ fi cd], z1_, [zO3 fi e0f_181 e1f_182 e2f_183 e3f_184 e4f_185 e5f_186 a1_222 a2_223, zAr T 0 a1_222 m1f_188 r1f_187, zAr T 0 a2_223 7 r2f_189], w2_225] _ _ := G.re rfl
            have G := G.sub (bs' := [[zO10 xo t im mk rd po co tr wa wb_ fi cd], wt, z0_, z1_, wg0_, wg1_, wwA_168, w2_225, [zO3 fi e0f_181 e1f_182 e2f_183 e3f_184 e4f_185 e5f_186 a1_222 a2_223, zAr T 0 a1_222 m1f_188 r1f_187, zAr T 0 a2_223 7 r2f_189]]) [5, 0, 1, 6, 2, 3, 4, 8, 7] rfl
            exact z_back hQz_ (z_iret C hr hlocks G (Nat.le_of_ble_eq_true rfl) (by omega) dX11_odds_87 ⟨laA_157, mdA_158, wyA_159, pc_A_160, f1A_161, f2A_162, f3A_163, f4A_164, f5A_165, f6A_166, n4A_167, wwA_168, l1, m2_226, wy2_227, pc2_228, g1_229, g2_230, f3B_175, g4_231, g5_232, g6_233, (zMk mdB_170 n4B_179 (zPl cr1_ inn1_ k11_)), w2_225, e0f_181, e1f_182, e2f_183, e3f_184, e4f_185, e5f_186, r1f_187, m1f_188, r2f_189, ([zO3 fi e0f_181 e1f_182 e2f_183 e3f_184 e4f_185 e5f_186 a1_222 a2_223, zAr T 0 a1_222 m1f_188 r1f_187, zAr T 0 a2_223 7 r2f_189]), rfl, h_191, h_192, h_193, h_194, h_195, h_196, h_197, h_235, (Or.inr rfl), hwy9, (hzk.trans h_201), (by rw [hzk]; exact h_202), (fun _ => h_237), (Or.inr h_238), hw_243, h_206, h_207, h_208, (fun q => (h_210 q).elim (fun w => Or.inl ⟨w.1, w.2⟩) (fun w => Or.inr ⟨w.1, h_237⟩)), h_211, h_212, h_213, h_214⟩)
          · have c_224n : e3f_184.toInt = (0 : Int) := (fa_eq _ _).mp c_224
            refine lv_iconst (v := (-1)) hx hb dX11_odds_52 (by decide) ?_
            have hw_244 : bFit T fi e0f_181 e1f_182 e2f_183 e3f_184 e4f_185 e5f_186 r1f_187 m1f_188 r2f_189 [zO3 fi e0f_181 e1f_182 e2f_183 e3f_184 e4f_185 e5f_186 a1_222 a2_223, zAr T 0 a1_222 m1f_188 r1f_187, zAr T 0 a2_223 7 r2f_189] := ⟨a1_222, a2_223, rfl⟩
            have G : zS T A s.heap s [[zO10 xo t im mk rd po co tr wa wb_ fi cd], wt, z0_, wg0_, wg1_, wwA_168, wwB_180, [zO3 fi e0f_181 e1f_182 e2f_183 e3f_184 e4f_185 e5f_186 a1_222 a2_223, zAr T 0 a1_222 m1f_188 r1f_187, zAr T 0 a2_223 7 r2f_189], z1_] _ _ := G.re rfl
            have G := G.sub (bs' := [[zO10 xo t im mk rd po co tr wa wb_ fi cd], wt, z0_, z1_, wg0_, wg1_, wwA_168, wwB_180, [zO3 fi e0f_181 e1f_182 e2f_183 e3f_184 e4f_185 e5f_186 a1_222 a2_223, zAr T 0 a1_222 m1f_188 r1f_187, zAr T 0 a2_223 7 r2f_189]]) [0, 1, 2, 8, 3, 4, 5, 6, 7] rfl
            exact z_back hQz_ (z_iret C hr hlocks G (Nat.le_of_ble_eq_true rfl) (by omega) dX11_odds_53 ⟨laA_157, mdA_158, wyA_159, pc_A_160, f1A_161, f2A_162, f3A_163, f4A_164, f5A_165, f6A_166, n4A_167, wwA_168, laB_169, mdB_170, wyB_171, pc_B_172, f1B_173, f2B_174, f3B_175, f4B_176, f5B_177, f6B_178, n4B_179, wwB_180, e0f_181, e1f_182, e2f_183, e3f_184, e4f_185, e5f_186, r1f_187, m1f_188, r2f_189, ([zO3 fi e0f_181 e1f_182 e2f_183 e3f_184 e4f_185 e5f_186 a1_222 a2_223, zAr T 0 a1_222 m1f_188 r1f_187, zAr T 0 a2_223 7 r2f_189]), rfl, h_191, h_192, h_193, h_194, h_195, h_196, h_197, h_198, h_199, h_200, h_201, h_202, h_203, h_204, hw_244, h_206, h_207, h_208, h_210, h_211, h_212, h_213, h_214⟩)
        · have c_221n : ¬ b_.toInt < (zWays cr1_ inn1_ k11_ a_).toInt := fun q => c_221 ((fa_lt _ _).mpr q)
          refine lv_iconst (v := (-1)) hx hb dX11_odds_40 (by decide) ?_
          have G := G.sub (bs' := [[zO10 xo t im mk rd po co tr wa wb_ fi cd], wt, z0_, z1_, wg0_, wg1_, wwA_168, wwB_180, wff_190]) [0, 1, 2, 8, 3, 4, 5, 6, 7] rfl
          exact z_back hQz_ (z_iret C hr hlocks G (Nat.le_of_ble_eq_true rfl) (by omega) dX11_odds_41 ⟨laA_157, mdA_158, wyA_159, pc_A_160, f1A_161, f2A_162, f3A_163, f4A_164, f5A_165, f6A_166, n4A_167, wwA_168, laB_169, mdB_170, wyB_171, pc_B_172, f1B_173, f2B_174, f3B_175, f4B_176, f5B_177, f6B_178, n4B_179, wwB_180, e0f_181, e1f_182, e2f_183, e3f_184, e4f_185, e5f_186, r1f_187, m1f_188, r2f_189, wff_190, rfl, h_191, h_192, h_193, h_194, h_195, h_196, h_197, h_198, h_199, h_200, h_201, h_202, h_203, h_204, h_205, h_206, h_207, h_208, h_210, h_211, h_212, h_213, h_214⟩)

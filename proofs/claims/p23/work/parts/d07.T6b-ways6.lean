/-- behind 499 steps, by ways: the way, the crossing, how many steps -/
def aE (W L : Nat → Int32) (w c : Nat) : Nat × Nat × Nat := aN W L 499 w c 0
theorem zEnt {cr inn wy pc : Int32} {k1 k2 k3 f1 f2 f5 : Nat → Int32} {n : Nat} (hI : zLI cr k1 k3) (hO : aOk (aW cr inn k1) k2) (hT : zTab cr inn k1 k2 wy pc f1 f2 f5 n) {w c : Nat} (hw : w < aPr (aW cr inn k1) 7) (hc : c < 7) : zEntry f5 n (nI w) (nI c) = nI (aT (aW cr inn k1) k2 499 (8 * w + c)) ∧ zEntry f5 n (nI w) (nI c) &&& 7 = nI (aE (aW cr inn k1) k2 w c).2.1 ∧ zEntry f5 n (nI w) (nI c) >>> (17 &&& 31) = nI (aE (aW cr inn k1) k2 w c).2.2 ∧ (zEntry f5 n (nI w) (nI c) &&& 131071) >>> (3 &&& 31) = nI (aE (aW cr inn k1) k2 w c).1 := by
  have p := hO.2.2
  have hi : 8 * w + c < 8 * aPr (aW cr inn k1) 7 := by omega
  have e0 : (nI w <<< (3 &&& 31)) + nI c = nI (8 * w + c) := by
    rw [pk_shlN (3 &&& 31) 3 (by decide) (by omega), nI_add]
    exact congrArg nI (by omega)
  have e1 : zEntry f5 n (nI w) (nI c) = nI (aT (aW cr inn k1) k2 499 (8 * w + c)) := by
    have t := nI_toInt (n := 8 * w + c) (by omega)
    have hn := hT.2.2.2.1
    unfold zEntry
    rw [e0, if_pos ⟨by omega, by omega⟩, show (nI (8 * w + c)).toNatClampNeg = 8 * w + c from pk_cl (8 * w + c) rfl (by omega)]
    exact hT.2.2.2.2 _ hi
  obtain ⟨b1, b2, b3, b4, b5, b6⟩ := aT_b hO (n := 499) hi
  have d1 : (8 * w + c) / 8 = w := by omega
  have d2 : (8 * w + c) % 8 = c := by omega
  rw [d1, d2] at b1 b4 b5 b6
  have hE : aN (aW cr inn k1) k2 499 w c 0 = aE (aW cr inn k1) k2 w c := rfl
  rw [hE] at b1 b4 b5 b6
  refine ⟨e1, ?_, ?_, ?_⟩
  · rw [e1, aAn (by omega)]
    exact congrArg nI (by omega)
  · rw [e1, pk_shrN (by omega) (17 &&& 31) 17 (by decide)]
    exact congrArg nI (by omega)
  · rw [e1, aAp (by omega), aSh (by omega)]
    exact congrArg nI (by omega)
theorem aE_b {W L : Nat → Int32} (h : aOk W L) {w c : Nat} (hw : w < aPr W 7) (hc : c < 7) : (aE W L w c).1 < aPr W 7 ∧ (aE W L w c).2.1 ≤ 6 ∧ (aE W L w c).2.2 ≤ 499 := by
  have t := aN_b h.1 (fun j hj => (h.2.1 j hj).2) 499 w c 0 hw (by omega)
  exact ⟨t.1, t.2.1, t.2.2⟩
set_option maxHeartbeats 4000000 in
set_option maxRecDepth 100000 in
/-- c_f_number -/
theorem c_f_number (l : Launch) (T : zTy) (h : Nat) (la : Nat) (md : Int32) (wy : Int32) (pc_ : Int32) (f1 : Nat → Int32) (f2 : Nat → Int32) (f3 : Nat → Int32) (f4 : Nat → Int32) (f5 : Nat → Int32) (f6 : Nat → Int32) (n4 : Nat) (ww : va_W) (cr : Int32) (inn : Int32) (k1 : Nat → Int32) (k2 : Nat → Int32) (k3 : Nat → Int32) (k4 : Nat → Int32) (z : va_W) (x : Int32) (hww : bWays T h la md wy pc_ f1 f2 f3 f4 f5 f6 n4 ww) (hz : bLand T la cr inn k1 k2 k3 k4 z) (hI : zLI cr k1 k3) (hF : aF cr inn k1 f1 f2) (hO : aOk (aW cr inn k1) k2) (hxw : 0 ≤ x.toInt) : zMi l T yX0_number cX0_number 4 (some .int) 2 0 0 [.ref h, .int x] [ww, z] (fun (r : Int32) bs => bs = [ww, z] ∧ r = aNu (aW cr inn k1) x.toInt.toNat cr.toInt.toNat) := by
  refine zMi_of (own := RX0) (by decide) rfl (Nat.le_of_ble_eq_true rfl) ?_
  intro p e s m args below meth c A ls C hr hlocks hnm hAe G hl
  refine zHide (fun Qz_ hQz_ => ?_)
  have hx := C.1
  have hb := C.2.1
  have hl : lv_has ls 4 [(0, .ref h), (1, .int x)] := hl
  have hcr := hI.1
  have hxl := Int32.toInt_lt x
  refine lv_iconst (v := 1) hx hb dX0_number_0 (by decide) ?_
  refine lv_istore_n (lv' := [(2, .int 1), (0, .ref h), (1, .int x)]) hx hb dX0_number_1 rfl hl (by decide) (zLvf_h rfl) (fun ls hl => ?_)
  refine lv_iconst (v := 0) hx hb dX0_number_2 (by decide) ?_
  refine lv_istore_n (lv' := [(3, .int 0), (2, .int 1), (0, .ref h), (1, .int x)]) hx hb dX0_number_3 rfl hl (by decide) (zLvf_h rfl) (fun ls hl => ?_)
  refine zEx6 hww ?_
  intro a1_1 a2_2 a3_3 a4_4 a5_5 a6_6 hbs9
  clear hww
  subst hbs9
  have G : zS T A s.heap s [[zO0 h md wy la pc_ a1_1 a2_2 a3_3 a4_4 a5_5 a6_6], [zAr T 0 a1_1 7 f1], [zAr T 0 a2_2 7 f2], [zAr T 0 a3_3 7 f3], [zAr T 0 a4_4 n4 f4], [zAr T 0 a5_5 n4 f5], [zAr T 0 a6_6 n4 f6], z] _ _ := G.re rfl
  refine zEx4 hz ?_
  intro a1_7 a2_8 a3_9 a4_10 hbs9
  clear hz
  subst hbs9
  have G : zS T A s.heap s [[zO0 h md wy la pc_ a1_1 a2_2 a3_3 a4_4 a5_5 a6_6], [zAr T 0 a1_1 7 f1], [zAr T 0 a2_2 7 f2], [zAr T 0 a3_3 7 f3], [zAr T 0 a4_4 n4 f4], [zAr T 0 a5_5 n4 f5], [zAr T 0 a6_6 n4 f6], [zO4 la cr inn a1_7 a2_8 a3_9 a4_10], [zAr T 0 a1_7 7 k1], [zAr T 0 a2_8 28 k2], [zAr T 0 a3_9 7 k3], [zAr T 0 a4_10 7 k4]] _ _ := G.re rfl
  have hw_11 : bWays T h la md wy pc_ f1 f2 f3 f4 f5 f6 n4 [zO0 h md wy la pc_ a1_1 a2_2 a3_3 a4_4 a5_5 a6_6, zAr T 0 a1_1 7 f1, zAr T 0 a2_2 7 f2, zAr T 0 a3_3 7 f3, zAr T 0 a4_4 n4 f4, zAr T 0 a5_5 n4 f5, zAr T 0 a6_6 n4 f6] := ⟨a1_1, a2_2, a3_3, a4_4, a5_5, a6_6, rfl⟩
  have G : zS T A s.heap s [[zO0 h md wy la pc_ a1_1 a2_2 a3_3 a4_4 a5_5 a6_6, zAr T 0 a1_1 7 f1, zAr T 0 a2_2 7 f2, zAr T 0 a3_3 7 f3, zAr T 0 a4_4 n4 f4, zAr T 0 a5_5 n4 f5, zAr T 0 a6_6 n4 f6], [zO4 la cr inn a1_7 a2_8 a3_9 a4_10], [zAr T 0 a1_7 7 k1], [zAr T 0 a2_8 28 k2], [zAr T 0 a3_9 7 k3], [zAr T 0 a4_10 7 k4]] _ _ := G.re rfl
  have hw_12 : bLand T la cr inn k1 k2 k3 k4 [zO4 la cr inn a1_7 a2_8 a3_9 a4_10, zAr T 0 a1_7 7 k1, zAr T 0 a2_8 28 k2, zAr T 0 a3_9 7 k3, zAr T 0 a4_10 7 k4] := ⟨a1_7, a2_8, a3_9, a4_10, rfl⟩
  have G : zS T A s.heap s [[zO0 h md wy la pc_ a1_1 a2_2 a3_3 a4_4 a5_5 a6_6, zAr T 0 a1_1 7 f1, zAr T 0 a2_2 7 f2, zAr T 0 a3_3 7 f3, zAr T 0 a4_4 n4 f4, zAr T 0 a5_5 n4 f5, zAr T 0 a6_6 n4 f6], [zO4 la cr inn a1_7 a2_8 a3_9 a4_10, zAr T 0 a1_7 7 k1, zAr T 0 a2_8 28 k2, zAr T 0 a3_9 7 k3, zAr T 0 a4_10 7 k4]] _ _ := G.re rfl
  refine z_lp2 (T := T) 4 (fun (i : Nat) (u2 : Int32) => [[zO0 h md wy la pc_ a1_1 a2_2 a3_3 a4_4 a5_5 a6_6, zAr T 0 a1_1 7 f1, zAr T 0 a2_2 7 f2, zAr T 0 a3_3 7 f3, zAr T 0 a4_4 n4 f4, zAr T 0 a5_5 n4 f5, zAr T 0 a6_6 n4 f6], [zO4 la cr inn a1_7 a2_8 a3_9 a4_10, zAr T 0 a1_7 7 k1, zAr T 0 a2_8 28 k2, zAr T 0 a3_9 7 k3, zAr T 0 a4_10 7 k4]]) (fun (i : Nat) (u2 : Int32) => [(3, .int (nI i)), (2, .int u2), (0, .ref h), (1, .int x)]) (fun (i : Nat) (u2 : Int32) => i ≤ cr.toInt.toNat ∧ u2 = aNu (aW cr inn k1) x.toInt.toNat i) (fun (i : Nat) (u2 : Int32) => cr.toInt.toNat - i) ?_ 0 1 (show 0 ≤ cr.toInt.toNat ∧ 1 = aNu (aW cr inn k1) x.toInt.toNat 0 from ⟨by omega, rfl⟩) G (lv_sub hl [0, 1, 2, 3] rfl)
  intro i u2 hI9 ih_4 H locs ls G hl
  replace hI9 : i ≤ cr.toInt.toNat ∧ u2 = aNu (aW cr inn k1) x.toInt.toNat i := hI9
  refine zAn2 hI9 ?_
  intro hi hu
  clear hI9
  replace G : zS T A s.heap s [[zO0 h md wy la pc_ a1_1 a2_2 a3_3 a4_4 a5_5 a6_6, zAr T 0 a1_1 7 f1, zAr T 0 a2_2 7 f2, zAr T 0 a3_3 7 f3, zAr T 0 a4_4 n4 f4, zAr T 0 a5_5 n4 f5, zAr T 0 a6_6 n4 f6], [zO4 la cr inn a1_7 a2_8 a3_9 a4_10, zAr T 0 a1_7 7 k1, zAr T 0 a2_8 28 k2, zAr T 0 a3_9 7 k3, zAr T 0 a4_10 7 k4]] _ _ := G
  replace hl : lv_has ls 4 [(3, .int (nI i)), (2, .int u2), (0, .ref h), (1, .int x)] := hl
  refine lv_iload_n hx hb dX0_number_4 rfl (lv_at hl 0 rfl) ?_
  refine lv_aload_n hx hb dX0_number_5 rfl (lv_at hl 2 rfl) ?_
  have G : zS T A s.heap s [[zO0 h md wy la pc_ a1_1 a2_2 a3_3 a4_4 a5_5 a6_6], [zAr T 0 a1_1 7 f1], [zAr T 0 a2_2 7 f2], [zAr T 0 a3_3 7 f3], [zAr T 0 a4_4 n4 f4], [zAr T 0 a5_5 n4 f5], [zAr T 0 a6_6 n4 f6], [zO4 la cr inn a1_7 a2_8 a3_9 a4_10, zAr T 0 a1_7 7 k1, zAr T 0 a2_8 28 k2, zAr T 0 a3_9 7 k3, zAr T 0 a4_10 7 k4]] _ _ := G.re rfl
  refine z_get C G clX0 0 rfl 2 (by decide) m_fl_RX0_14 rfl dX0_number_6 ?_
  have G : zS T A s.heap s [[zO0 h md wy la pc_ a1_1 a2_2 a3_3 a4_4 a5_5 a6_6], [zAr T 0 a1_1 7 f1], [zAr T 0 a2_2 7 f2], [zAr T 0 a3_3 7 f3], [zAr T 0 a4_4 n4 f4], [zAr T 0 a5_5 n4 f5], [zAr T 0 a6_6 n4 f6], [zO4 la cr inn a1_7 a2_8 a3_9 a4_10], [zAr T 0 a1_7 7 k1], [zAr T 0 a2_8 28 k2], [zAr T 0 a3_9 7 k3], [zAr T 0 a4_10 7 k4]] _ _ := G.re rfl
  refine z_get C G clX4 7 rfl 0 (by decide) m_fl_RX0_107 rfl dX0_number_9 ?_
  refine lv_icmp_ge (tgt := 33) hx hb dX0_number_12 (by decide) (fun c_13 => ?_) (fun c_13 => ?_)
  · have c_13n : cr.toInt ≤ (i : Int) := by have q := (fa_le _ _).mp c_13; rw [nI_toInt (n := i) (by omega)] at q; exact q
    refine lv_iload_n hx hb dX0_number_33 rfl (lv_at hl 1 rfl) ?_
    have hw_14 : bWays T h la md wy pc_ f1 f2 f3 f4 f5 f6 n4 [zO0 h md wy la pc_ a1_1 a2_2 a3_3 a4_4 a5_5 a6_6, zAr T 0 a1_1 7 f1, zAr T 0 a2_2 7 f2, zAr T 0 a3_3 7 f3, zAr T 0 a4_4 n4 f4, zAr T 0 a5_5 n4 f5, zAr T 0 a6_6 n4 f6] := ⟨a1_1, a2_2, a3_3, a4_4, a5_5, a6_6, rfl⟩
    have G : zS T A s.heap s [[zO0 h md wy la pc_ a1_1 a2_2 a3_3 a4_4 a5_5 a6_6, zAr T 0 a1_1 7 f1, zAr T 0 a2_2 7 f2, zAr T 0 a3_3 7 f3, zAr T 0 a4_4 n4 f4, zAr T 0 a5_5 n4 f5, zAr T 0 a6_6 n4 f6], [zO4 la cr inn a1_7 a2_8 a3_9 a4_10], [zAr T 0 a1_7 7 k1], [zAr T 0 a2_8 28 k2], [zAr T 0 a3_9 7 k3], [zAr T 0 a4_10 7 k4]] _ _ := G.re rfl
    have hw_15 : bLand T la cr inn k1 k2 k3 k4 [zO4 la cr inn a1_7 a2_8 a3_9 a4_10, zAr T 0 a1_7 7 k1, zAr T 0 a2_8 28 k2, zAr T 0 a3_9 7 k3, zAr T 0 a4_10 7 k4] := ⟨a1_7, a2_8, a3_9, a4_10, rfl⟩
    have G : zS T A s.heap s [[zO0 h md wy la pc_ a1_1 a2_2 a3_3 a4_4 a5_5 a6_6, zAr T 0 a1_1 7 f1, zAr T 0 a2_2 7 f2, zAr T 0 a3_3 7 f3, zAr T 0 a4_4 n4 f4, zAr T 0 a5_5 n4 f5, zAr T 0 a6_6 n4 f6], [zO4 la cr inn a1_7 a2_8 a3_9 a4_10, zAr T 0 a1_7 7 k1, zAr T 0 a2_8 28 k2, zAr T 0 a3_9 7 k3, zAr T 0 a4_10 7 k4]] _ _ := G.re rfl
    exact z_back hQz_ (z_iret C hr hlocks G (Nat.le_of_ble_eq_true rfl) (Nat.le_of_ble_eq_true rfl) dX0_number_34 ⟨rfl, (by rw [hu]; exact congrArg (aNu (aW cr inn k1) x.toInt.toNat) (by omega))⟩)
  · have c_13n : ¬ cr.toInt ≤ (i : Int) := fun q => c_13 ((fa_le _ _).mpr (by rw [nI_toInt (n := i) (by omega)]; exact q))
    refine lv_iload_n hx hb dX0_number_15 rfl (lv_at hl 1 rfl) ?_
    refine lv_bipush (v := 10) hx hb dX0_number_16 (by decide) ?_
    refine lv_imul hx hb dX0_number_18 ?_
    refine lv_aload_n hx hb dX0_number_19 rfl (lv_at hl 2 rfl) ?_
    refine lv_iload_n hx hb dX0_number_20 rfl (lv_at hl 3 rfl) ?_
    refine lv_iload_n hx hb dX0_number_21 rfl (lv_at hl 0 rfl) ?_
    have hw_16 : bWays T h la md wy pc_ f1 f2 f3 f4 f5 f6 n4 [zO0 h md wy la pc_ a1_1 a2_2 a3_3 a4_4 a5_5 a6_6, zAr T 0 a1_1 7 f1, zAr T 0 a2_2 7 f2, zAr T 0 a3_3 7 f3, zAr T 0 a4_4 n4 f4, zAr T 0 a5_5 n4 f5, zAr T 0 a6_6 n4 f6] := ⟨a1_1, a2_2, a3_3, a4_4, a5_5, a6_6, rfl⟩
    have G : zS T A s.heap s [[zO0 h md wy la pc_ a1_1 a2_2 a3_3 a4_4 a5_5 a6_6, zAr T 0 a1_1 7 f1, zAr T 0 a2_2 7 f2, zAr T 0 a3_3 7 f3, zAr T 0 a4_4 n4 f4, zAr T 0 a5_5 n4 f5, zAr T 0 a6_6 n4 f6], [zO4 la cr inn a1_7 a2_8 a3_9 a4_10], [zAr T 0 a1_7 7 k1], [zAr T 0 a2_8 28 k2], [zAr T 0 a3_9 7 k3], [zAr T 0 a4_10 7 k4]] _ _ := G.re rfl
    refine z_Vi (bc := [[zO0 h md wy la pc_ a1_1 a2_2 a3_3 a4_4 a5_5 a6_6, zAr T 0 a1_1 7 f1, zAr T 0 a2_2 7 f2, zAr T 0 a3_3 7 f3, zAr T 0 a4_4 n4 f4, zAr T 0 a5_5 n4 f5, zAr T 0 a6_6 n4 f6]]) (br := [[zO4 la cr inn a1_7 a2_8 a3_9 a4_10], [zAr T 0 a1_7 7 k1], [zAr T 0 a2_8 28 k2], [zAr T 0 a3_9 7 k3], [zAr T 0 a4_10 7 k4]]) (As := [.int x, .int (nI i)]) (rest := [.int (u2 * 10)]) C G (c_road l T h la md wy pc_ f1 f2 f3 f4 f5 f6 n4 ([zO0 h md wy la pc_ a1_1 a2_2 a3_3 a4_4 a5_5 a6_6, zAr T 0 a1_1 7 f1, zAr T 0 a2_2 7 f2, zAr T 0 a3_3 7 f3, zAr T 0 a4_4 n4 f4, zAr T 0 a5_5 n4 f5, zAr T 0 a6_6 n4 f6]) x (nI i) hw_16) (kV_RX0_81 C.2.2.2.2 (Nat.le_of_ble_eq_true rfl) (Nat.le_of_ble_eq_true rfl)) [0] [0] rfl rfl (ci := 0) (qc := (RX0, TX0, 10)) rfl rfl (List.mem_flatten.mpr ⟨_, List.mem_of_getElem? (i := 0) rfl, (bWays_mem hw_16).choose_spec⟩) rfl rfl hl.1 dX0_number_22 (Nat.le_of_ble_eq_true rfl) (Nat.le_of_ble_eq_true rfl) (fun r_18 b1 H locs hw G => ?_)
    refine zAn2 hw ?_
    intro hbs9 h_17
    clear hw
    subst hbs9
    have G : zS T A s.heap s [[zO4 la cr inn a1_7 a2_8 a3_9 a4_10], [zAr T 0 a1_7 7 k1], [zAr T 0 a2_8 28 k2], [zAr T 0 a3_9 7 k3], [zAr T 0 a4_10 7 k4], [zO0 h md wy la pc_ a1_1 a2_2 a3_3 a4_4 a5_5 a6_6, zAr T 0 a1_1 7 f1, zAr T 0 a2_2 7 f2, zAr T 0 a3_3 7 f3, zAr T 0 a4_4 n4 f4, zAr T 0 a5_5 n4 f5, zAr T 0 a6_6 n4 f6]] _ _ := G
    subst h_17
    refine lv_iadd hx hb dX0_number_25 ?_
    refine lv_istore_n (lv' := [(2, .int ((u2 * 10) + (zRoad f1 f2 x (nI i)))), (3, .int (nI i)), (0, .ref h), (1, .int x)]) hx hb dX0_number_26 rfl hl (by decide) (zLvf_h rfl) (fun ls hl => ?_)
    refine lv_iinc (v := nI (i + 1)) (lv' := [(3, .int (nI (i + 1))), (2, .int ((u2 * 10) + (zRoad f1 f2 x (nI i)))), (0, .ref h), (1, .int x)]) hx hb dX0_number_27 hl (k := 1) rfl (z_inc i 1) (by decide) (zLvf_h rfl) (fun ls hl => ?_)
    refine lv_goto (tgt := 4) hx hb dX0_number_30 (by decide) ?_
    have hw_19 : bLand T la cr inn k1 k2 k3 k4 [zO4 la cr inn a1_7 a2_8 a3_9 a4_10, zAr T 0 a1_7 7 k1, zAr T 0 a2_8 28 k2, zAr T 0 a3_9 7 k3, zAr T 0 a4_10 7 k4] := ⟨a1_7, a2_8, a3_9, a4_10, rfl⟩
    have G : zS T A s.heap s [[zO4 la cr inn a1_7 a2_8 a3_9 a4_10, zAr T 0 a1_7 7 k1, zAr T 0 a2_8 28 k2, zAr T 0 a3_9 7 k3, zAr T 0 a4_10 7 k4], [zO0 h md wy la pc_ a1_1 a2_2 a3_3 a4_4 a5_5 a6_6, zAr T 0 a1_1 7 f1, zAr T 0 a2_2 7 f2, zAr T 0 a3_3 7 f3, zAr T 0 a4_4 n4 f4, zAr T 0 a5_5 n4 f5, zAr T 0 a6_6 n4 f6]] _ _ := G.re rfl
    have G := G.sub (bs' := [[zO0 h md wy la pc_ a1_1 a2_2 a3_3 a4_4 a5_5 a6_6, zAr T 0 a1_1 7 f1, zAr T 0 a2_2 7 f2, zAr T 0 a3_3 7 f3, zAr T 0 a4_4 n4 f4, zAr T 0 a5_5 n4 f5, zAr T 0 a6_6 n4 f6], [zO4 la cr inn a1_7 a2_8 a3_9 a4_10, zAr T 0 a1_7 7 k1, zAr T 0 a2_8 28 k2, zAr T 0 a3_9 7 k3, zAr T 0 a4_10 7 k4]]) [1, 0] rfl
    exact ih_4 (i + 1) ((u2 * 10) + (zRoad f1 f2 x (nI i))) (show (i + 1) ≤ cr.toInt.toNat ∧ ((u2 * 10) + (zRoad f1 f2 x (nI i))) = aNu (aW cr inn k1) x.toInt.toNat (i + 1) from ⟨by omega, (by have q8 : zRoad f1 f2 x (nI i) = aPo (aW cr inn k1) x.toInt.toNat i := (by have q9 := zRoad_z (inn := inn) hI hF (w := x.toInt.toNat) (c := i) (by omega) (by omega); rw [← (z_nI (x := x) (m := x.toInt.toNat) (by omega) (by omega))] at q9; exact q9); rw [hu, q8]; rfl)⟩) (show cr.toInt.toNat - (i + 1) < cr.toInt.toNat - i from by omega) _ _ ls G (lv_sub hl [0, 1, 2, 3] rfl)
set_option maxHeartbeats 4000000 in
set_option maxRecDepth 100000 in
/-- c_f_unlike -/
theorem c_f_unlike (l : Launch) (T : zTy) (h : Nat) (la : Nat) (md : Int32) (wy : Int32) (pc_ : Int32) (f1 : Nat → Int32) (f2 : Nat → Int32) (f3 : Nat → Int32) (f4 : Nat → Int32) (f5 : Nat → Int32) (f6 : Nat → Int32) (n4 : Nat) (ww : va_W) (cr : Int32) (inn : Int32) (k1 : Nat → Int32) (k2 : Nat → Int32) (k3 : Nat → Int32) (k4 : Nat → Int32) (z : va_W) (x : Int32) (y : Int32) (hww : bWays T h la md wy pc_ f1 f2 f3 f4 f5 f6 n4 ww) (hz : bLand T la cr inn k1 k2 k3 k4 z) (hI : zLI cr k1 k3) (hF : aF cr inn k1 f1 f2) (hO : aOk (aW cr inn k1) k2) (hxw : 0 ≤ x.toInt) (hyw : 0 ≤ y.toInt) : zMi l T yX0_unlike cX0_unlike 5 (some .int) 2 0 0 [.ref h, .int x, .int y] [ww, z] (fun (r : Int32) bs => bs = [ww, z] ∧ r = aUn (aW cr inn k1) x.toInt.toNat y.toInt.toNat cr.toInt.toNat) := by
  refine zMi_of (own := RX0) (by decide) rfl (Nat.le_of_ble_eq_true rfl) ?_
  intro p e s m args below meth c A ls C hr hlocks hnm hAe G hl
  refine zHide (fun Qz_ hQz_ => ?_)
  have hx := C.1
  have hb := C.2.1
  have hl : lv_has ls 5 [(0, .ref h), (1, .int x), (2, .int y)] := hl
  have hcr := hI.1
  have hxl := Int32.toInt_lt x
  have hyl := Int32.toInt_lt y
  refine lv_iconst (v := 0) hx hb dX0_unlike_0 (by decide) ?_
  refine lv_istore_n (lv' := [(3, .int 0), (0, .ref h), (1, .int x), (2, .int y)]) hx hb dX0_unlike_1 rfl hl (by decide) (zLvf_h rfl) (fun ls hl => ?_)
  refine lv_iconst (v := 0) hx hb dX0_unlike_2 (by decide) ?_
  refine lv_istore (lv' := [(4, .int 0), (3, .int 0), (0, .ref h), (1, .int x), (2, .int y)]) hx hb dX0_unlike_3 hl (by decide) (zLvf_h rfl) (fun ls hl => ?_)
  refine zEx6 hww ?_
  intro a1_1 a2_2 a3_3 a4_4 a5_5 a6_6 hbs9
  clear hww
  subst hbs9
  have G : zS T A s.heap s [[zO0 h md wy la pc_ a1_1 a2_2 a3_3 a4_4 a5_5 a6_6], [zAr T 0 a1_1 7 f1], [zAr T 0 a2_2 7 f2], [zAr T 0 a3_3 7 f3], [zAr T 0 a4_4 n4 f4], [zAr T 0 a5_5 n4 f5], [zAr T 0 a6_6 n4 f6], z] _ _ := G.re rfl
  refine zEx4 hz ?_
  intro a1_7 a2_8 a3_9 a4_10 hbs9
  clear hz
  subst hbs9
  have G : zS T A s.heap s [[zO0 h md wy la pc_ a1_1 a2_2 a3_3 a4_4 a5_5 a6_6], [zAr T 0 a1_1 7 f1], [zAr T 0 a2_2 7 f2], [zAr T 0 a3_3 7 f3], [zAr T 0 a4_4 n4 f4], [zAr T 0 a5_5 n4 f5], [zAr T 0 a6_6 n4 f6], [zO4 la cr inn a1_7 a2_8 a3_9 a4_10], [zAr T 0 a1_7 7 k1], [zAr T 0 a2_8 28 k2], [zAr T 0 a3_9 7 k3], [zAr T 0 a4_10 7 k4]] _ _ := G.re rfl
  have hw_11 : bWays T h la md wy pc_ f1 f2 f3 f4 f5 f6 n4 [zO0 h md wy la pc_ a1_1 a2_2 a3_3 a4_4 a5_5 a6_6, zAr T 0 a1_1 7 f1, zAr T 0 a2_2 7 f2, zAr T 0 a3_3 7 f3, zAr T 0 a4_4 n4 f4, zAr T 0 a5_5 n4 f5, zAr T 0 a6_6 n4 f6] := ⟨a1_1, a2_2, a3_3, a4_4, a5_5, a6_6, rfl⟩
  have G : zS T A s.heap s [[zO0 h md wy la pc_ a1_1 a2_2 a3_3 a4_4 a5_5 a6_6, zAr T 0 a1_1 7 f1, zAr T 0 a2_2 7 f2, zAr T 0 a3_3 7 f3, zAr T 0 a4_4 n4 f4, zAr T 0 a5_5 n4 f5, zAr T 0 a6_6 n4 f6], [zO4 la cr inn a1_7 a2_8 a3_9 a4_10], [zAr T 0 a1_7 7 k1], [zAr T 0 a2_8 28 k2], [zAr T 0 a3_9 7 k3], [zAr T 0 a4_10 7 k4]] _ _ := G.re rfl
  have hw_12 : bLand T la cr inn k1 k2 k3 k4 [zO4 la cr inn a1_7 a2_8 a3_9 a4_10, zAr T 0 a1_7 7 k1, zAr T 0 a2_8 28 k2, zAr T 0 a3_9 7 k3, zAr T 0 a4_10 7 k4] := ⟨a1_7, a2_8, a3_9, a4_10, rfl⟩
  have G : zS T A s.heap s [[zO0 h md wy la pc_ a1_1 a2_2 a3_3 a4_4 a5_5 a6_6, zAr T 0 a1_1 7 f1, zAr T 0 a2_2 7 f2, zAr T 0 a3_3 7 f3, zAr T 0 a4_4 n4 f4, zAr T 0 a5_5 n4 f5, zAr T 0 a6_6 n4 f6], [zO4 la cr inn a1_7 a2_8 a3_9 a4_10, zAr T 0 a1_7 7 k1, zAr T 0 a2_8 28 k2, zAr T 0 a3_9 7 k3, zAr T 0 a4_10 7 k4]] _ _ := G.re rfl
  refine z_lp2 (T := T) 5 (fun (i : Nat) (u3 : Int32) => [[zO0 h md wy la pc_ a1_1 a2_2 a3_3 a4_4 a5_5 a6_6, zAr T 0 a1_1 7 f1, zAr T 0 a2_2 7 f2, zAr T 0 a3_3 7 f3, zAr T 0 a4_4 n4 f4, zAr T 0 a5_5 n4 f5, zAr T 0 a6_6 n4 f6], [zO4 la cr inn a1_7 a2_8 a3_9 a4_10, zAr T 0 a1_7 7 k1, zAr T 0 a2_8 28 k2, zAr T 0 a3_9 7 k3, zAr T 0 a4_10 7 k4]]) (fun (i : Nat) (u3 : Int32) => [(4, .int (nI i)), (3, .int u3), (0, .ref h), (1, .int x), (2, .int y)]) (fun (i : Nat) (u3 : Int32) => i ≤ cr.toInt.toNat ∧ u3 = aUn (aW cr inn k1) x.toInt.toNat y.toInt.toNat i) (fun (i : Nat) (u3 : Int32) => cr.toInt.toNat - i) ?_ 0 0 (show 0 ≤ cr.toInt.toNat ∧ 0 = aUn (aW cr inn k1) x.toInt.toNat y.toInt.toNat 0 from ⟨by omega, rfl⟩) G (lv_sub hl [0, 1, 2, 3, 4] rfl)
  intro i u3 hI9 ih_5 H locs ls G hl
  replace hI9 : i ≤ cr.toInt.toNat ∧ u3 = aUn (aW cr inn k1) x.toInt.toNat y.toInt.toNat i := hI9
  refine zAn2 hI9 ?_
  intro hi hu
  clear hI9
  replace G : zS T A s.heap s [[zO0 h md wy la pc_ a1_1 a2_2 a3_3 a4_4 a5_5 a6_6, zAr T 0 a1_1 7 f1, zAr T 0 a2_2 7 f2, zAr T 0 a3_3 7 f3, zAr T 0 a4_4 n4 f4, zAr T 0 a5_5 n4 f5, zAr T 0 a6_6 n4 f6], [zO4 la cr inn a1_7 a2_8 a3_9 a4_10, zAr T 0 a1_7 7 k1, zAr T 0 a2_8 28 k2, zAr T 0 a3_9 7 k3, zAr T 0 a4_10 7 k4]] _ _ := G
  replace hl : lv_has ls 5 [(4, .int (nI i)), (3, .int u3), (0, .ref h), (1, .int x), (2, .int y)] := hl
  refine lv_iload hx hb dX0_unlike_5 (lv_at hl 0 rfl) ?_
  refine lv_aload_n hx hb dX0_unlike_7 rfl (lv_at hl 2 rfl) ?_
  have G : zS T A s.heap s [[zO0 h md wy la pc_ a1_1 a2_2 a3_3 a4_4 a5_5 a6_6], [zAr T 0 a1_1 7 f1], [zAr T 0 a2_2 7 f2], [zAr T 0 a3_3 7 f3], [zAr T 0 a4_4 n4 f4], [zAr T 0 a5_5 n4 f5], [zAr T 0 a6_6 n4 f6], [zO4 la cr inn a1_7 a2_8 a3_9 a4_10, zAr T 0 a1_7 7 k1, zAr T 0 a2_8 28 k2, zAr T 0 a3_9 7 k3, zAr T 0 a4_10 7 k4]] _ _ := G.re rfl
  refine z_get C G clX0 0 rfl 2 (by decide) m_fl_RX0_14 rfl dX0_unlike_8 ?_
  have G : zS T A s.heap s [[zO0 h md wy la pc_ a1_1 a2_2 a3_3 a4_4 a5_5 a6_6], [zAr T 0 a1_1 7 f1], [zAr T 0 a2_2 7 f2], [zAr T 0 a3_3 7 f3], [zAr T 0 a4_4 n4 f4], [zAr T 0 a5_5 n4 f5], [zAr T 0 a6_6 n4 f6], [zO4 la cr inn a1_7 a2_8 a3_9 a4_10], [zAr T 0 a1_7 7 k1], [zAr T 0 a2_8 28 k2], [zAr T 0 a3_9 7 k3], [zAr T 0 a4_10 7 k4]] _ _ := G.re rfl
  refine z_get C G clX4 7 rfl 0 (by decide) m_fl_RX0_107 rfl dX0_unlike_11 ?_
  refine lv_icmp_ge (tgt := 51) hx hb dX0_unlike_14 (by decide) (fun c_13 => ?_) (fun c_13 => ?_)
  · have c_13n : cr.toInt ≤ (i : Int) := by have q := (fa_le _ _).mp c_13; rw [nI_toInt (n := i) (by omega)] at q; exact q
    refine lv_iload_n hx hb dX0_unlike_51 rfl (lv_at hl 1 rfl) ?_
    have hw_14 : bWays T h la md wy pc_ f1 f2 f3 f4 f5 f6 n4 [zO0 h md wy la pc_ a1_1 a2_2 a3_3 a4_4 a5_5 a6_6, zAr T 0 a1_1 7 f1, zAr T 0 a2_2 7 f2, zAr T 0 a3_3 7 f3, zAr T 0 a4_4 n4 f4, zAr T 0 a5_5 n4 f5, zAr T 0 a6_6 n4 f6] := ⟨a1_1, a2_2, a3_3, a4_4, a5_5, a6_6, rfl⟩
    have G : zS T A s.heap s [[zO0 h md wy la pc_ a1_1 a2_2 a3_3 a4_4 a5_5 a6_6, zAr T 0 a1_1 7 f1, zAr T 0 a2_2 7 f2, zAr T 0 a3_3 7 f3, zAr T 0 a4_4 n4 f4, zAr T 0 a5_5 n4 f5, zAr T 0 a6_6 n4 f6], [zO4 la cr inn a1_7 a2_8 a3_9 a4_10], [zAr T 0 a1_7 7 k1], [zAr T 0 a2_8 28 k2], [zAr T 0 a3_9 7 k3], [zAr T 0 a4_10 7 k4]] _ _ := G.re rfl
    have hw_15 : bLand T la cr inn k1 k2 k3 k4 [zO4 la cr inn a1_7 a2_8 a3_9 a4_10, zAr T 0 a1_7 7 k1, zAr T 0 a2_8 28 k2, zAr T 0 a3_9 7 k3, zAr T 0 a4_10 7 k4] := ⟨a1_7, a2_8, a3_9, a4_10, rfl⟩
    have G : zS T A s.heap s [[zO0 h md wy la pc_ a1_1 a2_2 a3_3 a4_4 a5_5 a6_6, zAr T 0 a1_1 7 f1, zAr T 0 a2_2 7 f2, zAr T 0 a3_3 7 f3, zAr T 0 a4_4 n4 f4, zAr T 0 a5_5 n4 f5, zAr T 0 a6_6 n4 f6], [zO4 la cr inn a1_7 a2_8 a3_9 a4_10, zAr T 0 a1_7 7 k1, zAr T 0 a2_8 28 k2, zAr T 0 a3_9 7 k3, zAr T 0 a4_10 7 k4]] _ _ := G.re rfl
    exact z_back hQz_ (z_iret C hr hlocks G (Nat.le_of_ble_eq_true rfl) (Nat.le_of_ble_eq_true rfl) dX0_unlike_52 ⟨rfl, (by rw [hu]; exact congrArg (aUn (aW cr inn k1) x.toInt.toNat y.toInt.toNat) (by omega))⟩)
  · have c_13n : ¬ cr.toInt ≤ (i : Int) := fun q => c_13 ((fa_le _ _).mpr (by rw [nI_toInt (n := i) (by omega)]; exact q))
    refine lv_iload_n hx hb dX0_unlike_17 rfl (lv_at hl 1 rfl) ?_
    refine lv_aload_n hx hb dX0_unlike_18 rfl (lv_at hl 2 rfl) ?_
    refine lv_iload_n hx hb dX0_unlike_19 rfl (lv_at hl 3 rfl) ?_
    refine lv_iload hx hb dX0_unlike_20 (lv_at hl 0 rfl) ?_
    have hw_16 : bWays T h la md wy pc_ f1 f2 f3 f4 f5 f6 n4 [zO0 h md wy la pc_ a1_1 a2_2 a3_3 a4_4 a5_5 a6_6, zAr T 0 a1_1 7 f1, zAr T 0 a2_2 7 f2, zAr T 0 a3_3 7 f3, zAr T 0 a4_4 n4 f4, zAr T 0 a5_5 n4 f5, zAr T 0 a6_6 n4 f6] := ⟨a1_1, a2_2, a3_3, a4_4, a5_5, a6_6, rfl⟩
    have G : zS T A s.heap s [[zO0 h md wy la pc_ a1_1 a2_2 a3_3 a4_4 a5_5 a6_6, zAr T 0 a1_1 7 f1, zAr T 0 a2_2 7 f2, zAr T 0 a3_3 7 f3, zAr T 0 a4_4 n4 f4, zAr T 0 a5_5 n4 f5, zAr T 0 a6_6 n4 f6], [zO4 la cr inn a1_7 a2_8 a3_9 a4_10], [zAr T 0 a1_7 7 k1], [zAr T 0 a2_8 28 k2], [zAr T 0 a3_9 7 k3], [zAr T 0 a4_10 7 k4]] _ _ := G.re rfl
    refine z_Vi (bc := [[zO0 h md wy la pc_ a1_1 a2_2 a3_3 a4_4 a5_5 a6_6, zAr T 0 a1_1 7 f1, zAr T 0 a2_2 7 f2, zAr T 0 a3_3 7 f3, zAr T 0 a4_4 n4 f4, zAr T 0 a5_5 n4 f5, zAr T 0 a6_6 n4 f6]]) (br := [[zO4 la cr inn a1_7 a2_8 a3_9 a4_10], [zAr T 0 a1_7 7 k1], [zAr T 0 a2_8 28 k2], [zAr T 0 a3_9 7 k3], [zAr T 0 a4_10 7 k4]]) (As := [.int x, .int (nI i)]) (rest := [.int u3]) C G (c_road l T h la md wy pc_ f1 f2 f3 f4 f5 f6 n4 ([zO0 h md wy la pc_ a1_1 a2_2 a3_3 a4_4 a5_5 a6_6, zAr T 0 a1_1 7 f1, zAr T 0 a2_2 7 f2, zAr T 0 a3_3 7 f3, zAr T 0 a4_4 n4 f4, zAr T 0 a5_5 n4 f5, zAr T 0 a6_6 n4 f6]) x (nI i) hw_16) (kV_RX0_81 C.2.2.2.2 (Nat.le_of_ble_eq_true rfl) (Nat.le_of_ble_eq_true rfl)) [0] [0] rfl rfl (ci := 0) (qc := (RX0, TX0, 10)) rfl rfl (List.mem_flatten.mpr ⟨_, List.mem_of_getElem? (i := 0) rfl, (bWays_mem hw_16).choose_spec⟩) rfl rfl hl.1 dX0_unlike_22 (Nat.le_of_ble_eq_true rfl) (Nat.le_of_ble_eq_true rfl) (fun r_18 b1 H locs hw G => ?_)
    refine zAn2 hw ?_
    intro hbs9 h_17
    clear hw
    subst hbs9
    have G : zS T A s.heap s [[zO4 la cr inn a1_7 a2_8 a3_9 a4_10], [zAr T 0 a1_7 7 k1], [zAr T 0 a2_8 28 k2], [zAr T 0 a3_9 7 k3], [zAr T 0 a4_10 7 k4], [zO0 h md wy la pc_ a1_1 a2_2 a3_3 a4_4 a5_5 a6_6, zAr T 0 a1_1 7 f1, zAr T 0 a2_2 7 f2, zAr T 0 a3_3 7 f3, zAr T 0 a4_4 n4 f4, zAr T 0 a5_5 n4 f5, zAr T 0 a6_6 n4 f6]] _ _ := G
    subst h_17
    refine lv_aload_n hx hb dX0_unlike_25 rfl (lv_at hl 2 rfl) ?_
    refine lv_iload_n hx hb dX0_unlike_26 rfl (lv_at hl 4 rfl) ?_
    refine lv_iload hx hb dX0_unlike_27 (lv_at hl 0 rfl) ?_
    refine z_Vi (bc := [[zO0 h md wy la pc_ a1_1 a2_2 a3_3 a4_4 a5_5 a6_6, zAr T 0 a1_1 7 f1, zAr T 0 a2_2 7 f2, zAr T 0 a3_3 7 f3, zAr T 0 a4_4 n4 f4, zAr T 0 a5_5 n4 f5, zAr T 0 a6_6 n4 f6]]) (br := [[zO4 la cr inn a1_7 a2_8 a3_9 a4_10], [zAr T 0 a1_7 7 k1], [zAr T 0 a2_8 28 k2], [zAr T 0 a3_9 7 k3], [zAr T 0 a4_10 7 k4]]) (As := [.int y, .int (nI i)]) (rest := [.int (zRoad f1 f2 x (nI i)), .int u3]) C G (c_road l T h la md wy pc_ f1 f2 f3 f4 f5 f6 n4 ([zO0 h md wy la pc_ a1_1 a2_2 a3_3 a4_4 a5_5 a6_6, zAr T 0 a1_1 7 f1, zAr T 0 a2_2 7 f2, zAr T 0 a3_3 7 f3, zAr T 0 a4_4 n4 f4, zAr T 0 a5_5 n4 f5, zAr T 0 a6_6 n4 f6]) y (nI i) hw_16) (kV_RX0_81 C.2.2.2.2 (Nat.le_of_ble_eq_true rfl) (Nat.le_of_ble_eq_true rfl)) [5] [5] rfl rfl (ci := 0) (qc := (RX0, TX0, 10)) rfl rfl (List.mem_flatten.mpr ⟨_, List.mem_of_getElem? (i := 0) rfl, (bWays_mem hw_16).choose_spec⟩) rfl rfl hl.1 dX0_unlike_29 (Nat.le_of_ble_eq_true rfl) (Nat.le_of_ble_eq_true rfl) (fun r_20 b1 H locs hw G => ?_)
    refine zAn2 hw ?_
    intro hbs9 h_19
    clear hw
    subst hbs9
    have G : zS T A s.heap s [[zO4 la cr inn a1_7 a2_8 a3_9 a4_10], [zAr T 0 a1_7 7 k1], [zAr T 0 a2_8 28 k2], [zAr T 0 a3_9 7 k3], [zAr T 0 a4_10 7 k4], [zO0 h md wy la pc_ a1_1 a2_2 a3_3 a4_4 a5_5 a6_6, zAr T 0 a1_1 7 f1, zAr T 0 a2_2 7 f2, zAr T 0 a3_3 7 f3, zAr T 0 a4_4 n4 f4, zAr T 0 a5_5 n4 f5, zAr T 0 a6_6 n4 f6]] _ _ := G
    subst h_19
    refine lv_icmp_eq (tgt := 42) hx hb dX0_unlike_32 (by decide) (fun c_21 => ?_) (fun c_21 => ?_)
    · have c_21n : (zRoad f1 f2 x (nI i)).toInt = (zRoad f1 f2 y (nI i)).toInt := (fa_eq _ _).mp c_21
      refine lv_iconst (v := 0) hx hb dX0_unlike_42 (by decide) ?_
      have hq9 : aCh (aW cr inn k1) i ≤ 4 := aCh_4 (inn := inn) hI i
      have hx9 : zRoad f1 f2 x (nI i) = aPo (aW cr inn k1) x.toInt.toNat i := (by have q9 := zRoad_z (inn := inn) hI hF (w := x.toInt.toNat) (c := i) (by omega) (by omega); rw [← (z_nI (x := x) (m := x.toInt.toNat) (by omega) (by omega))] at q9; exact q9)
      have hy9 : zRoad f1 f2 y (nI i) = aPo (aW cr inn k1) y.toInt.toNat i := (by have q9 := zRoad_z (inn := inn) hI hF (w := y.toInt.toNat) (c := i) (by omega) (by omega); rw [← (z_nI (x := y) (m := y.toInt.toNat) (by omega) (by omega))] at q9; exact q9)
      refine lv_topi (fun y_22 ey_22 => ?_)
      obtain rfl : y_22 = (if aRd (aW cr inn k1) x.toInt.toNat i = aRd (aW cr inn k1) y.toInt.toNat i then (0 : Int32) else (1 : Int32) <<< (nI i &&& 31)) := ey_22.trans ((if_pos ((aPo_q hq9 hx9 hy9).mp (by first | with_reducible assumption | assumption))).symm)
      refine lv_ior hx hb dX0_unlike_43 ?_
      refine lv_istore_n (lv' := [(3, .int (u3 ||| (if aRd (aW cr inn k1) x.toInt.toNat i = aRd (aW cr inn k1) y.toInt.toNat i then (0 : Int32) else (1 : Int32) <<< (nI i &&& 31)))), (4, .int (nI i)), (0, .ref h), (1, .int x), (2, .int y)]) hx hb dX0_unlike_44 rfl hl (by decide) (zLvf_h rfl) (fun ls hl => ?_)
      refine lv_iinc (v := nI (i + 1)) (lv' := [(4, .int (nI (i + 1))), (3, .int (u3 ||| (if aRd (aW cr inn k1) x.toInt.toNat i = aRd (aW cr inn k1) y.toInt.toNat i then (0 : Int32) else (1 : Int32) <<< (nI i &&& 31)))), (0, .ref h), (1, .int x), (2, .int y)]) hx hb dX0_unlike_45 hl (k := 1) rfl (z_inc i 1) (by decide) (zLvf_h rfl) (fun ls hl => ?_)
      refine lv_goto (tgt := 5) hx hb dX0_unlike_48 (by decide) ?_
      have hw_23 : bLand T la cr inn k1 k2 k3 k4 [zO4 la cr inn a1_7 a2_8 a3_9 a4_10, zAr T 0 a1_7 7 k1, zAr T 0 a2_8 28 k2, zAr T 0 a3_9 7 k3, zAr T 0 a4_10 7 k4] := ⟨a1_7, a2_8, a3_9, a4_10, rfl⟩
      have G : zS T A s.heap s [[zO4 la cr inn a1_7 a2_8 a3_9 a4_10, zAr T 0 a1_7 7 k1, zAr T 0 a2_8 28 k2, zAr T 0 a3_9 7 k3, zAr T 0 a4_10 7 k4], [zO0 h md wy la pc_ a1_1 a2_2 a3_3 a4_4 a5_5 a6_6, zAr T 0 a1_1 7 f1, zAr T 0 a2_2 7 f2, zAr T 0 a3_3 7 f3, zAr T 0 a4_4 n4 f4, zAr T 0 a5_5 n4 f5, zAr T 0 a6_6 n4 f6]] _ _ := G.re rfl
      have G := G.sub (bs' := [[zO0 h md wy la pc_ a1_1 a2_2 a3_3 a4_4 a5_5 a6_6, zAr T 0 a1_1 7 f1, zAr T 0 a2_2 7 f2, zAr T 0 a3_3 7 f3, zAr T 0 a4_4 n4 f4, zAr T 0 a5_5 n4 f5, zAr T 0 a6_6 n4 f6], [zO4 la cr inn a1_7 a2_8 a3_9 a4_10, zAr T 0 a1_7 7 k1, zAr T 0 a2_8 28 k2, zAr T 0 a3_9 7 k3, zAr T 0 a4_10 7 k4]]) [1, 0] rfl
      exact ih_5 (i + 1) (u3 ||| (if aRd (aW cr inn k1) x.toInt.toNat i = aRd (aW cr inn k1) y.toInt.toNat i then (0 : Int32) else (1 : Int32) <<< (nI i &&& 31))) (show (i + 1) ≤ cr.toInt.toNat ∧ (u3 ||| (if aRd (aW cr inn k1) x.toInt.toNat i = aRd (aW cr inn k1) y.toInt.toNat i then (0 : Int32) else (1 : Int32) <<< (nI i &&& 31))) = aUn (aW cr inn k1) x.toInt.toNat y.toInt.toNat (i + 1) from ⟨by omega, (by rw [hu]; rfl)⟩) (show cr.toInt.toNat - (i + 1) < cr.toInt.toNat - i from by omega) _ _ ls G (lv_sub hl [0, 1, 2, 3, 4] rfl)
    · have c_21n : ¬ (zRoad f1 f2 x (nI i)).toInt = (zRoad f1 f2 y (nI i)).toInt := fun q => c_21 ((fa_eq _ _).mpr q)
      refine lv_iconst (v := 1) hx hb dX0_unlike_35 (by decide) ?_
      refine lv_iload hx hb dX0_unlike_36 (lv_at hl 0 rfl) ?_
      refine lv_ishl hx hb dX0_unlike_38 ?_
      refine lv_goto (tgt := 43) hx hb dX0_unlike_39 (by decide) ?_
      have hq9 : aCh (aW cr inn k1) i ≤ 4 := aCh_4 (inn := inn) hI i
      have hx9 : zRoad f1 f2 x (nI i) = aPo (aW cr inn k1) x.toInt.toNat i := (by have q9 := zRoad_z (inn := inn) hI hF (w := x.toInt.toNat) (c := i) (by omega) (by omega); rw [← (z_nI (x := x) (m := x.toInt.toNat) (by omega) (by omega))] at q9; exact q9)
      have hy9 : zRoad f1 f2 y (nI i) = aPo (aW cr inn k1) y.toInt.toNat i := (by have q9 := zRoad_z (inn := inn) hI hF (w := y.toInt.toNat) (c := i) (by omega) (by omega); rw [← (z_nI (x := y) (m := y.toInt.toNat) (by omega) (by omega))] at q9; exact q9)
      refine lv_topi (fun y_24 ey_24 => ?_)
      obtain rfl : y_24 = (if aRd (aW cr inn k1) x.toInt.toNat i = aRd (aW cr inn k1) y.toInt.toNat i then (0 : Int32) else (1 : Int32) <<< (nI i &&& 31)) := ey_24.trans ((if_neg (fun q8 => absurd ((aPo_q hq9 hx9 hy9).mpr q8) (by first | with_reducible assumption | assumption))).symm)
      refine lv_ior hx hb dX0_unlike_43 ?_
      refine lv_istore_n (lv' := [(3, .int (u3 ||| (if aRd (aW cr inn k1) x.toInt.toNat i = aRd (aW cr inn k1) y.toInt.toNat i then (0 : Int32) else (1 : Int32) <<< (nI i &&& 31)))), (4, .int (nI i)), (0, .ref h), (1, .int x), (2, .int y)]) hx hb dX0_unlike_44 rfl hl (by decide) (zLvf_h rfl) (fun ls hl => ?_)
      refine lv_iinc (v := nI (i + 1)) (lv' := [(4, .int (nI (i + 1))), (3, .int (u3 ||| (if aRd (aW cr inn k1) x.toInt.toNat i = aRd (aW cr inn k1) y.toInt.toNat i then (0 : Int32) else (1 : Int32) <<< (nI i &&& 31)))), (0, .ref h), (1, .int x), (2, .int y)]) hx hb dX0_unlike_45 hl (k := 1) rfl (z_inc i 1) (by decide) (zLvf_h rfl) (fun ls hl => ?_)
      refine lv_goto (tgt := 5) hx hb dX0_unlike_48 (by decide) ?_
      have hw_25 : bLand T la cr inn k1 k2 k3 k4 [zO4 la cr inn a1_7 a2_8 a3_9 a4_10, zAr T 0 a1_7 7 k1, zAr T 0 a2_8 28 k2, zAr T 0 a3_9 7 k3, zAr T 0 a4_10 7 k4] := ⟨a1_7, a2_8, a3_9, a4_10, rfl⟩
      have G : zS T A s.heap s [[zO4 la cr inn a1_7 a2_8 a3_9 a4_10, zAr T 0 a1_7 7 k1, zAr T 0 a2_8 28 k2, zAr T 0 a3_9 7 k3, zAr T 0 a4_10 7 k4], [zO0 h md wy la pc_ a1_1 a2_2 a3_3 a4_4 a5_5 a6_6, zAr T 0 a1_1 7 f1, zAr T 0 a2_2 7 f2, zAr T 0 a3_3 7 f3, zAr T 0 a4_4 n4 f4, zAr T 0 a5_5 n4 f5, zAr T 0 a6_6 n4 f6]] _ _ := G.re rfl
      have G := G.sub (bs' := [[zO0 h md wy la pc_ a1_1 a2_2 a3_3 a4_4 a5_5 a6_6, zAr T 0 a1_1 7 f1, zAr T 0 a2_2 7 f2, zAr T 0 a3_3 7 f3, zAr T 0 a4_4 n4 f4, zAr T 0 a5_5 n4 f5, zAr T 0 a6_6 n4 f6], [zO4 la cr inn a1_7 a2_8 a3_9 a4_10, zAr T 0 a1_7 7 k1, zAr T 0 a2_8 28 k2, zAr T 0 a3_9 7 k3, zAr T 0 a4_10 7 k4]]) [1, 0] rfl
      exact ih_5 (i + 1) (u3 ||| (if aRd (aW cr inn k1) x.toInt.toNat i = aRd (aW cr inn k1) y.toInt.toNat i then (0 : Int32) else (1 : Int32) <<< (nI i &&& 31))) (show (i + 1) ≤ cr.toInt.toNat ∧ (u3 ||| (if aRd (aW cr inn k1) x.toInt.toNat i = aRd (aW cr inn k1) y.toInt.toNat i then (0 : Int32) else (1 : Int32) <<< (nI i &&& 31))) = aUn (aW cr inn k1) x.toInt.toNat y.toInt.toNat (i + 1) from ⟨by omega, (by rw [hu]; rfl)⟩) (show cr.toInt.toNat - (i + 1) < cr.toInt.toNat - i from by omega) _ _ ls G (lv_sub hl [0, 1, 2, 3, 4] rfl)
set_option maxHeartbeats 4000000 in
set_option maxRecDepth 100000 in
/-- c_f_wayTold -/
theorem c_f_wayTold (l : Launch) (T : zTy) (h : Nat) (la : Nat) (md : Int32) (wy : Int32) (pc_ : Int32) (f1 : Nat → Int32) (f2 : Nat → Int32) (f3 : Nat → Int32) (f4 : Nat → Int32) (f5 : Nat → Int32) (f6 : Nat → Int32) (n4 : Nat) (ww : va_W) (cr : Int32) (inn : Int32) (k1 : Nat → Int32) (k2 : Nat → Int32) (k3 : Nat → Int32) (k4 : Nat → Int32) (z : va_W) (hww : bWays T h la md wy pc_ f1 f2 f3 f4 f5 f6 n4 ww) (hz : bLand T la cr inn k1 k2 k3 k4 z) (hI : zLI cr k1 k3) (hF : aF cr inn k1 f1 f2) (hO : aOk (aW cr inn k1) k2) : zMi l T yX0_wayTold cX0_wayTold 3 (some .int) 2 0 0 [.ref h] [ww, z] (fun (r : Int32) bs => bs = [ww, z] ∧ r = nI (aRs (aW cr inn k1) k3 7)) := by
  refine zMi_of (own := RX0) (by decide) rfl (Nat.le_of_ble_eq_true rfl) ?_
  intro p e s m args below meth c A ls C hr hlocks hnm hAe G hl
  refine zHide (fun Qz_ hQz_ => ?_)
  have hx := C.1
  have hb := C.2.1
  have hl : lv_has ls 3 [(0, .ref h)] := hl
  have hcr := hI.1
  refine lv_iconst (v := 0) hx hb dX0_wayTold_0 (by decide) ?_
  refine lv_istore_n (lv' := [(1, .int 0), (0, .ref h)]) hx hb dX0_wayTold_1 rfl hl (by decide) (zLvf_h rfl) (fun ls hl => ?_)
  refine lv_iconst (v := 0) hx hb dX0_wayTold_2 (by decide) ?_
  refine lv_istore_n (lv' := [(2, .int 0), (1, .int 0), (0, .ref h)]) hx hb dX0_wayTold_3 rfl hl (by decide) (zLvf_h rfl) (fun ls hl => ?_)
  refine zEx6 hww ?_
  intro a1_1 a2_2 a3_3 a4_4 a5_5 a6_6 hbs9
  clear hww
  subst hbs9
  have G : zS T A s.heap s [[zO0 h md wy la pc_ a1_1 a2_2 a3_3 a4_4 a5_5 a6_6], [zAr T 0 a1_1 7 f1], [zAr T 0 a2_2 7 f2], [zAr T 0 a3_3 7 f3], [zAr T 0 a4_4 n4 f4], [zAr T 0 a5_5 n4 f5], [zAr T 0 a6_6 n4 f6], z] _ _ := G.re rfl
  refine zEx4 hz ?_
  intro a1_7 a2_8 a3_9 a4_10 hbs9
  clear hz
  subst hbs9
  have G : zS T A s.heap s [[zO0 h md wy la pc_ a1_1 a2_2 a3_3 a4_4 a5_5 a6_6], [zAr T 0 a1_1 7 f1], [zAr T 0 a2_2 7 f2], [zAr T 0 a3_3 7 f3], [zAr T 0 a4_4 n4 f4], [zAr T 0 a5_5 n4 f5], [zAr T 0 a6_6 n4 f6], [zO4 la cr inn a1_7 a2_8 a3_9 a4_10], [zAr T 0 a1_7 7 k1], [zAr T 0 a2_8 28 k2], [zAr T 0 a3_9 7 k3], [zAr T 0 a4_10 7 k4]] _ _ := G.re rfl
  have hw_11 : bWays T h la md wy pc_ f1 f2 f3 f4 f5 f6 n4 [zO0 h md wy la pc_ a1_1 a2_2 a3_3 a4_4 a5_5 a6_6, zAr T 0 a1_1 7 f1, zAr T 0 a2_2 7 f2, zAr T 0 a3_3 7 f3, zAr T 0 a4_4 n4 f4, zAr T 0 a5_5 n4 f5, zAr T 0 a6_6 n4 f6] := ⟨a1_1, a2_2, a3_3, a4_4, a5_5, a6_6, rfl⟩
  have G : zS T A s.heap s [[zO0 h md wy la pc_ a1_1 a2_2 a3_3 a4_4 a5_5 a6_6, zAr T 0 a1_1 7 f1, zAr T 0 a2_2 7 f2, zAr T 0 a3_3 7 f3, zAr T 0 a4_4 n4 f4, zAr T 0 a5_5 n4 f5, zAr T 0 a6_6 n4 f6], [zO4 la cr inn a1_7 a2_8 a3_9 a4_10], [zAr T 0 a1_7 7 k1], [zAr T 0 a2_8 28 k2], [zAr T 0 a3_9 7 k3], [zAr T 0 a4_10 7 k4]] _ _ := G.re rfl
  have hw_12 : bLand T la cr inn k1 k2 k3 k4 [zO4 la cr inn a1_7 a2_8 a3_9 a4_10, zAr T 0 a1_7 7 k1, zAr T 0 a2_8 28 k2, zAr T 0 a3_9 7 k3, zAr T 0 a4_10 7 k4] := ⟨a1_7, a2_8, a3_9, a4_10, rfl⟩
  have G : zS T A s.heap s [[zO0 h md wy la pc_ a1_1 a2_2 a3_3 a4_4 a5_5 a6_6, zAr T 0 a1_1 7 f1, zAr T 0 a2_2 7 f2, zAr T 0 a3_3 7 f3, zAr T 0 a4_4 n4 f4, zAr T 0 a5_5 n4 f5, zAr T 0 a6_6 n4 f6], [zO4 la cr inn a1_7 a2_8 a3_9 a4_10, zAr T 0 a1_7 7 k1, zAr T 0 a2_8 28 k2, zAr T 0 a3_9 7 k3, zAr T 0 a4_10 7 k4]] _ _ := G.re rfl
  refine z_lp2 (T := T) 4 (fun (i : Nat) (u : Int32) => [[zO0 h md wy la pc_ a1_1 a2_2 a3_3 a4_4 a5_5 a6_6, zAr T 0 a1_1 7 f1, zAr T 0 a2_2 7 f2, zAr T 0 a3_3 7 f3, zAr T 0 a4_4 n4 f4, zAr T 0 a5_5 n4 f5, zAr T 0 a6_6 n4 f6], [zO4 la cr inn a1_7 a2_8 a3_9 a4_10, zAr T 0 a1_7 7 k1, zAr T 0 a2_8 28 k2, zAr T 0 a3_9 7 k3, zAr T 0 a4_10 7 k4]]) (fun (i : Nat) (u : Int32) => [(2, .int (nI i)), (1, .int u), (0, .ref h)]) (fun (i : Nat) (u : Int32) => i ≤ 7 ∧ u = nI (aFs (aW cr inn k1) k3 i)) (fun (i : Nat) (u : Int32) => 7 - i) ?_ 0 0 (show 0 ≤ 7 ∧ 0 = nI (aFs (aW cr inn k1) k3 0) from ⟨by omega, rfl⟩) G (lv_sub hl [0, 1, 2] rfl)
  intro i u hI9 ih_4 H locs ls G hl
  replace hI9 : i ≤ 7 ∧ u = nI (aFs (aW cr inn k1) k3 i) := hI9
  refine zAn2 hI9 ?_
  intro hi hu
  clear hI9
  replace G : zS T A s.heap s [[zO0 h md wy la pc_ a1_1 a2_2 a3_3 a4_4 a5_5 a6_6, zAr T 0 a1_1 7 f1, zAr T 0 a2_2 7 f2, zAr T 0 a3_3 7 f3, zAr T 0 a4_4 n4 f4, zAr T 0 a5_5 n4 f5, zAr T 0 a6_6 n4 f6], [zO4 la cr inn a1_7 a2_8 a3_9 a4_10, zAr T 0 a1_7 7 k1, zAr T 0 a2_8 28 k2, zAr T 0 a3_9 7 k3, zAr T 0 a4_10 7 k4]] _ _ := G
  replace hl : lv_has ls 3 [(2, .int (nI i)), (1, .int u), (0, .ref h)] := hl
  refine lv_iload_n hx hb dX0_wayTold_4 rfl (lv_at hl 0 rfl) ?_
  refine lv_bipush (v := 7) hx hb dX0_wayTold_5 (by decide) ?_
  refine lv_icmp_ge (tgt := 50) hx hb dX0_wayTold_7 (by decide) (fun c_13 => ?_) (fun c_13 => ?_)
  · have c_13n : 7 ≤ i := (nI_leI (a := 7) (b := i) (by omega) (by omega)).mp c_13
    refine lv_iload_n hx hb dX0_wayTold_50 rfl (lv_at hl 1 rfl) ?_
    exact z_back hQz_ (z_iret C hr hlocks G (Nat.le_of_ble_eq_true rfl) (Nat.le_of_ble_eq_true rfl) dX0_wayTold_51 ⟨rfl, (by rw [hu, show i = 7 by omega, aFs_7])⟩)
  · have c_13n : ¬ 7 ≤ i := fun q => c_13 ((nI_leI (a := 7) (b := i) (by omega) (by omega)).mpr q)
    refine lv_iload_n hx hb dX0_wayTold_10 rfl (lv_at hl 1 rfl) ?_
    refine lv_aload_n hx hb dX0_wayTold_11 rfl (lv_at hl 2 rfl) ?_
    have G : zS T A s.heap s [[zO0 h md wy la pc_ a1_1 a2_2 a3_3 a4_4 a5_5 a6_6], [zAr T 0 a1_1 7 f1], [zAr T 0 a2_2 7 f2], [zAr T 0 a3_3 7 f3], [zAr T 0 a4_4 n4 f4], [zAr T 0 a5_5 n4 f5], [zAr T 0 a6_6 n4 f6], [zO4 la cr inn a1_7 a2_8 a3_9 a4_10, zAr T 0 a1_7 7 k1, zAr T 0 a2_8 28 k2, zAr T 0 a3_9 7 k3, zAr T 0 a4_10 7 k4]] _ _ := G.re rfl
    refine z_get C G clX0 0 rfl 2 (by decide) m_fl_RX0_14 rfl dX0_wayTold_12 ?_
    refine lv_iload_n hx hb dX0_wayTold_15 rfl (lv_at hl 0 rfl) ?_
    refine z_Vi (bc := [[zO4 la cr inn a1_7 a2_8 a3_9 a4_10, zAr T 0 a1_7 7 k1, zAr T 0 a2_8 28 k2, zAr T 0 a3_9 7 k3, zAr T 0 a4_10 7 k4]]) (br := [[zO0 h md wy la pc_ a1_1 a2_2 a3_3 a4_4 a5_5 a6_6], [zAr T 0 a1_1 7 f1], [zAr T 0 a2_2 7 f2], [zAr T 0 a3_3 7 f3], [zAr T 0 a4_4 n4 f4], [zAr T 0 a5_5 n4 f5], [zAr T 0 a6_6 n4 f6]]) (As := [.int (nI i)]) (rest := [.int u]) C G (c_waysOut l T la cr inn k1 k2 k3 k4 ([zO4 la cr inn a1_7 a2_8 a3_9 a4_10, zAr T 0 a1_7 7 k1, zAr T 0 a2_8 28 k2, zAr T 0 a3_9 7 k3, zAr T 0 a4_10 7 k4]) (nI i) hw_12) (kV_RX0_61 C.2.2.2.2 (Nat.le_of_ble_eq_true rfl) (Nat.le_of_ble_eq_true rfl)) [7] [7] rfl rfl (ci := 4) (qc := (RX4, TX4, 6)) rfl rfl (List.mem_flatten.mpr ⟨_, List.mem_of_getElem? (i := 0) rfl, (bLand_mem hw_12).choose_spec⟩) rfl rfl hl.1 dX0_wayTold_16 (Nat.le_of_ble_eq_true rfl) (Nat.le_of_ble_eq_true rfl) (fun r_15 b1 H locs hw G => ?_)
    refine zAn2 hw ?_
    intro hbs9 h_14
    clear hw
    subst hbs9
    have G : zS T A s.heap s [[zO0 h md wy la pc_ a1_1 a2_2 a3_3 a4_4 a5_5 a6_6], [zAr T 0 a1_1 7 f1], [zAr T 0 a2_2 7 f2], [zAr T 0 a3_3 7 f3], [zAr T 0 a4_4 n4 f4], [zAr T 0 a5_5 n4 f5], [zAr T 0 a6_6 n4 f6], [zO4 la cr inn a1_7 a2_8 a3_9 a4_10, zAr T 0 a1_7 7 k1, zAr T 0 a2_8 28 k2, zAr T 0 a3_9 7 k3, zAr T 0 a4_10 7 k4]] _ _ := G
    subst h_14
    refine lv_if_le (tgt := 41) hx hb dX0_wayTold_19 (by decide) (fun c_16 => ?_) (fun c_16 => ?_)
    · have c_16n : (zWays cr inn k1 (nI i)).toInt ≤ (0 : Int) := (fa_le _ _).mp c_16
      refine lv_iconst (v := 0) hx hb dX0_wayTold_41 (by decide) ?_
      have hk9 := hI.2.2 i (by omega)
      refine lv_topi (fun y_17 ey_17 => ?_)
      obtain rfl : y_17 = nI (aDg (aW cr inn k1) k3 i * aPr (aW cr inn k1) (6 - i)) := ey_17.trans ((by unfold aDg; rw [if_neg (show ¬ 0 < ((aW cr inn k1) i).toInt from (by show ¬ 0 < (zWays cr inn k1 (nI i)).toInt; omega)), Nat.zero_mul]; rfl))
      refine lv_iadd hx hb dX0_wayTold_42 ?_
      refine lv_istore_n (lv' := [(1, .int (u + (nI (aDg (aW cr inn k1) k3 i * aPr (aW cr inn k1) (6 - i))))), (2, .int (nI i)), (0, .ref h)]) hx hb dX0_wayTold_43 rfl hl (by decide) (zLvf_h rfl) (fun ls hl => ?_)
      refine lv_iinc (v := nI (i + 1)) (lv' := [(2, .int (nI (i + 1))), (1, .int (u + (nI (aDg (aW cr inn k1) k3 i * aPr (aW cr inn k1) (6 - i))))), (0, .ref h)]) hx hb dX0_wayTold_44 hl (k := 1) rfl (z_inc i 1) (by decide) (zLvf_h rfl) (fun ls hl => ?_)
      refine lv_goto (tgt := 4) hx hb dX0_wayTold_47 (by decide) ?_
      have hw_18 : bWays T h la md wy pc_ f1 f2 f3 f4 f5 f6 n4 [zO0 h md wy la pc_ a1_1 a2_2 a3_3 a4_4 a5_5 a6_6, zAr T 0 a1_1 7 f1, zAr T 0 a2_2 7 f2, zAr T 0 a3_3 7 f3, zAr T 0 a4_4 n4 f4, zAr T 0 a5_5 n4 f5, zAr T 0 a6_6 n4 f6] := ⟨a1_1, a2_2, a3_3, a4_4, a5_5, a6_6, rfl⟩
      have G : zS T A s.heap s [[zO0 h md wy la pc_ a1_1 a2_2 a3_3 a4_4 a5_5 a6_6, zAr T 0 a1_1 7 f1, zAr T 0 a2_2 7 f2, zAr T 0 a3_3 7 f3, zAr T 0 a4_4 n4 f4, zAr T 0 a5_5 n4 f5, zAr T 0 a6_6 n4 f6], [zO4 la cr inn a1_7 a2_8 a3_9 a4_10, zAr T 0 a1_7 7 k1, zAr T 0 a2_8 28 k2, zAr T 0 a3_9 7 k3, zAr T 0 a4_10 7 k4]] _ _ := G.re rfl
      exact ih_4 (i + 1) (u + (nI (aDg (aW cr inn k1) k3 i * aPr (aW cr inn k1) (6 - i)))) (show (i + 1) ≤ 7 ∧ (u + (nI (aDg (aW cr inn k1) k3 i * aPr (aW cr inn k1) (6 - i)))) = nI (aFs (aW cr inn k1) k3 (i + 1)) from ⟨by omega, (by rw [hu, nI_add]; rfl)⟩) (show 7 - (i + 1) < 7 - i from by omega) _ _ ls G (lv_sub hl [0, 1, 2] rfl)
    · have c_16n : ¬ (zWays cr inn k1 (nI i)).toInt ≤ (0 : Int) := fun q => c_16 ((fa_le _ _).mpr q)
      refine lv_aload_n hx hb dX0_wayTold_22 rfl (lv_at hl 2 rfl) ?_
      refine z_get C G clX0 0 rfl 2 (by decide) m_fl_RX0_14 rfl dX0_wayTold_23 ?_
      have G : zS T A s.heap s [[zO0 h md wy la pc_ a1_1 a2_2 a3_3 a4_4 a5_5 a6_6], [zAr T 0 a1_1 7 f1], [zAr T 0 a2_2 7 f2], [zAr T 0 a3_3 7 f3], [zAr T 0 a4_4 n4 f4], [zAr T 0 a5_5 n4 f5], [zAr T 0 a6_6 n4 f6], [zO4 la cr inn a1_7 a2_8 a3_9 a4_10], [zAr T 0 a1_7 7 k1], [zAr T 0 a2_8 28 k2], [zAr T 0 a3_9 7 k3], [zAr T 0 a4_10 7 k4]] _ _ := G.re rfl
      refine z_get C G clX4 7 rfl 4 (by decide) m_fl_RX0_104 rfl dX0_wayTold_26 ?_
      refine lv_iload_n hx hb dX0_wayTold_29 rfl (lv_at hl 0 rfl) ?_
      refine z_ild C G 10 rfl (vp_in_nI (by omega) (by decide)) dX0_wayTold_30 ?_
      refine lv_topi (fun v_19 ev_19 => ?_)
      rw [nI_clamp (by omega)] at ev_19
      subst ev_19
      refine lv_aload_n hx hb dX0_wayTold_31 rfl (lv_at hl 2 rfl) ?_
      refine z_get C G clX0 0 rfl 5 (by decide) m_fl_RX0_22 rfl dX0_wayTold_32 ?_
      refine lv_iload_n hx hb dX0_wayTold_35 rfl (lv_at hl 0 rfl) ?_
      refine z_ild C G 2 rfl (vp_in_nI (by omega) (by decide)) dX0_wayTold_36 ?_
      refine lv_topi (fun v_20 ev_20 => ?_)
      rw [nI_clamp (by omega)] at ev_20
      subst ev_20
      refine lv_imul hx hb dX0_wayTold_37 ?_
      refine lv_goto (tgt := 42) hx hb dX0_wayTold_38 (by decide) ?_
      have hk9 := hI.2.2 i (by omega)
      refine lv_topi (fun y_21 ey_21 => ?_)
      obtain rfl : y_21 = nI (aDg (aW cr inn k1) k3 i * aPr (aW cr inn k1) (6 - i)) := ey_21.trans ((by unfold aDg; rw [if_pos (show 0 < ((aW cr inn k1) i).toInt from (by show 0 < (zWays cr inn k1 (nI i)).toInt; omega)), hF.2 i (by omega), aWyN_z hI _ (by omega), ← pk_mul]; exact congrArg (fun q => q * nI (aPr (aW cr inn k1) (6 - i))) (z_nI (by omega) (by omega))))
      refine lv_iadd hx hb dX0_wayTold_42 ?_
      refine lv_istore_n (lv' := [(1, .int (u + (nI (aDg (aW cr inn k1) k3 i * aPr (aW cr inn k1) (6 - i))))), (2, .int (nI i)), (0, .ref h)]) hx hb dX0_wayTold_43 rfl hl (by decide) (zLvf_h rfl) (fun ls hl => ?_)
      refine lv_iinc (v := nI (i + 1)) (lv' := [(2, .int (nI (i + 1))), (1, .int (u + (nI (aDg (aW cr inn k1) k3 i * aPr (aW cr inn k1) (6 - i))))), (0, .ref h)]) hx hb dX0_wayTold_44 hl (k := 1) rfl (z_inc i 1) (by decide) (zLvf_h rfl) (fun ls hl => ?_)
      refine lv_goto (tgt := 4) hx hb dX0_wayTold_47 (by decide) ?_
      have hw_22 : bWays T h la md wy pc_ f1 f2 f3 f4 f5 f6 n4 [zO0 h md wy la pc_ a1_1 a2_2 a3_3 a4_4 a5_5 a6_6, zAr T 0 a1_1 7 f1, zAr T 0 a2_2 7 f2, zAr T 0 a3_3 7 f3, zAr T 0 a4_4 n4 f4, zAr T 0 a5_5 n4 f5, zAr T 0 a6_6 n4 f6] := ⟨a1_1, a2_2, a3_3, a4_4, a5_5, a6_6, rfl⟩
      have G : zS T A s.heap s [[zO0 h md wy la pc_ a1_1 a2_2 a3_3 a4_4 a5_5 a6_6, zAr T 0 a1_1 7 f1, zAr T 0 a2_2 7 f2, zAr T 0 a3_3 7 f3, zAr T 0 a4_4 n4 f4, zAr T 0 a5_5 n4 f5, zAr T 0 a6_6 n4 f6], [zO4 la cr inn a1_7 a2_8 a3_9 a4_10], [zAr T 0 a1_7 7 k1], [zAr T 0 a2_8 28 k2], [zAr T 0 a3_9 7 k3], [zAr T 0 a4_10 7 k4]] _ _ := G.re rfl
      have hw_23 : bLand T la cr inn k1 k2 k3 k4 [zO4 la cr inn a1_7 a2_8 a3_9 a4_10, zAr T 0 a1_7 7 k1, zAr T 0 a2_8 28 k2, zAr T 0 a3_9 7 k3, zAr T 0 a4_10 7 k4] := ⟨a1_7, a2_8, a3_9, a4_10, rfl⟩
      have G : zS T A s.heap s [[zO0 h md wy la pc_ a1_1 a2_2 a3_3 a4_4 a5_5 a6_6, zAr T 0 a1_1 7 f1, zAr T 0 a2_2 7 f2, zAr T 0 a3_3 7 f3, zAr T 0 a4_4 n4 f4, zAr T 0 a5_5 n4 f5, zAr T 0 a6_6 n4 f6], [zO4 la cr inn a1_7 a2_8 a3_9 a4_10, zAr T 0 a1_7 7 k1, zAr T 0 a2_8 28 k2, zAr T 0 a3_9 7 k3, zAr T 0 a4_10 7 k4]] _ _ := G.re rfl
      exact ih_4 (i + 1) (u + (nI (aDg (aW cr inn k1) k3 i * aPr (aW cr inn k1) (6 - i)))) (show (i + 1) ≤ 7 ∧ (u + (nI (aDg (aW cr inn k1) k3 i * aPr (aW cr inn k1) (6 - i)))) = nI (aFs (aW cr inn k1) k3 (i + 1)) from ⟨by omega, (by rw [hu, nI_add]; rfl)⟩) (show 7 - (i + 1) < 7 - i from by omega) _ _ ls G (lv_sub hl [0, 1, 2] rfl)
/-- the greatest that parts both, by steps -/
def zEu : Nat → Nat → Nat → Nat
  | 0, a, _ => a
  | n + 1, a, b => if b = 0 then a else zEu n b (a % b)
theorem zEu_g : ∀ (k n a b : Nat), b < 2 ^ k → 2 * k ≤ n → zEu n a b = Nat.gcd a b
  | 0, n, a, b, hb, _ => by
    have e : b = 0 := by omega
    subst e
    rw [Nat.gcd_zero_right]
    cases n with
    | zero => rfl
    | succ n => exact if_pos rfl
  | k + 1, n, a, b, hb, hn => by
    obtain ⟨m, rfl⟩ : ∃ m, n = m + 2 := ⟨n - 2, by omega⟩
    by_cases q : b = 0
    · subst q
      rw [Nat.gcd_zero_right]
      exact if_pos rfl
    · have e1 : zEu (m + 2) a b = zEu (m + 1) b (a % b) := if_neg q
      rw [e1]
      by_cases r : a % b = 0
      · have e2 : zEu (m + 1) b (a % b) = b := if_pos r
        rw [e2, Nat.gcd_comm, Nat.gcd_rec, r, Nat.gcd_zero_left]
      · have e2 : zEu (m + 1) b (a % b) = zEu m (a % b) (b % (a % b)) := if_neg r
        have l1 := Nat.mod_lt a (Nat.pos_of_ne_zero q)
        have l2 := Nat.mod_lt b (Nat.pos_of_ne_zero r)
        have l3 : b % (a % b) + (a % b) ≤ b := by
          have e := Nat.div_add_mod b (a % b)
          have d : 1 ≤ b / (a % b) := (Nat.le_div_iff_mul_le (Nat.pos_of_ne_zero r)).mpr (by omega)
          have m2 : (a % b) * 1 ≤ (a % b) * (b / (a % b)) := Nat.mul_le_mul_left _ d
          omega
        have h2 : 2 ^ (k + 1) = 2 ^ k * 2 := Nat.pow_succ ..
        rw [e2, zEu_g k m (a % b) (b % (a % b)) (by omega) (by omega)]
        exact ((Nat.gcd_comm a b).trans ((Nat.gcd_rec b a).trans ((Nat.gcd_rec (a % b) b).trans (Nat.gcd_comm _ _)))).symm
/-- in least terms -/
def zLt_ (a b : Nat) (u : Int32) : Int32 := nI ((if u = 0 then a else b) / Nat.gcd a b)

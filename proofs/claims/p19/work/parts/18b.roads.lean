theorem z_P3 {cr inn : Int32} {k1 k3 g1 g3 : Nat → Int32} (hI : zLI cr k1 k3) (h1 : ∀ j, j < 7 → g1 j = k3 j) (h3 : ∀ j, j < 7 → g3 j = zWays cr inn k1 (nI j)) : zP3 g1 g3 := by
  intro j hj
  rw [h1 j hj, h3 j hj]
  exact ⟨zWays_le hI _, hI.2.2 j hj⟩
def zSprR (cr : Int32) (f1 f2 : Nat → Int32) (x : Int32) : Nat → Int32 → Int32
  | 0, v => v
  | n + 1, v => zSprR cr f1 f2 x n v ||| (1 <<< (zTarget cr f1 f2 x (nI n) &&& 31))
def zSprC (cr inn : Int32) (f1 f2 : Nat → Int32) (bits : Int32) : Nat → Int32
  | 0 => bits
  | n + 1 => if zBit bits (nI n) = 0 then zSprC cr inn f1 f2 bits n else zSprR cr f1 f2 (nI n) (zWays cr inn f1 (nI n)).toInt.toNat (zSprC cr inn f1 f2 bits n)
def zSpread (cr inn : Int32) (f1 f2 : Nat → Int32) (bits : Int32) : Int32 := zSprC cr inn f1 f2 bits cr.toInt.toNat
def zSeen (cr inn : Int32) (f1 f2 : Nat → Int32) (v : Int32) : Nat → Int32
  | 0 => v
  | n + 1 => zSpread cr inn f1 f2 (zSeen cr inn f1 f2 v n)
set_option maxHeartbeats 4000000 in
set_option maxRecDepth 100000 in
/-- c_spread -/
theorem c_spread (l : Launch) (T : zTy) (h : Nat) (cr : Int32) (inn : Int32) (f1 : Nat → Int32) (f2 : Nat → Int32) (f3 : Nat → Int32) (f4 : Nat → Int32) (w : va_W) (b : Int32) (hw : bLand T h cr inn f1 f2 f3 f4 w) (hI : zLI cr f1 f3) : zMi l T yX8_spread cX8_spread 5 (some .int) 3 0 0 [.ref h, .int b] [w] (fun (r : Int32) bs => bs = [w] ∧ r = zSpread cr inn f1 f2 b) := by
  refine zMi_of (own := RX8) (by decide) rfl (Nat.le_of_ble_eq_true rfl) ?_
  intro p e s m args below meth c A ls C hr hlocks hnm hAe G hl
  refine zHide (fun Q9 hQ9 => ?_)
  have hx := C.1
  have hb := C.2.1
  have hl : lv_has ls 5 [(0, .ref h), (1, .int b)] := hl
  have hcr := hI.1
  refine lv_iload_n hx hb dX8_spread_0 rfl (lv_at hl 1 rfl) ?_
  refine lv_istore_n (lv' := [(2, .int b), (0, .ref h), (1, .int b)]) hx hb dX8_spread_1 rfl hl (by decide) rfl (fun ls hl => ?_)
  refine lv_iconst (v := 0) hx hb dX8_spread_2 (by decide) ?_
  refine lv_istore_n (lv' := [(3, .int 0), (2, .int b), (0, .ref h), (1, .int b)]) hx hb dX8_spread_3 rfl hl (by decide) rfl (fun ls hl => ?_)
  refine zEx4 hw ?_
  intro a1_1 a2_2 a3_3 a4_4 hbs9
  clear hw
  subst hbs9
  have G : zS T A s.heap s [[zO4 h cr inn a1_1 a2_2 a3_3 a4_4], [zAr T 0 a1_1 7 f1], [zAr T 0 a2_2 28 f2], [zAr T 0 a3_3 7 f3], [zAr T 0 a4_4 7 f4]] _ _ := G.re rfl
  have hw_5 : bLand T h cr inn f1 f2 f3 f4 [zO4 h cr inn a1_1 a2_2 a3_3 a4_4, zAr T 0 a1_1 7 f1, zAr T 0 a2_2 28 f2, zAr T 0 a3_3 7 f3, zAr T 0 a4_4 7 f4] := ⟨a1_1, a2_2, a3_3, a4_4, rfl⟩
  have G : zS T A s.heap s [[zO4 h cr inn a1_1 a2_2 a3_3 a4_4, zAr T 0 a1_1 7 f1, zAr T 0 a2_2 28 f2, zAr T 0 a3_3 7 f3, zAr T 0 a4_4 7 f4]] _ _ := G.re rfl
  refine z_lp2 (T := T) 4 (fun (i : Nat) (v : Int32) => [[zO4 h cr inn a1_1 a2_2 a3_3 a4_4, zAr T 0 a1_1 7 f1, zAr T 0 a2_2 28 f2, zAr T 0 a3_3 7 f3, zAr T 0 a4_4 7 f4]]) (fun (i : Nat) (v : Int32) => [(3, .int (nI i)), (2, .int v), (0, .ref h), (1, .int b)]) (fun (i : Nat) (v : Int32) => i ≤ cr.toInt.toNat ∧ v = zSprC cr inn f1 f2 b i) (fun (i : Nat) (v : Int32) => cr.toInt.toNat - i) ?_ 0 b (show 0 ≤ cr.toInt.toNat ∧ b = zSprC cr inn f1 f2 b 0 from ⟨by omega, rfl⟩) G (lv_sub hl [0, 1, 2, 3] rfl)
  intro i v hI9 ih_4 H locs ls G hl
  replace hI9 : i ≤ cr.toInt.toNat ∧ v = zSprC cr inn f1 f2 b i := hI9
  refine zAn2 hI9 ?_
  intro hi hv
  clear hI9
  replace G : zS T A s.heap s [[zO4 h cr inn a1_1 a2_2 a3_3 a4_4, zAr T 0 a1_1 7 f1, zAr T 0 a2_2 28 f2, zAr T 0 a3_3 7 f3, zAr T 0 a4_4 7 f4]] _ _ := G
  replace hl : lv_has ls 5 [(3, .int (nI i)), (2, .int v), (0, .ref h), (1, .int b)] := hl
  refine lv_iload_n hx hb dX8_spread_4 rfl (lv_at hl 0 rfl) ?_
  refine lv_aload_n hx hb dX8_spread_5 rfl (lv_at hl 2 rfl) ?_
  have G : zS T A s.heap s [[zO4 h cr inn a1_1 a2_2 a3_3 a4_4], [zAr T 0 a1_1 7 f1], [zAr T 0 a2_2 28 f2], [zAr T 0 a3_3 7 f3], [zAr T 0 a4_4 7 f4]] _ _ := G.re rfl
  refine z_get C G clX4 0 rfl 0 (by decide) m_fl_RX8_9 rfl dX8_spread_6 ?_
  refine lv_icmp_ge (tgt := 57) hx hb dX8_spread_9 (by decide) (fun c_6 => ?_) (fun c_6 => ?_)
  · have c_6n : cr.toInt ≤ (i : Int) := by have q := (fa_le _ _).mp c_6; rw [nI_toInt (n := i) (by omega)] at q; exact q
    refine lv_iload_n hx hb dX8_spread_57 rfl (lv_at hl 1 rfl) ?_
    have hw_7 : bLand T h cr inn f1 f2 f3 f4 [zO4 h cr inn a1_1 a2_2 a3_3 a4_4, zAr T 0 a1_1 7 f1, zAr T 0 a2_2 28 f2, zAr T 0 a3_3 7 f3, zAr T 0 a4_4 7 f4] := ⟨a1_1, a2_2, a3_3, a4_4, rfl⟩
    have G : zS T A s.heap s [[zO4 h cr inn a1_1 a2_2 a3_3 a4_4, zAr T 0 a1_1 7 f1, zAr T 0 a2_2 28 f2, zAr T 0 a3_3 7 f3, zAr T 0 a4_4 7 f4]] _ _ := G.re rfl
    exact z_back hQ9 (z_iret C hr hlocks G (Nat.le_of_ble_eq_true rfl) (Nat.le_of_ble_eq_true rfl) dX8_spread_58 ⟨rfl, (by rw [hv, show i = cr.toInt.toNat by omega]; rfl)⟩)
  · have c_6n : ¬ cr.toInt ≤ (i : Int) := fun q => c_6 ((fa_le _ _).mpr (by rw [nI_toInt (n := i) (by omega)]; exact q))
    refine lv_iload_n hx hb dX8_spread_12 rfl (lv_at hl 3 rfl) ?_
    refine lv_iload_n hx hb dX8_spread_13 rfl (lv_at hl 0 rfl) ?_
    refine lv_ishr hx hb dX8_spread_14 ?_
    refine lv_iconst (v := 1) hx hb dX8_spread_15 (by decide) ?_
    refine lv_iand hx hb dX8_spread_16 ?_
    refine lv_if_eq (tgt := 51) hx hb dX8_spread_17 (by decide) (fun c_8 => ?_) (fun c_8 => ?_)
    · have c_8n : ((b >>> ((nI i) &&& 31)) &&& 1).toInt = (0 : Int) := (fa_eq _ _).mp c_8
      refine lv_iinc (v := nI (i + 1)) (lv' := [(3, .int (nI (i + 1))), (2, .int v), (0, .ref h), (1, .int b)]) hx hb dX8_spread_51 hl (k := 0) rfl (z_inc i 1) (by decide) rfl (fun ls hl => ?_)
      refine lv_goto (tgt := 4) hx hb dX8_spread_54 (by decide) ?_
      have hw_9 : bLand T h cr inn f1 f2 f3 f4 [zO4 h cr inn a1_1 a2_2 a3_3 a4_4, zAr T 0 a1_1 7 f1, zAr T 0 a2_2 28 f2, zAr T 0 a3_3 7 f3, zAr T 0 a4_4 7 f4] := ⟨a1_1, a2_2, a3_3, a4_4, rfl⟩
      have G : zS T A s.heap s [[zO4 h cr inn a1_1 a2_2 a3_3 a4_4, zAr T 0 a1_1 7 f1, zAr T 0 a2_2 28 f2, zAr T 0 a3_3 7 f3, zAr T 0 a4_4 7 f4]] _ _ := G.re rfl
      exact ih_4 (i + 1) v (show (i + 1) ≤ cr.toInt.toNat ∧ v = zSprC cr inn f1 f2 b (i + 1) from ⟨by omega, by rw [zSprC, if_pos (by assumption)]; exact hv⟩) (show cr.toInt.toNat - (i + 1) < cr.toInt.toNat - i from by omega) _ _ ls G (lv_sub hl [0, 1, 2, 3] rfl)
    · have c_8n : ¬ ((b >>> ((nI i) &&& 31)) &&& 1).toInt = (0 : Int) := fun q => c_8 ((fa_eq _ _).mpr q)
      have hwl := zWays_le (inn := inn) hI (nI i)
      refine lv_iconst (v := 0) hx hb dX8_spread_20 (by decide) ?_
      refine lv_istore (lv' := [(4, .int 0), (3, .int (nI i)), (2, .int v), (0, .ref h), (1, .int b)]) hx hb dX8_spread_21 hl (by decide) rfl (fun ls hl => ?_)
      have hw_10 : bLand T h cr inn f1 f2 f3 f4 [zO4 h cr inn a1_1 a2_2 a3_3 a4_4, zAr T 0 a1_1 7 f1, zAr T 0 a2_2 28 f2, zAr T 0 a3_3 7 f3, zAr T 0 a4_4 7 f4] := ⟨a1_1, a2_2, a3_3, a4_4, rfl⟩
      have G : zS T A s.heap s [[zO4 h cr inn a1_1 a2_2 a3_3 a4_4, zAr T 0 a1_1 7 f1, zAr T 0 a2_2 28 f2, zAr T 0 a3_3 7 f3, zAr T 0 a4_4 7 f4]] _ _ := G.re rfl
      refine z_lp2 (T := T) 23 (fun (k : Nat) (v2 : Int32) => [[zO4 h cr inn a1_1 a2_2 a3_3 a4_4, zAr T 0 a1_1 7 f1, zAr T 0 a2_2 28 f2, zAr T 0 a3_3 7 f3, zAr T 0 a4_4 7 f4]]) (fun (k : Nat) (v2 : Int32) => [(4, .int (nI k)), (3, .int (nI i)), (2, .int v2), (0, .ref h), (1, .int b)]) (fun (k : Nat) (v2 : Int32) => k ≤ (zWays cr inn f1 (nI i)).toInt.toNat ∧ v2 = zSprR cr f1 f2 (nI i) k v) (fun (k : Nat) (v2 : Int32) => (zWays cr inn f1 (nI i)).toInt.toNat - k) ?_ 0 v (show 0 ≤ (zWays cr inn f1 (nI i)).toInt.toNat ∧ v = zSprR cr f1 f2 (nI i) 0 v from ⟨by omega, rfl⟩) G (lv_sub hl [0, 1, 2, 3, 4] rfl)
      intro k v2 hI9 ih_23 H locs ls G hl
      replace hI9 : k ≤ (zWays cr inn f1 (nI i)).toInt.toNat ∧ v2 = zSprR cr f1 f2 (nI i) k v := hI9
      refine zAn2 hI9 ?_
      intro hk hv2
      clear hI9
      replace G : zS T A s.heap s [[zO4 h cr inn a1_1 a2_2 a3_3 a4_4, zAr T 0 a1_1 7 f1, zAr T 0 a2_2 28 f2, zAr T 0 a3_3 7 f3, zAr T 0 a4_4 7 f4]] _ _ := G
      replace hl : lv_has ls 5 [(4, .int (nI k)), (3, .int (nI i)), (2, .int v2), (0, .ref h), (1, .int b)] := hl
      refine lv_iload hx hb dX8_spread_23 (lv_at hl 0 rfl) ?_
      refine lv_aload_n hx hb dX8_spread_25 rfl (lv_at hl 3 rfl) ?_
      refine lv_iload_n hx hb dX8_spread_26 rfl (lv_at hl 1 rfl) ?_
      refine z_Vi (bc := [[zO4 h cr inn a1_1 a2_2 a3_3 a4_4, zAr T 0 a1_1 7 f1, zAr T 0 a2_2 28 f2, zAr T 0 a3_3 7 f3, zAr T 0 a4_4 7 f4]]) (br := []) (As := [.int (nI i)]) (rest := [.int (nI k)]) C G (c_waysOut l T h cr inn f1 f2 f3 f4 ([zO4 h cr inn a1_1 a2_2 a3_3 a4_4, zAr T 0 a1_1 7 f1, zAr T 0 a2_2 28 f2, zAr T 0 a3_3 7 f3, zAr T 0 a4_4 7 f4]) (nI i) hw_10) (kV_RX8_15 C.2.2.2.2 (Nat.le_of_ble_eq_true rfl) (Nat.le_of_ble_eq_true rfl)) [0] [0] rfl rfl (ci := 4) (qc := (RX4, TX4, 6)) rfl rfl (List.mem_flatten.mpr ⟨_, List.mem_of_getElem? (i := 0) rfl, (bLand_mem hw_10).choose_spec⟩) rfl rfl hl.1 dX8_spread_27 (Nat.le_of_ble_eq_true rfl) (Nat.le_of_ble_eq_true rfl) (fun r_12 b1 H locs hw G => ?_)
      refine zAn2 hw ?_
      intro hbs9 h_11
      clear hw
      subst hbs9
      have G : zS T A s.heap s [[zO4 h cr inn a1_1 a2_2 a3_3 a4_4, zAr T 0 a1_1 7 f1, zAr T 0 a2_2 28 f2, zAr T 0 a3_3 7 f3, zAr T 0 a4_4 7 f4]] _ _ := G
      subst h_11
      refine lv_icmp_ge (tgt := 51) hx hb dX8_spread_30 (by decide) (fun c_13 => ?_) (fun c_13 => ?_)
      · have c_13n : (zWays cr inn f1 (nI i)).toInt ≤ (k : Int) := by have q := (fa_le _ _).mp c_13; rw [nI_toInt (n := k) (by omega)] at q; exact q
        refine lv_iinc (v := nI (i + 1)) (lv' := [(3, .int (nI (i + 1))), (4, .int (nI k)), (2, .int v2), (0, .ref h), (1, .int b)]) hx hb dX8_spread_51 hl (k := 1) rfl (z_inc i 1) (by decide) rfl (fun ls hl => ?_)
        refine lv_goto (tgt := 4) hx hb dX8_spread_54 (by decide) ?_
        exact ih_4 (i + 1) v2 (show (i + 1) ≤ cr.toInt.toNat ∧ v2 = zSprC cr inn f1 f2 b (i + 1) from ⟨by omega, by rw [zSprC, if_neg (by assumption), ← hv, hv2, show k = (zWays cr inn f1 (nI i)).toInt.toNat by omega]⟩) (show cr.toInt.toNat - (i + 1) < cr.toInt.toNat - i from by omega) _ _ ls G (lv_sub hl [0, 2, 3, 4] rfl)
      · have c_13n : ¬ (zWays cr inn f1 (nI i)).toInt ≤ (k : Int) := fun q => c_13 ((fa_le _ _).mpr (by rw [nI_toInt (n := k) (by omega)]; exact q))
        refine lv_iload_n hx hb dX8_spread_33 rfl (lv_at hl 2 rfl) ?_
        refine lv_iconst (v := 1) hx hb dX8_spread_34 (by decide) ?_
        refine lv_aload_n hx hb dX8_spread_35 rfl (lv_at hl 3 rfl) ?_
        refine lv_iload_n hx hb dX8_spread_36 rfl (lv_at hl 1 rfl) ?_
        refine lv_iload hx hb dX8_spread_37 (lv_at hl 0 rfl) ?_
        refine z_Vi (bc := [[zO4 h cr inn a1_1 a2_2 a3_3 a4_4, zAr T 0 a1_1 7 f1, zAr T 0 a2_2 28 f2, zAr T 0 a3_3 7 f3, zAr T 0 a4_4 7 f4]]) (br := []) (As := [.int (nI i), .int (nI k)]) (rest := [.int 1, .int v2]) C G (c_target l T h cr inn f1 f2 f3 f4 ([zO4 h cr inn a1_1 a2_2 a3_3 a4_4, zAr T 0 a1_1 7 f1, zAr T 0 a2_2 28 f2, zAr T 0 a3_3 7 f3, zAr T 0 a4_4 7 f4]) (nI i) (nI k) hw_10) (kV_RX8_19 C.2.2.2.2 (Nat.le_of_ble_eq_true rfl) (Nat.le_of_ble_eq_true rfl)) [0] [0] rfl rfl (ci := 4) (qc := (RX4, TX4, 6)) rfl rfl (List.mem_flatten.mpr ⟨_, List.mem_of_getElem? (i := 0) rfl, (bLand_mem hw_10).choose_spec⟩) rfl rfl hl.1 dX8_spread_39 (Nat.le_of_ble_eq_true rfl) (Nat.le_of_ble_eq_true rfl) (fun r_15 b1 H locs hw G => ?_)
        refine zAn2 hw ?_
        intro hbs9 h_14
        clear hw
        subst hbs9
        have G : zS T A s.heap s [[zO4 h cr inn a1_1 a2_2 a3_3 a4_4, zAr T 0 a1_1 7 f1, zAr T 0 a2_2 28 f2, zAr T 0 a3_3 7 f3, zAr T 0 a4_4 7 f4]] _ _ := G
        subst h_14
        refine lv_ishl hx hb dX8_spread_42 ?_
        refine lv_ior hx hb dX8_spread_43 ?_
        refine lv_istore_n (lv' := [(2, .int (v2 ||| (1 <<< ((zTarget cr f1 f2 (nI i) (nI k)) &&& 31)))), (4, .int (nI k)), (3, .int (nI i)), (0, .ref h), (1, .int b)]) hx hb dX8_spread_44 rfl hl (by decide) rfl (fun ls hl => ?_)
        refine lv_iinc (v := nI (k + 1)) (lv' := [(4, .int (nI (k + 1))), (2, .int (v2 ||| (1 <<< ((zTarget cr f1 f2 (nI i) (nI k)) &&& 31)))), (3, .int (nI i)), (0, .ref h), (1, .int b)]) hx hb dX8_spread_45 hl (k := 1) rfl (z_inc k 1) (by decide) rfl (fun ls hl => ?_)
        refine lv_goto (tgt := 23) hx hb dX8_spread_48 (by decide) ?_
        exact ih_23 (k + 1) (v2 ||| (1 <<< ((zTarget cr f1 f2 (nI i) (nI k)) &&& 31))) (show (k + 1) ≤ (zWays cr inn f1 (nI i)).toInt.toNat ∧ (v2 ||| (1 <<< ((zTarget cr f1 f2 (nI i) (nI k)) &&& 31))) = zSprR cr f1 f2 (nI i) (k + 1) v from ⟨by omega, by rw [hv2]; rfl⟩) (show (zWays cr inn f1 (nI i)).toInt.toNat - (k + 1) < (zWays cr inn f1 (nI i)).toInt.toNat - k from by omega) _ _ ls G (lv_sub hl [0, 2, 1, 3, 4] rfl)
set_option maxHeartbeats 4000000 in
set_option maxRecDepth 100000 in
/-- c_distance -/
theorem c_distance (l : Launch) (T : zTy) (h : Nat) (cr : Int32) (inn : Int32) (f1 : Nat → Int32) (f2 : Nat → Int32) (f3 : Nat → Int32) (f4 : Nat → Int32) (w : va_W) (x : Int32) (y : Int32) (hw : bLand T h cr inn f1 f2 f3 f4 w) (hI : zLI cr f1 f3) : zMi l T yX8_distance cX8_distance 5 (some .int) 4 0 0 [.ref h, .int x, .int y] [w] (fun (r : Int32) bs => bs = [w]) := by
  refine zMi_of (own := RX8) (by decide) rfl (Nat.le_of_ble_eq_true rfl) ?_
  intro p e s m args below meth c A ls C hr hlocks hnm hAe G hl
  refine zHide (fun Q9 hQ9 => ?_)
  have hx := C.1
  have hb := C.2.1
  have hl : lv_has ls 5 [(0, .ref h), (1, .int x), (2, .int y)] := hl
  have hcr := hI.1
  refine lv_iconst (v := 1) hx hb dX8_distance_0 (by decide) ?_
  refine lv_iload_n hx hb dX8_distance_1 rfl (lv_at hl 1 rfl) ?_
  refine lv_ishl hx hb dX8_distance_2 ?_
  refine lv_istore_n (lv' := [(3, .int (1 <<< (x &&& 31))), (0, .ref h), (1, .int x), (2, .int y)]) hx hb dX8_distance_3 rfl hl (by decide) rfl (fun ls hl => ?_)
  refine lv_iconst (v := 0) hx hb dX8_distance_4 (by decide) ?_
  refine lv_istore (lv' := [(4, .int 0), (3, .int (1 <<< (x &&& 31))), (0, .ref h), (1, .int x), (2, .int y)]) hx hb dX8_distance_5 hl (by decide) rfl (fun ls hl => ?_)
  refine zEx4 hw ?_
  intro a1_1 a2_2 a3_3 a4_4 hbs9
  clear hw
  subst hbs9
  have G : zS T A s.heap s [[zO4 h cr inn a1_1 a2_2 a3_3 a4_4], [zAr T 0 a1_1 7 f1], [zAr T 0 a2_2 28 f2], [zAr T 0 a3_3 7 f3], [zAr T 0 a4_4 7 f4]] _ _ := G.re rfl
  have hw_5 : bLand T h cr inn f1 f2 f3 f4 [zO4 h cr inn a1_1 a2_2 a3_3 a4_4, zAr T 0 a1_1 7 f1, zAr T 0 a2_2 28 f2, zAr T 0 a3_3 7 f3, zAr T 0 a4_4 7 f4] := ⟨a1_1, a2_2, a3_3, a4_4, rfl⟩
  have G : zS T A s.heap s [[zO4 h cr inn a1_1 a2_2 a3_3 a4_4, zAr T 0 a1_1 7 f1, zAr T 0 a2_2 28 f2, zAr T 0 a3_3 7 f3, zAr T 0 a4_4 7 f4]] _ _ := G.re rfl
  refine z_lp2 (T := T) 7 (fun (i : Nat) (ui3 : Int32) => [[zO4 h cr inn a1_1 a2_2 a3_3 a4_4, zAr T 0 a1_1 7 f1, zAr T 0 a2_2 28 f2, zAr T 0 a3_3 7 f3, zAr T 0 a4_4 7 f4]]) (fun (i : Nat) (ui3 : Int32) => [(4, .int (nI i)), (3, .int ui3), (0, .ref h), (1, .int x), (2, .int y)]) (fun (i : Nat) (ui3 : Int32) => i ≤ 8) (fun (i : Nat) (ui3 : Int32) => 8 - i) ?_ 0 (1 <<< (x &&& 31)) (show 0 ≤ 8 from by omega) G (lv_sub hl [0, 1, 2, 3, 4] rfl)
  intro i ui3 hi ih_7 H locs ls G hl
  replace hi : i ≤ 8 := hi
  replace G : zS T A s.heap s [[zO4 h cr inn a1_1 a2_2 a3_3 a4_4, zAr T 0 a1_1 7 f1, zAr T 0 a2_2 28 f2, zAr T 0 a3_3 7 f3, zAr T 0 a4_4 7 f4]] _ _ := G
  replace hl : lv_has ls 5 [(4, .int (nI i)), (3, .int ui3), (0, .ref h), (1, .int x), (2, .int y)] := hl
  refine lv_iload hx hb dX8_distance_7 (lv_at hl 0 rfl) ?_
  refine lv_bipush (v := 7) hx hb dX8_distance_9 (by decide) ?_
  refine lv_icmp_gt (tgt := 37) hx hb dX8_distance_11 (by decide) (fun c_6 => ?_) (fun c_6 => ?_)
  · have c_6n : 7 < i := (nI_ltI (a := 7) (b := i) (by omega) (by omega)).mp c_6
    refine lv_iconst (v := (-1)) hx hb dX8_distance_37 (by decide) ?_
    exact z_back hQ9 (z_iret C hr hlocks G (Nat.le_of_ble_eq_true rfl) (Nat.le_of_ble_eq_true rfl) dX8_distance_38 rfl)
  · have c_6n : ¬ 7 < i := fun q => c_6 ((nI_ltI (a := 7) (b := i) (by omega) (by omega)).mpr q)
    refine lv_iload_n hx hb dX8_distance_14 rfl (lv_at hl 1 rfl) ?_
    refine lv_iload_n hx hb dX8_distance_15 rfl (lv_at hl 4 rfl) ?_
    refine lv_ishr hx hb dX8_distance_16 ?_
    refine lv_iconst (v := 1) hx hb dX8_distance_17 (by decide) ?_
    refine lv_iand hx hb dX8_distance_18 ?_
    refine lv_if_eq (tgt := 25) hx hb dX8_distance_19 (by decide) (fun c_7 => ?_) (fun c_7 => ?_)
    · have c_7n : ((ui3 >>> (y &&& 31)) &&& 1).toInt = (0 : Int) := (fa_eq _ _).mp c_7
      refine lv_aload_n hx hb dX8_distance_25 rfl (lv_at hl 2 rfl) ?_
      refine lv_iload_n hx hb dX8_distance_26 rfl (lv_at hl 1 rfl) ?_
      refine z_Si (bc := [[zO4 h cr inn a1_1 a2_2 a3_3 a4_4, zAr T 0 a1_1 7 f1, zAr T 0 a2_2 28 f2, zAr T 0 a3_3 7 f3, zAr T 0 a4_4 7 f4]]) (br := []) (As := [.ref h, .int ui3]) (rest := []) C G (c_spread l T h cr inn f1 f2 f3 f4 ([zO4 h cr inn a1_1 a2_2 a3_3 a4_4, zAr T 0 a1_1 7 f1, zAr T 0 a2_2 28 f2, zAr T 0 a3_3 7 f3, zAr T 0 a4_4 7 f4]) ui3 hw_5 (by first | with_reducible assumption | with_reducible rfl | omega | assumption | rfl)) (kS_RX8_23 C.2.2.2.2 (Nat.le_of_ble_eq_true rfl) (Nat.le_of_ble_eq_true rfl)) [0] [0] rfl rfl rfl rfl hl.1 dX8_distance_27 (Nat.le_of_ble_eq_true rfl) (Nat.le_of_ble_eq_true rfl) (fun r_9 b1 H locs hw G => ?_)
      refine zAn2 hw ?_
      intro hbs9 h_8
      clear hw
      subst hbs9
      have G : zS T A s.heap s [[zO4 h cr inn a1_1 a2_2 a3_3 a4_4, zAr T 0 a1_1 7 f1, zAr T 0 a2_2 28 f2, zAr T 0 a3_3 7 f3, zAr T 0 a4_4 7 f4]] _ _ := G
      subst h_8
      refine lv_istore_n (lv' := [(3, .int (zSpread cr inn f1 f2 ui3)), (4, .int (nI i)), (0, .ref h), (1, .int x), (2, .int y)]) hx hb dX8_distance_30 rfl hl (by decide) rfl (fun ls hl => ?_)
      refine lv_iinc (v := nI (i + 1)) (lv' := [(4, .int (nI (i + 1))), (3, .int (zSpread cr inn f1 f2 ui3)), (0, .ref h), (1, .int x), (2, .int y)]) hx hb dX8_distance_31 hl (k := 1) rfl (z_inc i 1) (by decide) rfl (fun ls hl => ?_)
      refine lv_goto (tgt := 7) hx hb dX8_distance_34 (by decide) ?_
      exact ih_7 (i + 1) (zSpread cr inn f1 f2 ui3) (show (i + 1) ≤ 8 from by omega) (show 8 - (i + 1) < 8 - i from by omega) _ _ ls G (lv_sub hl [0, 1, 2, 3, 4] rfl)
    · have c_7n : ¬ ((ui3 >>> (y &&& 31)) &&& 1).toInt = (0 : Int) := fun q => c_7 ((fa_eq _ _).mpr q)
      refine lv_iload hx hb dX8_distance_22 (lv_at hl 0 rfl) ?_
      exact z_back hQ9 (z_iret C hr hlocks G (Nat.le_of_ble_eq_true rfl) (Nat.le_of_ble_eq_true rfl) dX8_distance_24 rfl)
set_option maxHeartbeats 4000000 in
set_option maxRecDepth 100000 in
/-- c_reached -/
theorem c_reached (l : Launch) (T : zTy) (h : Nat) (cr : Int32) (inn : Int32) (f1 : Nat → Int32) (f2 : Nat → Int32) (f3 : Nat → Int32) (f4 : Nat → Int32) (w : va_W) (x : Int32) (hw : bLand T h cr inn f1 f2 f3 f4 w) (hI : zLI cr f1 f3) : zMi l T yX8_reached cX8_reached 4 (some .int) 4 0 0 [.ref h, .int x] [w] (fun (r : Int32) bs => bs = [w] ∧ r = zSeen cr inn f1 f2 (1 <<< (x &&& 31)) 7) := by
  refine zMi_of (own := RX8) (by decide) rfl (Nat.le_of_ble_eq_true rfl) ?_
  intro p e s m args below meth c A ls C hr hlocks hnm hAe G hl
  refine zHide (fun Q9 hQ9 => ?_)
  have hx := C.1
  have hb := C.2.1
  have hl : lv_has ls 4 [(0, .ref h), (1, .int x)] := hl
  have hcr := hI.1
  refine lv_iconst (v := 1) hx hb dX8_reached_0 (by decide) ?_
  refine lv_iload_n hx hb dX8_reached_1 rfl (lv_at hl 1 rfl) ?_
  refine lv_ishl hx hb dX8_reached_2 ?_
  refine lv_istore_n (lv' := [(2, .int (1 <<< (x &&& 31))), (0, .ref h), (1, .int x)]) hx hb dX8_reached_3 rfl hl (by decide) rfl (fun ls hl => ?_)
  refine lv_iconst (v := 0) hx hb dX8_reached_4 (by decide) ?_
  refine lv_istore_n (lv' := [(3, .int 0), (2, .int (1 <<< (x &&& 31))), (0, .ref h), (1, .int x)]) hx hb dX8_reached_5 rfl hl (by decide) rfl (fun ls hl => ?_)
  refine zEx4 hw ?_
  intro a1_1 a2_2 a3_3 a4_4 hbs9
  clear hw
  subst hbs9
  have G : zS T A s.heap s [[zO4 h cr inn a1_1 a2_2 a3_3 a4_4], [zAr T 0 a1_1 7 f1], [zAr T 0 a2_2 28 f2], [zAr T 0 a3_3 7 f3], [zAr T 0 a4_4 7 f4]] _ _ := G.re rfl
  have hw_5 : bLand T h cr inn f1 f2 f3 f4 [zO4 h cr inn a1_1 a2_2 a3_3 a4_4, zAr T 0 a1_1 7 f1, zAr T 0 a2_2 28 f2, zAr T 0 a3_3 7 f3, zAr T 0 a4_4 7 f4] := ⟨a1_1, a2_2, a3_3, a4_4, rfl⟩
  have G : zS T A s.heap s [[zO4 h cr inn a1_1 a2_2 a3_3 a4_4, zAr T 0 a1_1 7 f1, zAr T 0 a2_2 28 f2, zAr T 0 a3_3 7 f3, zAr T 0 a4_4 7 f4]] _ _ := G.re rfl
  refine z_lp2 (T := T) 6 (fun (i : Nat) (ui2 : Int32) => [[zO4 h cr inn a1_1 a2_2 a3_3 a4_4, zAr T 0 a1_1 7 f1, zAr T 0 a2_2 28 f2, zAr T 0 a3_3 7 f3, zAr T 0 a4_4 7 f4]]) (fun (i : Nat) (ui2 : Int32) => [(3, .int (nI i)), (2, .int ui2), (0, .ref h), (1, .int x)]) (fun (i : Nat) (ui2 : Int32) => i ≤ 7 ∧ ui2 = zSeen cr inn f1 f2 (1 <<< (x &&& 31)) i) (fun (i : Nat) (ui2 : Int32) => 7 - i) ?_ 0 (1 <<< (x &&& 31)) (show 0 ≤ 7 ∧ (1 <<< (x &&& 31)) = zSeen cr inn f1 f2 (1 <<< (x &&& 31)) 0 from ⟨by omega, rfl⟩) G (lv_sub hl [0, 1, 2, 3] rfl)
  intro i ui2 hI9 ih_6 H locs ls G hl
  replace hI9 : i ≤ 7 ∧ ui2 = zSeen cr inn f1 f2 (1 <<< (x &&& 31)) i := hI9
  refine zAn2 hI9 ?_
  intro hi hu
  clear hI9
  replace G : zS T A s.heap s [[zO4 h cr inn a1_1 a2_2 a3_3 a4_4, zAr T 0 a1_1 7 f1, zAr T 0 a2_2 28 f2, zAr T 0 a3_3 7 f3, zAr T 0 a4_4 7 f4]] _ _ := G
  replace hl : lv_has ls 4 [(3, .int (nI i)), (2, .int ui2), (0, .ref h), (1, .int x)] := hl
  refine lv_iload_n hx hb dX8_reached_6 rfl (lv_at hl 0 rfl) ?_
  refine lv_bipush (v := 7) hx hb dX8_reached_7 (by decide) ?_
  refine lv_icmp_ge (tgt := 24) hx hb dX8_reached_9 (by decide) (fun c_6 => ?_) (fun c_6 => ?_)
  · have c_6n : 7 ≤ i := (nI_leI (a := 7) (b := i) (by omega) (by omega)).mp c_6
    refine lv_iload_n hx hb dX8_reached_24 rfl (lv_at hl 1 rfl) ?_
    exact z_back hQ9 (z_iret C hr hlocks G (Nat.le_of_ble_eq_true rfl) (Nat.le_of_ble_eq_true rfl) dX8_reached_25 ⟨rfl, (by rw [hu, show i = 7 by omega])⟩)
  · have c_6n : ¬ 7 ≤ i := fun q => c_6 ((nI_leI (a := 7) (b := i) (by omega) (by omega)).mpr q)
    refine lv_aload_n hx hb dX8_reached_12 rfl (lv_at hl 2 rfl) ?_
    refine lv_iload_n hx hb dX8_reached_13 rfl (lv_at hl 1 rfl) ?_
    refine z_Si (bc := [[zO4 h cr inn a1_1 a2_2 a3_3 a4_4, zAr T 0 a1_1 7 f1, zAr T 0 a2_2 28 f2, zAr T 0 a3_3 7 f3, zAr T 0 a4_4 7 f4]]) (br := []) (As := [.ref h, .int ui2]) (rest := []) C G (c_spread l T h cr inn f1 f2 f3 f4 ([zO4 h cr inn a1_1 a2_2 a3_3 a4_4, zAr T 0 a1_1 7 f1, zAr T 0 a2_2 28 f2, zAr T 0 a3_3 7 f3, zAr T 0 a4_4 7 f4]) ui2 hw_5 (by first | with_reducible assumption | with_reducible rfl | omega | assumption | rfl)) (kS_RX8_23 C.2.2.2.2 (Nat.le_of_ble_eq_true rfl) (Nat.le_of_ble_eq_true rfl)) [0] [0] rfl rfl rfl rfl hl.1 dX8_reached_14 (Nat.le_of_ble_eq_true rfl) (Nat.le_of_ble_eq_true rfl) (fun r_8 b1 H locs hw G => ?_)
    refine zAn2 hw ?_
    intro hbs9 h_7
    clear hw
    subst hbs9
    have G : zS T A s.heap s [[zO4 h cr inn a1_1 a2_2 a3_3 a4_4, zAr T 0 a1_1 7 f1, zAr T 0 a2_2 28 f2, zAr T 0 a3_3 7 f3, zAr T 0 a4_4 7 f4]] _ _ := G
    subst h_7
    refine lv_istore_n (lv' := [(2, .int (zSpread cr inn f1 f2 ui2)), (3, .int (nI i)), (0, .ref h), (1, .int x)]) hx hb dX8_reached_17 rfl hl (by decide) rfl (fun ls hl => ?_)
    refine lv_iinc (v := nI (i + 1)) (lv' := [(3, .int (nI (i + 1))), (2, .int (zSpread cr inn f1 f2 ui2)), (0, .ref h), (1, .int x)]) hx hb dX8_reached_18 hl (k := 1) rfl (z_inc i 1) (by decide) rfl (fun ls hl => ?_)
    refine lv_goto (tgt := 6) hx hb dX8_reached_21 (by decide) ?_
    exact ih_6 (i + 1) (zSpread cr inn f1 f2 ui2) (show (i + 1) ≤ 7 ∧ (zSpread cr inn f1 f2 ui2) = zSeen cr inn f1 f2 (1 <<< (x &&& 31)) (i + 1) from ⟨by omega, by rw [hu]; rfl⟩) (show 7 - (i + 1) < 7 - i from by omega) _ _ ls G (lv_sub hl [0, 1, 2, 3] rfl)
set_option maxHeartbeats 4000000 in
set_option maxRecDepth 100000 in
/-- c_nearest -/
theorem c_nearest (l : Launch) (T : zTy) (h : Nat) (cr : Int32) (inn : Int32) (f1 : Nat → Int32) (f2 : Nat → Int32) (f3 : Nat → Int32) (f4 : Nat → Int32) (w : va_W) (x : Int32) (hw : bLand T h cr inn f1 f2 f3 f4 w) (hI : zLI cr f1 f3) : zMi l T yX8_nearest cX8_nearest 5 (some .int) 4 0 0 [.ref h, .int x] [w] (fun (r : Int32) bs => bs = [w]) := by
  refine zMi_of (own := RX8) (by decide) rfl (Nat.le_of_ble_eq_true rfl) ?_
  intro p e s m args below meth c A ls C hr hlocks hnm hAe G hl
  refine zHide (fun Q9 hQ9 => ?_)
  have hx := C.1
  have hb := C.2.1
  have hl : lv_has ls 5 [(0, .ref h), (1, .int x)] := hl
  have hcr := hI.1
  refine lv_iconst (v := 1) hx hb dX8_nearest_0 (by decide) ?_
  refine lv_iload_n hx hb dX8_nearest_1 rfl (lv_at hl 1 rfl) ?_
  refine lv_ishl hx hb dX8_nearest_2 ?_
  refine lv_istore_n (lv' := [(2, .int (1 <<< (x &&& 31))), (0, .ref h), (1, .int x)]) hx hb dX8_nearest_3 rfl hl (by decide) rfl (fun ls hl => ?_)
  refine lv_iconst (v := 0) hx hb dX8_nearest_4 (by decide) ?_
  refine lv_istore_n (lv' := [(3, .int 0), (2, .int (1 <<< (x &&& 31))), (0, .ref h), (1, .int x)]) hx hb dX8_nearest_5 rfl hl (by decide) rfl (fun ls hl => ?_)
  refine zEx4 hw ?_
  intro a1_1 a2_2 a3_3 a4_4 hbs9
  clear hw
  subst hbs9
  have G : zS T A s.heap s [[zO4 h cr inn a1_1 a2_2 a3_3 a4_4], [zAr T 0 a1_1 7 f1], [zAr T 0 a2_2 28 f2], [zAr T 0 a3_3 7 f3], [zAr T 0 a4_4 7 f4]] _ _ := G.re rfl
  have hw_5 : bLand T h cr inn f1 f2 f3 f4 [zO4 h cr inn a1_1 a2_2 a3_3 a4_4, zAr T 0 a1_1 7 f1, zAr T 0 a2_2 28 f2, zAr T 0 a3_3 7 f3, zAr T 0 a4_4 7 f4] := ⟨a1_1, a2_2, a3_3, a4_4, rfl⟩
  have G : zS T A s.heap s [[zO4 h cr inn a1_1 a2_2 a3_3 a4_4, zAr T 0 a1_1 7 f1, zAr T 0 a2_2 28 f2, zAr T 0 a3_3 7 f3, zAr T 0 a4_4 7 f4]] _ _ := G.re rfl
  refine z_lp2 (T := T) 6 (fun (i : Nat) (ui2 : Int32) => [[zO4 h cr inn a1_1 a2_2 a3_3 a4_4, zAr T 0 a1_1 7 f1, zAr T 0 a2_2 28 f2, zAr T 0 a3_3 7 f3, zAr T 0 a4_4 7 f4]]) (fun (i : Nat) (ui2 : Int32) => [(3, .int (nI i)), (2, .int ui2), (0, .ref h), (1, .int x)]) (fun (i : Nat) (ui2 : Int32) => i ≤ 8) (fun (i : Nat) (ui2 : Int32) => 8 - i) ?_ 0 (1 <<< (x &&& 31)) (show 0 ≤ 8 from by omega) G (lv_sub hl [0, 1, 2, 3] rfl)
  intro i ui2 hi ih_6 H locs ls G hl
  replace hi : i ≤ 8 := hi
  replace G : zS T A s.heap s [[zO4 h cr inn a1_1 a2_2 a3_3 a4_4, zAr T 0 a1_1 7 f1, zAr T 0 a2_2 28 f2, zAr T 0 a3_3 7 f3, zAr T 0 a4_4 7 f4]] _ _ := G
  replace hl : lv_has ls 5 [(3, .int (nI i)), (2, .int ui2), (0, .ref h), (1, .int x)] := hl
  refine lv_iload_n hx hb dX8_nearest_6 rfl (lv_at hl 0 rfl) ?_
  refine lv_bipush (v := 7) hx hb dX8_nearest_7 (by decide) ?_
  refine lv_icmp_gt (tgt := 59) hx hb dX8_nearest_9 (by decide) (fun c_6 => ?_) (fun c_6 => ?_)
  · have c_6n : 7 < i := (nI_ltI (a := 7) (b := i) (by omega) (by omega)).mp c_6
    refine lv_iconst (v := (-1)) hx hb dX8_nearest_59 (by decide) ?_
    exact z_back hQ9 (z_iret C hr hlocks G (Nat.le_of_ble_eq_true rfl) (Nat.le_of_ble_eq_true rfl) dX8_nearest_60 rfl)
  · have c_6n : ¬ 7 < i := fun q => c_6 ((nI_ltI (a := 7) (b := i) (by omega) (by omega)).mpr q)
    refine lv_iconst (v := 0) hx hb dX8_nearest_12 (by decide) ?_
    refine lv_istore (lv' := [(4, .int 0), (3, .int (nI i)), (2, .int ui2), (0, .ref h), (1, .int x)]) hx hb dX8_nearest_13 hl (by decide) rfl (fun ls hl => ?_)
    have G : zS T A s.heap s [[zO4 h cr inn a1_1 a2_2 a3_3 a4_4], [zAr T 0 a1_1 7 f1], [zAr T 0 a2_2 28 f2], [zAr T 0 a3_3 7 f3], [zAr T 0 a4_4 7 f4]] _ _ := G.re rfl
    have hw_7 : bLand T h cr inn f1 f2 f3 f4 [zO4 h cr inn a1_1 a2_2 a3_3 a4_4, zAr T 0 a1_1 7 f1, zAr T 0 a2_2 28 f2, zAr T 0 a3_3 7 f3, zAr T 0 a4_4 7 f4] := ⟨a1_1, a2_2, a3_3, a4_4, rfl⟩
    have G : zS T A s.heap s [[zO4 h cr inn a1_1 a2_2 a3_3 a4_4, zAr T 0 a1_1 7 f1, zAr T 0 a2_2 28 f2, zAr T 0 a3_3 7 f3, zAr T 0 a4_4 7 f4]] _ _ := G.re rfl
    refine z_lp1 (T := T) 15 (fun (j : Nat) => [[zO4 h cr inn a1_1 a2_2 a3_3 a4_4, zAr T 0 a1_1 7 f1, zAr T 0 a2_2 28 f2, zAr T 0 a3_3 7 f3, zAr T 0 a4_4 7 f4]]) (fun (j : Nat) => [(4, .int (nI j)), (3, .int (nI i)), (2, .int ui2), (0, .ref h), (1, .int x)]) (fun (j : Nat) => j ≤ cr.toInt.toNat) (fun (j : Nat) => cr.toInt.toNat - j) ?_ 0 (show 0 ≤ cr.toInt.toNat from by omega) G (lv_sub hl [0, 1, 2, 3, 4] rfl)
    intro j hj ih_15 H locs ls G hl
    replace hj : j ≤ cr.toInt.toNat := hj
    replace G : zS T A s.heap s [[zO4 h cr inn a1_1 a2_2 a3_3 a4_4, zAr T 0 a1_1 7 f1, zAr T 0 a2_2 28 f2, zAr T 0 a3_3 7 f3, zAr T 0 a4_4 7 f4]] _ _ := G
    replace hl : lv_has ls 5 [(4, .int (nI j)), (3, .int (nI i)), (2, .int ui2), (0, .ref h), (1, .int x)] := hl
    refine lv_iload hx hb dX8_nearest_15 (lv_at hl 0 rfl) ?_
    refine lv_aload_n hx hb dX8_nearest_17 rfl (lv_at hl 3 rfl) ?_
    have G : zS T A s.heap s [[zO4 h cr inn a1_1 a2_2 a3_3 a4_4], [zAr T 0 a1_1 7 f1], [zAr T 0 a2_2 28 f2], [zAr T 0 a3_3 7 f3], [zAr T 0 a4_4 7 f4]] _ _ := G.re rfl
    refine z_get C G clX4 0 rfl 0 (by decide) m_fl_RX8_9 rfl dX8_nearest_18 ?_
    refine lv_icmp_ge (tgt := 47) hx hb dX8_nearest_21 (by decide) (fun c_8 => ?_) (fun c_8 => ?_)
    · have c_8n : cr.toInt ≤ (j : Int) := by have q := (fa_le _ _).mp c_8; rw [nI_toInt (n := j) (by omega)] at q; exact q
      refine lv_aload_n hx hb dX8_nearest_47 rfl (lv_at hl 3 rfl) ?_
      refine lv_iload_n hx hb dX8_nearest_48 rfl (lv_at hl 2 rfl) ?_
      have hw_9 : bLand T h cr inn f1 f2 f3 f4 [zO4 h cr inn a1_1 a2_2 a3_3 a4_4, zAr T 0 a1_1 7 f1, zAr T 0 a2_2 28 f2, zAr T 0 a3_3 7 f3, zAr T 0 a4_4 7 f4] := ⟨a1_1, a2_2, a3_3, a4_4, rfl⟩
      have G : zS T A s.heap s [[zO4 h cr inn a1_1 a2_2 a3_3 a4_4, zAr T 0 a1_1 7 f1, zAr T 0 a2_2 28 f2, zAr T 0 a3_3 7 f3, zAr T 0 a4_4 7 f4]] _ _ := G.re rfl
      refine z_Si (bc := [[zO4 h cr inn a1_1 a2_2 a3_3 a4_4, zAr T 0 a1_1 7 f1, zAr T 0 a2_2 28 f2, zAr T 0 a3_3 7 f3, zAr T 0 a4_4 7 f4]]) (br := []) (As := [.ref h, .int ui2]) (rest := []) C G (c_spread l T h cr inn f1 f2 f3 f4 ([zO4 h cr inn a1_1 a2_2 a3_3 a4_4, zAr T 0 a1_1 7 f1, zAr T 0 a2_2 28 f2, zAr T 0 a3_3 7 f3, zAr T 0 a4_4 7 f4]) ui2 hw_9 (by first | with_reducible assumption | with_reducible rfl | omega | assumption | rfl)) (kS_RX8_23 C.2.2.2.2 (Nat.le_of_ble_eq_true rfl) (Nat.le_of_ble_eq_true rfl)) [0] [0] rfl rfl rfl rfl hl.1 dX8_nearest_49 (Nat.le_of_ble_eq_true rfl) (Nat.le_of_ble_eq_true rfl) (fun r_11 b1 H locs hw G => ?_)
      refine zAn2 hw ?_
      intro hbs9 h_10
      clear hw
      subst hbs9
      have G : zS T A s.heap s [[zO4 h cr inn a1_1 a2_2 a3_3 a4_4, zAr T 0 a1_1 7 f1, zAr T 0 a2_2 28 f2, zAr T 0 a3_3 7 f3, zAr T 0 a4_4 7 f4]] _ _ := G
      subst h_10
      refine lv_istore_n (lv' := [(2, .int (zSpread cr inn f1 f2 ui2)), (4, .int (nI j)), (3, .int (nI i)), (0, .ref h), (1, .int x)]) hx hb dX8_nearest_52 rfl hl (by decide) rfl (fun ls hl => ?_)
      refine lv_iinc (v := nI (i + 1)) (lv' := [(3, .int (nI (i + 1))), (2, .int (zSpread cr inn f1 f2 ui2)), (4, .int (nI j)), (0, .ref h), (1, .int x)]) hx hb dX8_nearest_53 hl (k := 2) rfl (z_inc i 1) (by decide) rfl (fun ls hl => ?_)
      refine lv_goto (tgt := 6) hx hb dX8_nearest_56 (by decide) ?_
      exact ih_6 (i + 1) (zSpread cr inn f1 f2 ui2) (show (i + 1) ≤ 8 from by omega) (show 8 - (i + 1) < 8 - i from by omega) _ _ ls G (lv_sub hl [0, 1, 3, 4] rfl)
    · have c_8n : ¬ cr.toInt ≤ (j : Int) := fun q => c_8 ((fa_le _ _).mpr (by rw [nI_toInt (n := j) (by omega)]; exact q))
      refine lv_iload_n hx hb dX8_nearest_24 rfl (lv_at hl 2 rfl) ?_
      refine lv_aload_n hx hb dX8_nearest_25 rfl (lv_at hl 3 rfl) ?_
      refine z_get C G clX4 0 rfl 1 (by decide) m_fl_RX8_29 rfl dX8_nearest_26 ?_
      refine lv_iand hx hb dX8_nearest_29 ?_
      refine lv_iload hx hb dX8_nearest_30 (lv_at hl 0 rfl) ?_
      refine lv_ishr hx hb dX8_nearest_32 ?_
      refine lv_iconst (v := 1) hx hb dX8_nearest_33 (by decide) ?_
      refine lv_iand hx hb dX8_nearest_34 ?_
      refine lv_if_eq (tgt := 41) hx hb dX8_nearest_35 (by decide) (fun c_12 => ?_) (fun c_12 => ?_)
      · have c_12n : (((ui2 &&& inn) >>> ((nI j) &&& 31)) &&& 1).toInt = (0 : Int) := (fa_eq _ _).mp c_12
        refine lv_iinc (v := nI (j + 1)) (lv' := [(4, .int (nI (j + 1))), (3, .int (nI i)), (2, .int ui2), (0, .ref h), (1, .int x)]) hx hb dX8_nearest_41 hl (k := 0) rfl (z_inc j 1) (by decide) rfl (fun ls hl => ?_)
        refine lv_goto (tgt := 15) hx hb dX8_nearest_44 (by decide) ?_
        have hw_13 : bLand T h cr inn f1 f2 f3 f4 [zO4 h cr inn a1_1 a2_2 a3_3 a4_4, zAr T 0 a1_1 7 f1, zAr T 0 a2_2 28 f2, zAr T 0 a3_3 7 f3, zAr T 0 a4_4 7 f4] := ⟨a1_1, a2_2, a3_3, a4_4, rfl⟩
        have G : zS T A s.heap s [[zO4 h cr inn a1_1 a2_2 a3_3 a4_4, zAr T 0 a1_1 7 f1, zAr T 0 a2_2 28 f2, zAr T 0 a3_3 7 f3, zAr T 0 a4_4 7 f4]] _ _ := G.re rfl
        exact ih_15 (j + 1) (show (j + 1) ≤ cr.toInt.toNat from by omega) (show cr.toInt.toNat - (j + 1) < cr.toInt.toNat - j from by omega) _ _ ls G (lv_sub hl [0, 1, 2, 3, 4] rfl)
      · have c_12n : ¬ (((ui2 &&& inn) >>> ((nI j) &&& 31)) &&& 1).toInt = (0 : Int) := fun q => c_12 ((fa_eq _ _).mpr q)
        refine lv_iload hx hb dX8_nearest_38 (lv_at hl 0 rfl) ?_
        have hw_14 : bLand T h cr inn f1 f2 f3 f4 [zO4 h cr inn a1_1 a2_2 a3_3 a4_4, zAr T 0 a1_1 7 f1, zAr T 0 a2_2 28 f2, zAr T 0 a3_3 7 f3, zAr T 0 a4_4 7 f4] := ⟨a1_1, a2_2, a3_3, a4_4, rfl⟩
        have G : zS T A s.heap s [[zO4 h cr inn a1_1 a2_2 a3_3 a4_4, zAr T 0 a1_1 7 f1, zAr T 0 a2_2 28 f2, zAr T 0 a3_3 7 f3, zAr T 0 a4_4 7 f4]] _ _ := G.re rfl
        exact z_back hQ9 (z_iret C hr hlocks G (Nat.le_of_ble_eq_true rfl) (Nat.le_of_ble_eq_true rfl) dX8_nearest_40 rfl)
set_option maxHeartbeats 4000000 in
set_option maxRecDepth 100000 in
/-- c_inOneClass -/
theorem c_inOneClass (l : Launch) (T : zTy) (h : Nat) (cr : Int32) (inn : Int32) (f1 : Nat → Int32) (f2 : Nat → Int32) (f3 : Nat → Int32) (f4 : Nat → Int32) (w : va_W) (x : Int32) (hw : bLand T h cr inn f1 f2 f3 f4 w) (hI : zLI cr f1 f3) : zMi l T yX8_inOneClass cX8_inOneClass 5 (some .int) 5 0 0 [.ref h, .int x] [w] (fun (r : Int32) bs => bs = [w]) := by
  refine zMi_of (own := RX8) (by decide) rfl (Nat.le_of_ble_eq_true rfl) ?_
  intro p e s m args below meth c A ls C hr hlocks hnm hAe G hl
  refine zHide (fun Q9 hQ9 => ?_)
  have hx := C.1
  have hb := C.2.1
  have hl : lv_has ls 5 [(0, .ref h), (1, .int x)] := hl
  have hcr := hI.1
  refine lv_aload_n hx hb dX8_inOneClass_0 rfl (lv_at hl 0 rfl) ?_
  refine lv_iload_n hx hb dX8_inOneClass_1 rfl (lv_at hl 1 rfl) ?_
  refine z_Si (bc := [w]) (br := []) (As := [.ref h, .int x]) (rest := []) C G (c_reached l T h cr inn f1 f2 f3 f4 w x hw (by first | with_reducible assumption | with_reducible rfl | omega | assumption | rfl)) (kS_RX8_45 C.2.2.2.2 (Nat.le_of_ble_eq_true rfl) (Nat.le_of_ble_eq_true rfl)) [0] [0] rfl rfl rfl rfl hl.1 dX8_inOneClass_2 (Nat.le_of_ble_eq_true rfl) (Nat.le_of_ble_eq_true rfl) (fun r_2 b1 H locs hw G => ?_)
  refine zAn2 hw ?_
  intro hbs9 h_1
  clear hw
  subst hbs9
  have G : zS T A s.heap s [w] _ _ := G
  subst h_1
  refine lv_istore_n (lv' := [(2, .int (zSeen cr inn f1 f2 (1 <<< (x &&& 31)) 7)), (0, .ref h), (1, .int x)]) hx hb dX8_inOneClass_5 rfl hl (by decide) rfl (fun ls hl => ?_)
  refine lv_iconst (v := 0) hx hb dX8_inOneClass_6 (by decide) ?_
  refine lv_istore_n (lv' := [(3, .int 0), (2, .int (zSeen cr inn f1 f2 (1 <<< (x &&& 31)) 7)), (0, .ref h), (1, .int x)]) hx hb dX8_inOneClass_7 rfl hl (by decide) rfl (fun ls hl => ?_)
  refine lv_iconst (v := 0) hx hb dX8_inOneClass_8 (by decide) ?_
  refine lv_istore (lv' := [(4, .int 0), (3, .int 0), (2, .int (zSeen cr inn f1 f2 (1 <<< (x &&& 31)) 7)), (0, .ref h), (1, .int x)]) hx hb dX8_inOneClass_9 hl (by decide) rfl (fun ls hl => ?_)
  refine zEx4 hw ?_
  intro a1_3 a2_4 a3_5 a4_6 hbs9
  clear hw
  subst hbs9
  have G : zS T A s.heap s [[zO4 h cr inn a1_3 a2_4 a3_5 a4_6], [zAr T 0 a1_3 7 f1], [zAr T 0 a2_4 28 f2], [zAr T 0 a3_5 7 f3], [zAr T 0 a4_6 7 f4]] _ _ := G.re rfl
  have hw_7 : bLand T h cr inn f1 f2 f3 f4 [zO4 h cr inn a1_3 a2_4 a3_5 a4_6, zAr T 0 a1_3 7 f1, zAr T 0 a2_4 28 f2, zAr T 0 a3_5 7 f3, zAr T 0 a4_6 7 f4] := ⟨a1_3, a2_4, a3_5, a4_6, rfl⟩
  have G : zS T A s.heap s [[zO4 h cr inn a1_3 a2_4 a3_5 a4_6, zAr T 0 a1_3 7 f1, zAr T 0 a2_4 28 f2, zAr T 0 a3_5 7 f3, zAr T 0 a4_6 7 f4]] _ _ := G.re rfl
  refine z_lp2 (T := T) 11 (fun (i : Nat) (ui3 : Int32) => [[zO4 h cr inn a1_3 a2_4 a3_5 a4_6, zAr T 0 a1_3 7 f1, zAr T 0 a2_4 28 f2, zAr T 0 a3_5 7 f3, zAr T 0 a4_6 7 f4]]) (fun (i : Nat) (ui3 : Int32) => [(4, .int (nI i)), (3, .int ui3), (2, .int (zSeen cr inn f1 f2 (1 <<< (x &&& 31)) 7)), (0, .ref h), (1, .int x)]) (fun (i : Nat) (ui3 : Int32) => i ≤ cr.toInt.toNat) (fun (i : Nat) (ui3 : Int32) => cr.toInt.toNat - i) ?_ 0 0 (show 0 ≤ cr.toInt.toNat from by omega) G (lv_sub hl [0, 1, 2, 3, 4] rfl)
  intro i ui3 hi ih_11 H locs ls G hl
  replace hi : i ≤ cr.toInt.toNat := hi
  replace G : zS T A s.heap s [[zO4 h cr inn a1_3 a2_4 a3_5 a4_6, zAr T 0 a1_3 7 f1, zAr T 0 a2_4 28 f2, zAr T 0 a3_5 7 f3, zAr T 0 a4_6 7 f4]] _ _ := G
  replace hl : lv_has ls 5 [(4, .int (nI i)), (3, .int ui3), (2, .int (zSeen cr inn f1 f2 (1 <<< (x &&& 31)) 7)), (0, .ref h), (1, .int x)] := hl
  refine lv_iload hx hb dX8_inOneClass_11 (lv_at hl 0 rfl) ?_
  refine lv_aload_n hx hb dX8_inOneClass_13 rfl (lv_at hl 3 rfl) ?_
  have G : zS T A s.heap s [[zO4 h cr inn a1_3 a2_4 a3_5 a4_6], [zAr T 0 a1_3 7 f1], [zAr T 0 a2_4 28 f2], [zAr T 0 a3_5 7 f3], [zAr T 0 a4_6 7 f4]] _ _ := G.re rfl
  refine z_get C G clX4 0 rfl 0 (by decide) m_fl_RX8_9 rfl dX8_inOneClass_14 ?_
  refine lv_icmp_ge (tgt := 55) hx hb dX8_inOneClass_17 (by decide) (fun c_8 => ?_) (fun c_8 => ?_)
  · have c_8n : cr.toInt ≤ (i : Int) := by have q := (fa_le _ _).mp c_8; rw [nI_toInt (n := i) (by omega)] at q; exact q
    refine lv_iload_n hx hb dX8_inOneClass_55 rfl (lv_at hl 1 rfl) ?_
    have hw_9 : bLand T h cr inn f1 f2 f3 f4 [zO4 h cr inn a1_3 a2_4 a3_5 a4_6, zAr T 0 a1_3 7 f1, zAr T 0 a2_4 28 f2, zAr T 0 a3_5 7 f3, zAr T 0 a4_6 7 f4] := ⟨a1_3, a2_4, a3_5, a4_6, rfl⟩
    have G : zS T A s.heap s [[zO4 h cr inn a1_3 a2_4 a3_5 a4_6, zAr T 0 a1_3 7 f1, zAr T 0 a2_4 28 f2, zAr T 0 a3_5 7 f3, zAr T 0 a4_6 7 f4]] _ _ := G.re rfl
    exact z_back hQ9 (z_iret C hr hlocks G (Nat.le_of_ble_eq_true rfl) (Nat.le_of_ble_eq_true rfl) dX8_inOneClass_56 rfl)
  · have c_8n : ¬ cr.toInt ≤ (i : Int) := fun q => c_8 ((fa_le _ _).mpr (by rw [nI_toInt (n := i) (by omega)]; exact q))
    refine lv_iload_n hx hb dX8_inOneClass_20 rfl (lv_at hl 2 rfl) ?_
    refine lv_iload hx hb dX8_inOneClass_21 (lv_at hl 0 rfl) ?_
    refine lv_ishr hx hb dX8_inOneClass_23 ?_
    refine lv_iconst (v := 1) hx hb dX8_inOneClass_24 (by decide) ?_
    refine lv_iand hx hb dX8_inOneClass_25 ?_
    refine lv_if_eq (tgt := 49) hx hb dX8_inOneClass_26 (by decide) (fun c_10 => ?_) (fun c_10 => ?_)
    · have c_10n : (((zSeen cr inn f1 f2 (1 <<< (x &&& 31)) 7) >>> ((nI i) &&& 31)) &&& 1).toInt = (0 : Int) := (fa_eq _ _).mp c_10
      refine lv_iinc (v := nI (i + 1)) (lv' := [(4, .int (nI (i + 1))), (3, .int ui3), (2, .int (zSeen cr inn f1 f2 (1 <<< (x &&& 31)) 7)), (0, .ref h), (1, .int x)]) hx hb dX8_inOneClass_49 hl (k := 0) rfl (z_inc i 1) (by decide) rfl (fun ls hl => ?_)
      refine lv_goto (tgt := 11) hx hb dX8_inOneClass_52 (by decide) ?_
      have hw_11 : bLand T h cr inn f1 f2 f3 f4 [zO4 h cr inn a1_3 a2_4 a3_5 a4_6, zAr T 0 a1_3 7 f1, zAr T 0 a2_4 28 f2, zAr T 0 a3_5 7 f3, zAr T 0 a4_6 7 f4] := ⟨a1_3, a2_4, a3_5, a4_6, rfl⟩
      have G : zS T A s.heap s [[zO4 h cr inn a1_3 a2_4 a3_5 a4_6, zAr T 0 a1_3 7 f1, zAr T 0 a2_4 28 f2, zAr T 0 a3_5 7 f3, zAr T 0 a4_6 7 f4]] _ _ := G.re rfl
      exact ih_11 (i + 1) ui3 (show (i + 1) ≤ cr.toInt.toNat from by omega) (show cr.toInt.toNat - (i + 1) < cr.toInt.toNat - i from by omega) _ _ ls G (lv_sub hl [0, 1, 2, 3, 4] rfl)
    · have c_10n : ¬ (((zSeen cr inn f1 f2 (1 <<< (x &&& 31)) 7) >>> ((nI i) &&& 31)) &&& 1).toInt = (0 : Int) := fun q => c_10 ((fa_eq _ _).mpr q)
      refine lv_aload_n hx hb dX8_inOneClass_29 rfl (lv_at hl 3 rfl) ?_
      refine lv_iload hx hb dX8_inOneClass_30 (lv_at hl 0 rfl) ?_
      have hw_12 : bLand T h cr inn f1 f2 f3 f4 [zO4 h cr inn a1_3 a2_4 a3_5 a4_6, zAr T 0 a1_3 7 f1, zAr T 0 a2_4 28 f2, zAr T 0 a3_5 7 f3, zAr T 0 a4_6 7 f4] := ⟨a1_3, a2_4, a3_5, a4_6, rfl⟩
      have G : zS T A s.heap s [[zO4 h cr inn a1_3 a2_4 a3_5 a4_6, zAr T 0 a1_3 7 f1, zAr T 0 a2_4 28 f2, zAr T 0 a3_5 7 f3, zAr T 0 a4_6 7 f4]] _ _ := G.re rfl
      refine z_Si (bc := [[zO4 h cr inn a1_3 a2_4 a3_5 a4_6, zAr T 0 a1_3 7 f1, zAr T 0 a2_4 28 f2, zAr T 0 a3_5 7 f3, zAr T 0 a4_6 7 f4]]) (br := []) (As := [.ref h, .int (nI i)]) (rest := []) C G (c_reached l T h cr inn f1 f2 f3 f4 ([zO4 h cr inn a1_3 a2_4 a3_5 a4_6, zAr T 0 a1_3 7 f1, zAr T 0 a2_4 28 f2, zAr T 0 a3_5 7 f3, zAr T 0 a4_6 7 f4]) (nI i) hw_12 (by first | with_reducible assumption | with_reducible rfl | omega | assumption | rfl)) (kS_RX8_45 C.2.2.2.2 (Nat.le_of_ble_eq_true rfl) (Nat.le_of_ble_eq_true rfl)) [0] [0] rfl rfl rfl rfl hl.1 dX8_inOneClass_32 (Nat.le_of_ble_eq_true rfl) (Nat.le_of_ble_eq_true rfl) (fun r_14 b1 H locs hw G => ?_)
      refine zAn2 hw ?_
      intro hbs9 h_13
      clear hw
      subst hbs9
      have G : zS T A s.heap s [[zO4 h cr inn a1_3 a2_4 a3_5 a4_6, zAr T 0 a1_3 7 f1, zAr T 0 a2_4 28 f2, zAr T 0 a3_5 7 f3, zAr T 0 a4_6 7 f4]] _ _ := G
      subst h_13
      refine lv_iload_n hx hb dX8_inOneClass_35 rfl (lv_at hl 4 rfl) ?_
      refine lv_ishr hx hb dX8_inOneClass_36 ?_
      refine lv_iconst (v := 1) hx hb dX8_inOneClass_37 (by decide) ?_
      refine lv_iand hx hb dX8_inOneClass_38 ?_
      refine lv_if_eq (tgt := 49) hx hb dX8_inOneClass_39 (by decide) (fun c_15 => ?_) (fun c_15 => ?_)
      · have c_15n : (((zSeen cr inn f1 f2 (1 <<< ((nI i) &&& 31)) 7) >>> (x &&& 31)) &&& 1).toInt = (0 : Int) := (fa_eq _ _).mp c_15
        refine lv_iinc (v := nI (i + 1)) (lv' := [(4, .int (nI (i + 1))), (3, .int ui3), (2, .int (zSeen cr inn f1 f2 (1 <<< (x &&& 31)) 7)), (0, .ref h), (1, .int x)]) hx hb dX8_inOneClass_49 hl (k := 0) rfl (z_inc i 1) (by decide) rfl (fun ls hl => ?_)
        refine lv_goto (tgt := 11) hx hb dX8_inOneClass_52 (by decide) ?_
        exact ih_11 (i + 1) ui3 (show (i + 1) ≤ cr.toInt.toNat from by omega) (show cr.toInt.toNat - (i + 1) < cr.toInt.toNat - i from by omega) _ _ ls G (lv_sub hl [0, 1, 2, 3, 4] rfl)
      · have c_15n : ¬ (((zSeen cr inn f1 f2 (1 <<< ((nI i) &&& 31)) 7) >>> (x &&& 31)) &&& 1).toInt = (0 : Int) := fun q => c_15 ((fa_eq _ _).mpr q)
        refine lv_iload_n hx hb dX8_inOneClass_42 rfl (lv_at hl 1 rfl) ?_
        refine lv_iconst (v := 1) hx hb dX8_inOneClass_43 (by decide) ?_
        refine lv_iload hx hb dX8_inOneClass_44 (lv_at hl 0 rfl) ?_
        refine lv_ishl hx hb dX8_inOneClass_46 ?_
        refine lv_ior hx hb dX8_inOneClass_47 ?_
        refine lv_istore_n (lv' := [(3, .int (ui3 ||| (1 <<< ((nI i) &&& 31)))), (4, .int (nI i)), (2, .int (zSeen cr inn f1 f2 (1 <<< (x &&& 31)) 7)), (0, .ref h), (1, .int x)]) hx hb dX8_inOneClass_48 rfl hl (by decide) rfl (fun ls hl => ?_)
        refine lv_iinc (v := nI (i + 1)) (lv' := [(4, .int (nI (i + 1))), (3, .int (ui3 ||| (1 <<< ((nI i) &&& 31)))), (2, .int (zSeen cr inn f1 f2 (1 <<< (x &&& 31)) 7)), (0, .ref h), (1, .int x)]) hx hb dX8_inOneClass_49 hl (k := 1) rfl (z_inc i 1) (by decide) rfl (fun ls hl => ?_)
        refine lv_goto (tgt := 11) hx hb dX8_inOneClass_52 (by decide) ?_
        exact ih_11 (i + 1) (ui3 ||| (1 <<< ((nI i) &&& 31))) (show (i + 1) ≤ cr.toInt.toNat from by omega) (show cr.toInt.toNat - (i + 1) < cr.toInt.toNat - i from by omega) _ _ ls G (lv_sub hl [0, 1, 2, 3, 4] rfl)
set_option maxHeartbeats 4000000 in
set_option maxRecDepth 100000 in
/-- c_howManyLead -/
theorem c_howManyLead (l : Launch) (T : zTy) (h : Nat) (cr : Int32) (inn : Int32) (f1 : Nat → Int32) (f2 : Nat → Int32) (f3 : Nat → Int32) (f4 : Nat → Int32) (w : va_W) (x : Int32) (y : Int32) (hw : bLand T h cr inn f1 f2 f3 f4 w) (hI : zLI cr f1 f3) : zMi l T yX8_howManyLead cX8_howManyLead 5 (some .int) 3 0 0 [.ref h, .int x, .int y] [w] (fun (r : Int32) bs => bs = [w]) := by
  refine zMi_of (own := RX8) (by decide) rfl (Nat.le_of_ble_eq_true rfl) ?_
  intro p e s m args below meth c A ls C hr hlocks hnm hAe G hl
  refine zHide (fun Q9 hQ9 => ?_)
  have hx := C.1
  have hb := C.2.1
  have hl : lv_has ls 5 [(0, .ref h), (1, .int x), (2, .int y)] := hl
  have hcr := hI.1
  refine lv_iconst (v := 0) hx hb dX8_howManyLead_0 (by decide) ?_
  refine lv_istore_n (lv' := [(3, .int 0), (0, .ref h), (1, .int x), (2, .int y)]) hx hb dX8_howManyLead_1 rfl hl (by decide) rfl (fun ls hl => ?_)
  have hwl := zWays_le (inn := inn) hI x
  refine lv_iconst (v := 0) hx hb dX8_howManyLead_2 (by decide) ?_
  refine lv_istore (lv' := [(4, .int 0), (3, .int 0), (0, .ref h), (1, .int x), (2, .int y)]) hx hb dX8_howManyLead_3 hl (by decide) rfl (fun ls hl => ?_)
  refine zEx4 hw ?_
  intro a1_1 a2_2 a3_3 a4_4 hbs9
  clear hw
  subst hbs9
  have G : zS T A s.heap s [[zO4 h cr inn a1_1 a2_2 a3_3 a4_4], [zAr T 0 a1_1 7 f1], [zAr T 0 a2_2 28 f2], [zAr T 0 a3_3 7 f3], [zAr T 0 a4_4 7 f4]] _ _ := G.re rfl
  have hw_5 : bLand T h cr inn f1 f2 f3 f4 [zO4 h cr inn a1_1 a2_2 a3_3 a4_4, zAr T 0 a1_1 7 f1, zAr T 0 a2_2 28 f2, zAr T 0 a3_3 7 f3, zAr T 0 a4_4 7 f4] := ⟨a1_1, a2_2, a3_3, a4_4, rfl⟩
  have G : zS T A s.heap s [[zO4 h cr inn a1_1 a2_2 a3_3 a4_4, zAr T 0 a1_1 7 f1, zAr T 0 a2_2 28 f2, zAr T 0 a3_3 7 f3, zAr T 0 a4_4 7 f4]] _ _ := G.re rfl
  refine z_lp2 (T := T) 5 (fun (i : Nat) (u : Int32) => [[zO4 h cr inn a1_1 a2_2 a3_3 a4_4, zAr T 0 a1_1 7 f1, zAr T 0 a2_2 28 f2, zAr T 0 a3_3 7 f3, zAr T 0 a4_4 7 f4]]) (fun (i : Nat) (u : Int32) => [(4, .int (nI i)), (3, .int u), (0, .ref h), (1, .int x), (2, .int y)]) (fun (i : Nat) (u : Int32) => i ≤ (zWays cr inn f1 x).toInt.toNat) (fun (i : Nat) (u : Int32) => (zWays cr inn f1 x).toInt.toNat - i) ?_ 0 0 (show 0 ≤ (zWays cr inn f1 x).toInt.toNat from by omega) G (lv_sub hl [0, 1, 2, 3, 4] rfl)
  intro i u hi ih_5 H locs ls G hl
  replace hi : i ≤ (zWays cr inn f1 x).toInt.toNat := hi
  replace G : zS T A s.heap s [[zO4 h cr inn a1_1 a2_2 a3_3 a4_4, zAr T 0 a1_1 7 f1, zAr T 0 a2_2 28 f2, zAr T 0 a3_3 7 f3, zAr T 0 a4_4 7 f4]] _ _ := G
  replace hl : lv_has ls 5 [(4, .int (nI i)), (3, .int u), (0, .ref h), (1, .int x), (2, .int y)] := hl
  refine lv_iload hx hb dX8_howManyLead_5 (lv_at hl 0 rfl) ?_
  refine lv_aload_n hx hb dX8_howManyLead_7 rfl (lv_at hl 2 rfl) ?_
  refine lv_iload_n hx hb dX8_howManyLead_8 rfl (lv_at hl 3 rfl) ?_
  refine z_Vi (bc := [[zO4 h cr inn a1_1 a2_2 a3_3 a4_4, zAr T 0 a1_1 7 f1, zAr T 0 a2_2 28 f2, zAr T 0 a3_3 7 f3, zAr T 0 a4_4 7 f4]]) (br := []) (As := [.int x]) (rest := [.int (nI i)]) C G (c_waysOut l T h cr inn f1 f2 f3 f4 ([zO4 h cr inn a1_1 a2_2 a3_3 a4_4, zAr T 0 a1_1 7 f1, zAr T 0 a2_2 28 f2, zAr T 0 a3_3 7 f3, zAr T 0 a4_4 7 f4]) x hw_5) (kV_RX8_15 C.2.2.2.2 (Nat.le_of_ble_eq_true rfl) (Nat.le_of_ble_eq_true rfl)) [0] [0] rfl rfl (ci := 4) (qc := (RX4, TX4, 6)) rfl rfl (List.mem_flatten.mpr ⟨_, List.mem_of_getElem? (i := 0) rfl, (bLand_mem hw_5).choose_spec⟩) rfl rfl hl.1 dX8_howManyLead_9 (Nat.le_of_ble_eq_true rfl) (Nat.le_of_ble_eq_true rfl) (fun r_7 b1 H locs hw G => ?_)
  refine zAn2 hw ?_
  intro hbs9 h_6
  clear hw
  subst hbs9
  have G : zS T A s.heap s [[zO4 h cr inn a1_1 a2_2 a3_3 a4_4, zAr T 0 a1_1 7 f1, zAr T 0 a2_2 28 f2, zAr T 0 a3_3 7 f3, zAr T 0 a4_4 7 f4]] _ _ := G
  subst h_6
  refine lv_icmp_ge (tgt := 40) hx hb dX8_howManyLead_12 (by decide) (fun c_8 => ?_) (fun c_8 => ?_)
  · have c_8n : (zWays cr inn f1 x).toInt ≤ (i : Int) := by have q := (fa_le _ _).mp c_8; rw [nI_toInt (n := i) (by omega)] at q; exact q
    refine lv_iload_n hx hb dX8_howManyLead_40 rfl (lv_at hl 1 rfl) ?_
    exact z_back hQ9 (z_iret C hr hlocks G (Nat.le_of_ble_eq_true rfl) (Nat.le_of_ble_eq_true rfl) dX8_howManyLead_41 rfl)
  · have c_8n : ¬ (zWays cr inn f1 x).toInt ≤ (i : Int) := fun q => c_8 ((fa_le _ _).mpr (by rw [nI_toInt (n := i) (by omega)]; exact q))
    refine lv_iload_n hx hb dX8_howManyLead_15 rfl (lv_at hl 1 rfl) ?_
    refine lv_aload_n hx hb dX8_howManyLead_16 rfl (lv_at hl 2 rfl) ?_
    refine lv_iload_n hx hb dX8_howManyLead_17 rfl (lv_at hl 3 rfl) ?_
    refine lv_iload hx hb dX8_howManyLead_18 (lv_at hl 0 rfl) ?_
    refine z_Vi (bc := [[zO4 h cr inn a1_1 a2_2 a3_3 a4_4, zAr T 0 a1_1 7 f1, zAr T 0 a2_2 28 f2, zAr T 0 a3_3 7 f3, zAr T 0 a4_4 7 f4]]) (br := []) (As := [.int x, .int (nI i)]) (rest := [.int u]) C G (c_target l T h cr inn f1 f2 f3 f4 ([zO4 h cr inn a1_1 a2_2 a3_3 a4_4, zAr T 0 a1_1 7 f1, zAr T 0 a2_2 28 f2, zAr T 0 a3_3 7 f3, zAr T 0 a4_4 7 f4]) x (nI i) hw_5) (kV_RX8_19 C.2.2.2.2 (Nat.le_of_ble_eq_true rfl) (Nat.le_of_ble_eq_true rfl)) [0] [0] rfl rfl (ci := 4) (qc := (RX4, TX4, 6)) rfl rfl (List.mem_flatten.mpr ⟨_, List.mem_of_getElem? (i := 0) rfl, (bLand_mem hw_5).choose_spec⟩) rfl rfl hl.1 dX8_howManyLead_20 (Nat.le_of_ble_eq_true rfl) (Nat.le_of_ble_eq_true rfl) (fun r_10 b1 H locs hw G => ?_)
    refine zAn2 hw ?_
    intro hbs9 h_9
    clear hw
    subst hbs9
    have G : zS T A s.heap s [[zO4 h cr inn a1_1 a2_2 a3_3 a4_4, zAr T 0 a1_1 7 f1, zAr T 0 a2_2 28 f2, zAr T 0 a3_3 7 f3, zAr T 0 a4_4 7 f4]] _ _ := G
    subst h_9
    refine lv_iload_n hx hb dX8_howManyLead_23 rfl (lv_at hl 4 rfl) ?_
    refine lv_icmp_ne (tgt := 31) hx hb dX8_howManyLead_24 (by decide) (fun c_11 => ?_) (fun c_11 => ?_)
    · have c_11n : ¬ (zTarget cr f1 f2 x (nI i)).toInt = y.toInt := fun q => c_11 ((fa_eq _ _).mpr q)
      refine lv_iconst (v := 0) hx hb dX8_howManyLead_31 (by decide) ?_
      refine lv_iadd hx hb dX8_howManyLead_32 ?_
      refine lv_istore_n (lv' := [(3, .int (u + 0)), (4, .int (nI i)), (0, .ref h), (1, .int x), (2, .int y)]) hx hb dX8_howManyLead_33 rfl hl (by decide) rfl (fun ls hl => ?_)
      refine lv_iinc (v := nI (i + 1)) (lv' := [(4, .int (nI (i + 1))), (3, .int (u + 0)), (0, .ref h), (1, .int x), (2, .int y)]) hx hb dX8_howManyLead_34 hl (k := 1) rfl (z_inc i 1) (by decide) rfl (fun ls hl => ?_)
      refine lv_goto (tgt := 5) hx hb dX8_howManyLead_37 (by decide) ?_
      exact ih_5 (i + 1) (u + 0) (show (i + 1) ≤ (zWays cr inn f1 x).toInt.toNat from by omega) (show (zWays cr inn f1 x).toInt.toNat - (i + 1) < (zWays cr inn f1 x).toInt.toNat - i from by omega) _ _ ls G (lv_sub hl [0, 1, 2, 3, 4] rfl)
    · have c_11n : (zTarget cr f1 f2 x (nI i)).toInt = y.toInt := (fa_eq _ _).mp c_11
      refine lv_iconst (v := 1) hx hb dX8_howManyLead_27 (by decide) ?_
      refine lv_goto (tgt := 32) hx hb dX8_howManyLead_28 (by decide) ?_
      refine lv_iadd hx hb dX8_howManyLead_32 ?_
      refine lv_istore_n (lv' := [(3, .int (u + 1)), (4, .int (nI i)), (0, .ref h), (1, .int x), (2, .int y)]) hx hb dX8_howManyLead_33 rfl hl (by decide) rfl (fun ls hl => ?_)
      refine lv_iinc (v := nI (i + 1)) (lv' := [(4, .int (nI (i + 1))), (3, .int (u + 1)), (0, .ref h), (1, .int x), (2, .int y)]) hx hb dX8_howManyLead_34 hl (k := 1) rfl (z_inc i 1) (by decide) rfl (fun ls hl => ?_)
      refine lv_goto (tgt := 5) hx hb dX8_howManyLead_37 (by decide) ?_
      exact ih_5 (i + 1) (u + 1) (show (i + 1) ≤ (zWays cr inn f1 x).toInt.toNat from by omega) (show (zWays cr inn f1 x).toInt.toNat - (i + 1) < (zWays cr inn f1 x).toInt.toNat - i from by omega) _ _ ls G (lv_sub hl [0, 1, 2, 3, 4] rfl)
set_option maxHeartbeats 4000000 in
set_option maxRecDepth 100000 in
/-- c_howManyLeadTo -/
theorem c_howManyLeadTo (l : Launch) (T : zTy) (h : Nat) (cr : Int32) (inn : Int32) (f1 : Nat → Int32) (f2 : Nat → Int32) (f3 : Nat → Int32) (f4 : Nat → Int32) (w : va_W) (x : Int32) (hw : bLand T h cr inn f1 f2 f3 f4 w) (hI : zLI cr f1 f3) : zMi l T yX8_howManyLeadTo cX8_howManyLeadTo 4 (some .int) 4 0 0 [.ref h, .int x] [w] (fun (r : Int32) bs => bs = [w]) := by
  refine zMi_of (own := RX8) (by decide) rfl (Nat.le_of_ble_eq_true rfl) ?_
  intro p e s m args below meth c A ls C hr hlocks hnm hAe G hl
  refine zHide (fun Q9 hQ9 => ?_)
  have hx := C.1
  have hb := C.2.1
  have hl : lv_has ls 4 [(0, .ref h), (1, .int x)] := hl
  have hcr := hI.1
  refine lv_iconst (v := 0) hx hb dX8_howManyLeadTo_0 (by decide) ?_
  refine lv_istore_n (lv' := [(2, .int 0), (0, .ref h), (1, .int x)]) hx hb dX8_howManyLeadTo_1 rfl hl (by decide) rfl (fun ls hl => ?_)
  refine lv_iconst (v := 0) hx hb dX8_howManyLeadTo_2 (by decide) ?_
  refine lv_istore_n (lv' := [(3, .int 0), (2, .int 0), (0, .ref h), (1, .int x)]) hx hb dX8_howManyLeadTo_3 rfl hl (by decide) rfl (fun ls hl => ?_)
  refine zEx4 hw ?_
  intro a1_1 a2_2 a3_3 a4_4 hbs9
  clear hw
  subst hbs9
  have G : zS T A s.heap s [[zO4 h cr inn a1_1 a2_2 a3_3 a4_4], [zAr T 0 a1_1 7 f1], [zAr T 0 a2_2 28 f2], [zAr T 0 a3_3 7 f3], [zAr T 0 a4_4 7 f4]] _ _ := G.re rfl
  have hw_5 : bLand T h cr inn f1 f2 f3 f4 [zO4 h cr inn a1_1 a2_2 a3_3 a4_4, zAr T 0 a1_1 7 f1, zAr T 0 a2_2 28 f2, zAr T 0 a3_3 7 f3, zAr T 0 a4_4 7 f4] := ⟨a1_1, a2_2, a3_3, a4_4, rfl⟩
  have G : zS T A s.heap s [[zO4 h cr inn a1_1 a2_2 a3_3 a4_4, zAr T 0 a1_1 7 f1, zAr T 0 a2_2 28 f2, zAr T 0 a3_3 7 f3, zAr T 0 a4_4 7 f4]] _ _ := G.re rfl
  refine z_lp2 (T := T) 4 (fun (i : Nat) (ui2 : Int32) => [[zO4 h cr inn a1_1 a2_2 a3_3 a4_4, zAr T 0 a1_1 7 f1, zAr T 0 a2_2 28 f2, zAr T 0 a3_3 7 f3, zAr T 0 a4_4 7 f4]]) (fun (i : Nat) (ui2 : Int32) => [(3, .int (nI i)), (2, .int ui2), (0, .ref h), (1, .int x)]) (fun (i : Nat) (ui2 : Int32) => i ≤ cr.toInt.toNat) (fun (i : Nat) (ui2 : Int32) => cr.toInt.toNat - i) ?_ 0 0 (show 0 ≤ cr.toInt.toNat from by omega) G (lv_sub hl [0, 1, 2, 3] rfl)
  intro i ui2 hi ih_4 H locs ls G hl
  replace hi : i ≤ cr.toInt.toNat := hi
  replace G : zS T A s.heap s [[zO4 h cr inn a1_1 a2_2 a3_3 a4_4, zAr T 0 a1_1 7 f1, zAr T 0 a2_2 28 f2, zAr T 0 a3_3 7 f3, zAr T 0 a4_4 7 f4]] _ _ := G
  replace hl : lv_has ls 4 [(3, .int (nI i)), (2, .int ui2), (0, .ref h), (1, .int x)] := hl
  refine lv_iload_n hx hb dX8_howManyLeadTo_4 rfl (lv_at hl 0 rfl) ?_
  refine lv_aload_n hx hb dX8_howManyLeadTo_5 rfl (lv_at hl 2 rfl) ?_
  have G : zS T A s.heap s [[zO4 h cr inn a1_1 a2_2 a3_3 a4_4], [zAr T 0 a1_1 7 f1], [zAr T 0 a2_2 28 f2], [zAr T 0 a3_3 7 f3], [zAr T 0 a4_4 7 f4]] _ _ := G.re rfl
  refine z_get C G clX4 0 rfl 0 (by decide) m_fl_RX8_9 rfl dX8_howManyLeadTo_6 ?_
  refine lv_icmp_ge (tgt := 27) hx hb dX8_howManyLeadTo_9 (by decide) (fun c_6 => ?_) (fun c_6 => ?_)
  · have c_6n : cr.toInt ≤ (i : Int) := by have q := (fa_le _ _).mp c_6; rw [nI_toInt (n := i) (by omega)] at q; exact q
    refine lv_iload_n hx hb dX8_howManyLeadTo_27 rfl (lv_at hl 1 rfl) ?_
    have hw_7 : bLand T h cr inn f1 f2 f3 f4 [zO4 h cr inn a1_1 a2_2 a3_3 a4_4, zAr T 0 a1_1 7 f1, zAr T 0 a2_2 28 f2, zAr T 0 a3_3 7 f3, zAr T 0 a4_4 7 f4] := ⟨a1_1, a2_2, a3_3, a4_4, rfl⟩
    have G : zS T A s.heap s [[zO4 h cr inn a1_1 a2_2 a3_3 a4_4, zAr T 0 a1_1 7 f1, zAr T 0 a2_2 28 f2, zAr T 0 a3_3 7 f3, zAr T 0 a4_4 7 f4]] _ _ := G.re rfl
    exact z_back hQ9 (z_iret C hr hlocks G (Nat.le_of_ble_eq_true rfl) (Nat.le_of_ble_eq_true rfl) dX8_howManyLeadTo_28 rfl)
  · have c_6n : ¬ cr.toInt ≤ (i : Int) := fun q => c_6 ((fa_le _ _).mpr (by rw [nI_toInt (n := i) (by omega)]; exact q))
    refine lv_iload_n hx hb dX8_howManyLeadTo_12 rfl (lv_at hl 1 rfl) ?_
    refine lv_aload_n hx hb dX8_howManyLeadTo_13 rfl (lv_at hl 2 rfl) ?_
    refine lv_iload_n hx hb dX8_howManyLeadTo_14 rfl (lv_at hl 0 rfl) ?_
    refine lv_iload_n hx hb dX8_howManyLeadTo_15 rfl (lv_at hl 3 rfl) ?_
    have hw_8 : bLand T h cr inn f1 f2 f3 f4 [zO4 h cr inn a1_1 a2_2 a3_3 a4_4, zAr T 0 a1_1 7 f1, zAr T 0 a2_2 28 f2, zAr T 0 a3_3 7 f3, zAr T 0 a4_4 7 f4] := ⟨a1_1, a2_2, a3_3, a4_4, rfl⟩
    have G : zS T A s.heap s [[zO4 h cr inn a1_1 a2_2 a3_3 a4_4, zAr T 0 a1_1 7 f1, zAr T 0 a2_2 28 f2, zAr T 0 a3_3 7 f3, zAr T 0 a4_4 7 f4]] _ _ := G.re rfl
    refine z_Si (bc := [[zO4 h cr inn a1_1 a2_2 a3_3 a4_4, zAr T 0 a1_1 7 f1, zAr T 0 a2_2 28 f2, zAr T 0 a3_3 7 f3, zAr T 0 a4_4 7 f4]]) (br := []) (As := [.ref h, .int (nI i), .int x]) (rest := [.int ui2]) C G (c_howManyLead l T h cr inn f1 f2 f3 f4 ([zO4 h cr inn a1_1 a2_2 a3_3 a4_4, zAr T 0 a1_1 7 f1, zAr T 0 a2_2 28 f2, zAr T 0 a3_3 7 f3, zAr T 0 a4_4 7 f4]) (nI i) x hw_8 (by first | with_reducible assumption | with_reducible rfl | omega | assumption | rfl)) (kS_RX8_52 C.2.2.2.2 (Nat.le_of_ble_eq_true rfl) (Nat.le_of_ble_eq_true rfl)) [0] [0] rfl rfl rfl rfl hl.1 dX8_howManyLeadTo_16 (Nat.le_of_ble_eq_true rfl) (Nat.le_of_ble_eq_true rfl) (fun r_9 b1 H locs hw G => ?_)
    obtain rfl := hw
    have G : zS T A s.heap s [[zO4 h cr inn a1_1 a2_2 a3_3 a4_4, zAr T 0 a1_1 7 f1, zAr T 0 a2_2 28 f2, zAr T 0 a3_3 7 f3, zAr T 0 a4_4 7 f4]] _ _ := G
    refine lv_iadd hx hb dX8_howManyLeadTo_19 ?_
    refine lv_istore_n (lv' := [(2, .int (ui2 + r_9)), (3, .int (nI i)), (0, .ref h), (1, .int x)]) hx hb dX8_howManyLeadTo_20 rfl hl (by decide) rfl (fun ls hl => ?_)
    refine lv_iinc (v := nI (i + 1)) (lv' := [(3, .int (nI (i + 1))), (2, .int (ui2 + r_9)), (0, .ref h), (1, .int x)]) hx hb dX8_howManyLeadTo_21 hl (k := 1) rfl (z_inc i 1) (by decide) rfl (fun ls hl => ?_)
    refine lv_goto (tgt := 4) hx hb dX8_howManyLeadTo_24 (by decide) ?_
    exact ih_4 (i + 1) (ui2 + r_9) (show (i + 1) ≤ cr.toInt.toNat from by omega) (show cr.toInt.toNat - (i + 1) < cr.toInt.toNat - i from by omega) _ _ ls G (lv_sub hl [0, 1, 2, 3] rfl)
set_option maxHeartbeats 4000000 in
set_option maxRecDepth 100000 in
/-- c_heads -/
theorem c_heads (l : Launch) (T : zTy) (h : Nat) (cr : Int32) (inn : Int32) (f1 : Nat → Int32) (f2 : Nat → Int32) (f3 : Nat → Int32) (f4 : Nat → Int32) (w : va_W) (hw : bLand T h cr inn f1 f2 f3 f4 w) (hI : zLI cr f1 f3) : zMi l T yX8_heads cX8_heads 3 (some .int) 4 0 0 [.ref h] [w] (fun (r : Int32) bs => bs = [w]) := by
  refine zMi_of (own := RX8) (by decide) rfl (Nat.le_of_ble_eq_true rfl) ?_
  intro p e s m args below meth c A ls C hr hlocks hnm hAe G hl
  refine zHide (fun Q9 hQ9 => ?_)
  have hx := C.1
  have hb := C.2.1
  have hl : lv_has ls 3 [(0, .ref h)] := hl
  have hcr := hI.1
  refine lv_iconst (v := 0) hx hb dX8_heads_0 (by decide) ?_
  refine lv_istore_n (lv' := [(1, .int 0), (0, .ref h)]) hx hb dX8_heads_1 rfl hl (by decide) rfl (fun ls hl => ?_)
  refine lv_iconst (v := 0) hx hb dX8_heads_2 (by decide) ?_
  refine lv_istore_n (lv' := [(2, .int 0), (1, .int 0), (0, .ref h)]) hx hb dX8_heads_3 rfl hl (by decide) rfl (fun ls hl => ?_)
  refine zEx4 hw ?_
  intro a1_1 a2_2 a3_3 a4_4 hbs9
  clear hw
  subst hbs9
  have G : zS T A s.heap s [[zO4 h cr inn a1_1 a2_2 a3_3 a4_4], [zAr T 0 a1_1 7 f1], [zAr T 0 a2_2 28 f2], [zAr T 0 a3_3 7 f3], [zAr T 0 a4_4 7 f4]] _ _ := G.re rfl
  have hw_5 : bLand T h cr inn f1 f2 f3 f4 [zO4 h cr inn a1_1 a2_2 a3_3 a4_4, zAr T 0 a1_1 7 f1, zAr T 0 a2_2 28 f2, zAr T 0 a3_3 7 f3, zAr T 0 a4_4 7 f4] := ⟨a1_1, a2_2, a3_3, a4_4, rfl⟩
  have G : zS T A s.heap s [[zO4 h cr inn a1_1 a2_2 a3_3 a4_4, zAr T 0 a1_1 7 f1, zAr T 0 a2_2 28 f2, zAr T 0 a3_3 7 f3, zAr T 0 a4_4 7 f4]] _ _ := G.re rfl
  refine z_lp2 (T := T) 4 (fun (i : Nat) (ui1 : Int32) => [[zO4 h cr inn a1_1 a2_2 a3_3 a4_4, zAr T 0 a1_1 7 f1, zAr T 0 a2_2 28 f2, zAr T 0 a3_3 7 f3, zAr T 0 a4_4 7 f4]]) (fun (i : Nat) (ui1 : Int32) => [(2, .int (nI i)), (1, .int ui1), (0, .ref h)]) (fun (i : Nat) (ui1 : Int32) => i ≤ cr.toInt.toNat) (fun (i : Nat) (ui1 : Int32) => cr.toInt.toNat - i) ?_ 0 0 (show 0 ≤ cr.toInt.toNat from by omega) G (lv_sub hl [0, 1, 2] rfl)
  intro i ui1 hi ih_4 H locs ls G hl
  replace hi : i ≤ cr.toInt.toNat := hi
  replace G : zS T A s.heap s [[zO4 h cr inn a1_1 a2_2 a3_3 a4_4, zAr T 0 a1_1 7 f1, zAr T 0 a2_2 28 f2, zAr T 0 a3_3 7 f3, zAr T 0 a4_4 7 f4]] _ _ := G
  replace hl : lv_has ls 3 [(2, .int (nI i)), (1, .int ui1), (0, .ref h)] := hl
  refine lv_iload_n hx hb dX8_heads_4 rfl (lv_at hl 0 rfl) ?_
  refine lv_aload_n hx hb dX8_heads_5 rfl (lv_at hl 2 rfl) ?_
  have G : zS T A s.heap s [[zO4 h cr inn a1_1 a2_2 a3_3 a4_4], [zAr T 0 a1_1 7 f1], [zAr T 0 a2_2 28 f2], [zAr T 0 a3_3 7 f3], [zAr T 0 a4_4 7 f4]] _ _ := G.re rfl
  refine z_get C G clX4 0 rfl 0 (by decide) m_fl_RX8_9 rfl dX8_heads_6 ?_
  refine lv_icmp_ge (tgt := 34) hx hb dX8_heads_9 (by decide) (fun c_6 => ?_) (fun c_6 => ?_)
  · have c_6n : cr.toInt ≤ (i : Int) := by have q := (fa_le _ _).mp c_6; rw [nI_toInt (n := i) (by omega)] at q; exact q
    refine lv_iload_n hx hb dX8_heads_34 rfl (lv_at hl 1 rfl) ?_
    refine lv_iconst (v := (-1)) hx hb dX8_heads_35 (by decide) ?_
    refine lv_ixor hx hb dX8_heads_36 ?_
    refine lv_iconst (v := 1) hx hb dX8_heads_37 (by decide) ?_
    refine lv_aload_n hx hb dX8_heads_38 rfl (lv_at hl 2 rfl) ?_
    refine z_get C G clX4 0 rfl 0 (by decide) m_fl_RX8_9 rfl dX8_heads_39 ?_
    refine lv_ishl hx hb dX8_heads_42 ?_
    refine lv_iconst (v := 1) hx hb dX8_heads_43 (by decide) ?_
    refine lv_isub hx hb dX8_heads_44 ?_
    refine lv_iand hx hb dX8_heads_45 ?_
    have hw_7 : bLand T h cr inn f1 f2 f3 f4 [zO4 h cr inn a1_1 a2_2 a3_3 a4_4, zAr T 0 a1_1 7 f1, zAr T 0 a2_2 28 f2, zAr T 0 a3_3 7 f3, zAr T 0 a4_4 7 f4] := ⟨a1_1, a2_2, a3_3, a4_4, rfl⟩
    have G : zS T A s.heap s [[zO4 h cr inn a1_1 a2_2 a3_3 a4_4, zAr T 0 a1_1 7 f1, zAr T 0 a2_2 28 f2, zAr T 0 a3_3 7 f3, zAr T 0 a4_4 7 f4]] _ _ := G.re rfl
    exact z_back hQ9 (z_iret C hr hlocks G (Nat.le_of_ble_eq_true rfl) (Nat.le_of_ble_eq_true rfl) dX8_heads_46 rfl)
  · have c_6n : ¬ cr.toInt ≤ (i : Int) := fun q => c_6 ((fa_le _ _).mpr (by rw [nI_toInt (n := i) (by omega)]; exact q))
    refine lv_iload_n hx hb dX8_heads_12 rfl (lv_at hl 1 rfl) ?_
    refine lv_aload_n hx hb dX8_heads_13 rfl (lv_at hl 2 rfl) ?_
    refine lv_iconst (v := 1) hx hb dX8_heads_14 (by decide) ?_
    refine lv_iload_n hx hb dX8_heads_15 rfl (lv_at hl 0 rfl) ?_
    refine lv_ishl hx hb dX8_heads_16 ?_
    have hw_8 : bLand T h cr inn f1 f2 f3 f4 [zO4 h cr inn a1_1 a2_2 a3_3 a4_4, zAr T 0 a1_1 7 f1, zAr T 0 a2_2 28 f2, zAr T 0 a3_3 7 f3, zAr T 0 a4_4 7 f4] := ⟨a1_1, a2_2, a3_3, a4_4, rfl⟩
    have G : zS T A s.heap s [[zO4 h cr inn a1_1 a2_2 a3_3 a4_4, zAr T 0 a1_1 7 f1, zAr T 0 a2_2 28 f2, zAr T 0 a3_3 7 f3, zAr T 0 a4_4 7 f4]] _ _ := G.re rfl
    refine z_Si (bc := [[zO4 h cr inn a1_1 a2_2 a3_3 a4_4, zAr T 0 a1_1 7 f1, zAr T 0 a2_2 28 f2, zAr T 0 a3_3 7 f3, zAr T 0 a4_4 7 f4]]) (br := []) (As := [.ref h, .int (1 <<< ((nI i) &&& 31))]) (rest := [.int ui1]) C G (c_spread l T h cr inn f1 f2 f3 f4 ([zO4 h cr inn a1_1 a2_2 a3_3 a4_4, zAr T 0 a1_1 7 f1, zAr T 0 a2_2 28 f2, zAr T 0 a3_3 7 f3, zAr T 0 a4_4 7 f4]) (1 <<< ((nI i) &&& 31)) hw_8 (by first | with_reducible assumption | with_reducible rfl | omega | assumption | rfl)) (kS_RX8_23 C.2.2.2.2 (Nat.le_of_ble_eq_true rfl) (Nat.le_of_ble_eq_true rfl)) [0] [0] rfl rfl rfl rfl hl.1 dX8_heads_17 (Nat.le_of_ble_eq_true rfl) (Nat.le_of_ble_eq_true rfl) (fun r_10 b1 H locs hw G => ?_)
    refine zAn2 hw ?_
    intro hbs9 h_9
    clear hw
    subst hbs9
    have G : zS T A s.heap s [[zO4 h cr inn a1_1 a2_2 a3_3 a4_4, zAr T 0 a1_1 7 f1, zAr T 0 a2_2 28 f2, zAr T 0 a3_3 7 f3, zAr T 0 a4_4 7 f4]] _ _ := G
    subst h_9
    refine lv_iconst (v := 1) hx hb dX8_heads_20 (by decide) ?_
    refine lv_iload_n hx hb dX8_heads_21 rfl (lv_at hl 0 rfl) ?_
    refine lv_ishl hx hb dX8_heads_22 ?_
    refine lv_iconst (v := (-1)) hx hb dX8_heads_23 (by decide) ?_
    refine lv_ixor hx hb dX8_heads_24 ?_
    refine lv_iand hx hb dX8_heads_25 ?_
    refine lv_ior hx hb dX8_heads_26 ?_
    refine lv_istore_n (lv' := [(1, .int (ui1 ||| ((zSpread cr inn f1 f2 (1 <<< ((nI i) &&& 31))) &&& ((1 <<< ((nI i) &&& 31)) ^^^ (-1))))), (2, .int (nI i)), (0, .ref h)]) hx hb dX8_heads_27 rfl hl (by decide) rfl (fun ls hl => ?_)
    refine lv_iinc (v := nI (i + 1)) (lv' := [(2, .int (nI (i + 1))), (1, .int (ui1 ||| ((zSpread cr inn f1 f2 (1 <<< ((nI i) &&& 31))) &&& ((1 <<< ((nI i) &&& 31)) ^^^ (-1))))), (0, .ref h)]) hx hb dX8_heads_28 hl (k := 1) rfl (z_inc i 1) (by decide) rfl (fun ls hl => ?_)
    refine lv_goto (tgt := 4) hx hb dX8_heads_31 (by decide) ?_
    exact ih_4 (i + 1) (ui1 ||| ((zSpread cr inn f1 f2 (1 <<< ((nI i) &&& 31))) &&& ((1 <<< ((nI i) &&& 31)) ^^^ (-1)))) (show (i + 1) ≤ cr.toInt.toNat from by omega) (show cr.toInt.toNat - (i + 1) < cr.toInt.toNat - i from by omega) _ _ ls G (lv_sub hl [0, 1, 2] rfl)
set_option maxHeartbeats 4000000 in
set_option maxRecDepth 100000 in
/-- c_ends -/
theorem c_ends (l : Launch) (T : zTy) (h : Nat) (cr : Int32) (inn : Int32) (f1 : Nat → Int32) (f2 : Nat → Int32) (f3 : Nat → Int32) (f4 : Nat → Int32) (w : va_W) (hw : bLand T h cr inn f1 f2 f3 f4 w) (hI : zLI cr f1 f3) : zMi l T yX8_ends cX8_ends 3 (some .int) 3 0 0 [.ref h] [w] (fun (r : Int32) bs => bs = [w]) := by
  refine zMi_of (own := RX8) (by decide) rfl (Nat.le_of_ble_eq_true rfl) ?_
  intro p e s m args below meth c A ls C hr hlocks hnm hAe G hl
  refine zHide (fun Q9 hQ9 => ?_)
  have hx := C.1
  have hb := C.2.1
  have hl : lv_has ls 3 [(0, .ref h)] := hl
  have hcr := hI.1
  refine lv_iconst (v := 0) hx hb dX8_ends_0 (by decide) ?_
  refine lv_istore_n (lv' := [(1, .int 0), (0, .ref h)]) hx hb dX8_ends_1 rfl hl (by decide) rfl (fun ls hl => ?_)
  refine lv_iconst (v := 0) hx hb dX8_ends_2 (by decide) ?_
  refine lv_istore_n (lv' := [(2, .int 0), (1, .int 0), (0, .ref h)]) hx hb dX8_ends_3 rfl hl (by decide) rfl (fun ls hl => ?_)
  refine zEx4 hw ?_
  intro a1_1 a2_2 a3_3 a4_4 hbs9
  clear hw
  subst hbs9
  have G : zS T A s.heap s [[zO4 h cr inn a1_1 a2_2 a3_3 a4_4], [zAr T 0 a1_1 7 f1], [zAr T 0 a2_2 28 f2], [zAr T 0 a3_3 7 f3], [zAr T 0 a4_4 7 f4]] _ _ := G.re rfl
  have hw_5 : bLand T h cr inn f1 f2 f3 f4 [zO4 h cr inn a1_1 a2_2 a3_3 a4_4, zAr T 0 a1_1 7 f1, zAr T 0 a2_2 28 f2, zAr T 0 a3_3 7 f3, zAr T 0 a4_4 7 f4] := ⟨a1_1, a2_2, a3_3, a4_4, rfl⟩
  have G : zS T A s.heap s [[zO4 h cr inn a1_1 a2_2 a3_3 a4_4, zAr T 0 a1_1 7 f1, zAr T 0 a2_2 28 f2, zAr T 0 a3_3 7 f3, zAr T 0 a4_4 7 f4]] _ _ := G.re rfl
  refine z_lp2 (T := T) 4 (fun (i : Nat) (ui1 : Int32) => [[zO4 h cr inn a1_1 a2_2 a3_3 a4_4, zAr T 0 a1_1 7 f1, zAr T 0 a2_2 28 f2, zAr T 0 a3_3 7 f3, zAr T 0 a4_4 7 f4]]) (fun (i : Nat) (ui1 : Int32) => [(2, .int (nI i)), (1, .int ui1), (0, .ref h)]) (fun (i : Nat) (ui1 : Int32) => i ≤ cr.toInt.toNat) (fun (i : Nat) (ui1 : Int32) => cr.toInt.toNat - i) ?_ 0 0 (show 0 ≤ cr.toInt.toNat from by omega) G (lv_sub hl [0, 1, 2] rfl)
  intro i ui1 hi ih_4 H locs ls G hl
  replace hi : i ≤ cr.toInt.toNat := hi
  replace G : zS T A s.heap s [[zO4 h cr inn a1_1 a2_2 a3_3 a4_4, zAr T 0 a1_1 7 f1, zAr T 0 a2_2 28 f2, zAr T 0 a3_3 7 f3, zAr T 0 a4_4 7 f4]] _ _ := G
  replace hl : lv_has ls 3 [(2, .int (nI i)), (1, .int ui1), (0, .ref h)] := hl
  refine lv_iload_n hx hb dX8_ends_4 rfl (lv_at hl 0 rfl) ?_
  refine lv_aload_n hx hb dX8_ends_5 rfl (lv_at hl 2 rfl) ?_
  have G : zS T A s.heap s [[zO4 h cr inn a1_1 a2_2 a3_3 a4_4], [zAr T 0 a1_1 7 f1], [zAr T 0 a2_2 28 f2], [zAr T 0 a3_3 7 f3], [zAr T 0 a4_4 7 f4]] _ _ := G.re rfl
  refine z_get C G clX4 0 rfl 0 (by decide) m_fl_RX8_9 rfl dX8_ends_6 ?_
  refine lv_icmp_ge (tgt := 44) hx hb dX8_ends_9 (by decide) (fun c_6 => ?_) (fun c_6 => ?_)
  · have c_6n : cr.toInt ≤ (i : Int) := by have q := (fa_le _ _).mp c_6; rw [nI_toInt (n := i) (by omega)] at q; exact q
    refine lv_iload_n hx hb dX8_ends_44 rfl (lv_at hl 1 rfl) ?_
    have hw_7 : bLand T h cr inn f1 f2 f3 f4 [zO4 h cr inn a1_1 a2_2 a3_3 a4_4, zAr T 0 a1_1 7 f1, zAr T 0 a2_2 28 f2, zAr T 0 a3_3 7 f3, zAr T 0 a4_4 7 f4] := ⟨a1_1, a2_2, a3_3, a4_4, rfl⟩
    have G : zS T A s.heap s [[zO4 h cr inn a1_1 a2_2 a3_3 a4_4, zAr T 0 a1_1 7 f1, zAr T 0 a2_2 28 f2, zAr T 0 a3_3 7 f3, zAr T 0 a4_4 7 f4]] _ _ := G.re rfl
    exact z_back hQ9 (z_iret C hr hlocks G (Nat.le_of_ble_eq_true rfl) (Nat.le_of_ble_eq_true rfl) dX8_ends_45 rfl)
  · have c_6n : ¬ cr.toInt ≤ (i : Int) := fun q => c_6 ((fa_le _ _).mpr (by rw [nI_toInt (n := i) (by omega)]; exact q))
    refine lv_iload_n hx hb dX8_ends_12 rfl (lv_at hl 1 rfl) ?_
    refine lv_aload_n hx hb dX8_ends_13 rfl (lv_at hl 2 rfl) ?_
    refine lv_iload_n hx hb dX8_ends_14 rfl (lv_at hl 0 rfl) ?_
    have hw_8 : bLand T h cr inn f1 f2 f3 f4 [zO4 h cr inn a1_1 a2_2 a3_3 a4_4, zAr T 0 a1_1 7 f1, zAr T 0 a2_2 28 f2, zAr T 0 a3_3 7 f3, zAr T 0 a4_4 7 f4] := ⟨a1_1, a2_2, a3_3, a4_4, rfl⟩
    have G : zS T A s.heap s [[zO4 h cr inn a1_1 a2_2 a3_3 a4_4, zAr T 0 a1_1 7 f1, zAr T 0 a2_2 28 f2, zAr T 0 a3_3 7 f3, zAr T 0 a4_4 7 f4]] _ _ := G.re rfl
    refine z_Vi (bc := [[zO4 h cr inn a1_1 a2_2 a3_3 a4_4, zAr T 0 a1_1 7 f1, zAr T 0 a2_2 28 f2, zAr T 0 a3_3 7 f3, zAr T 0 a4_4 7 f4]]) (br := []) (As := [.int (nI i)]) (rest := [.int ui1]) C G (c_waysOut l T h cr inn f1 f2 f3 f4 ([zO4 h cr inn a1_1 a2_2 a3_3 a4_4, zAr T 0 a1_1 7 f1, zAr T 0 a2_2 28 f2, zAr T 0 a3_3 7 f3, zAr T 0 a4_4 7 f4]) (nI i) hw_8) (kV_RX8_15 C.2.2.2.2 (Nat.le_of_ble_eq_true rfl) (Nat.le_of_ble_eq_true rfl)) [0] [0] rfl rfl (ci := 4) (qc := (RX4, TX4, 6)) rfl rfl (List.mem_flatten.mpr ⟨_, List.mem_of_getElem? (i := 0) rfl, (bLand_mem hw_8).choose_spec⟩) rfl rfl hl.1 dX8_ends_15 (Nat.le_of_ble_eq_true rfl) (Nat.le_of_ble_eq_true rfl) (fun r_10 b1 H locs hw G => ?_)
    refine zAn2 hw ?_
    intro hbs9 h_9
    clear hw
    subst hbs9
    have G : zS T A s.heap s [[zO4 h cr inn a1_1 a2_2 a3_3 a4_4, zAr T 0 a1_1 7 f1, zAr T 0 a2_2 28 f2, zAr T 0 a3_3 7 f3, zAr T 0 a4_4 7 f4]] _ _ := G
    subst h_9
    refine lv_if_ne (tgt := 35) hx hb dX8_ends_18 (by decide) (fun c_11 => ?_) (fun c_11 => ?_)
    · have c_11n : ¬ (zWays cr inn f1 (nI i)).toInt = (0 : Int) := fun q => c_11 ((fa_eq _ _).mpr q)
      refine lv_iconst (v := 0) hx hb dX8_ends_35 (by decide) ?_
      refine lv_ior hx hb dX8_ends_36 ?_
      refine lv_istore_n (lv' := [(1, .int (ui1 ||| 0)), (2, .int (nI i)), (0, .ref h)]) hx hb dX8_ends_37 rfl hl (by decide) rfl (fun ls hl => ?_)
      refine lv_iinc (v := nI (i + 1)) (lv' := [(2, .int (nI (i + 1))), (1, .int (ui1 ||| 0)), (0, .ref h)]) hx hb dX8_ends_38 hl (k := 1) rfl (z_inc i 1) (by decide) rfl (fun ls hl => ?_)
      refine lv_goto (tgt := 4) hx hb dX8_ends_41 (by decide) ?_
      exact ih_4 (i + 1) (ui1 ||| 0) (show (i + 1) ≤ cr.toInt.toNat from by omega) (show cr.toInt.toNat - (i + 1) < cr.toInt.toNat - i from by omega) _ _ ls G (lv_sub hl [0, 1, 2] rfl)
    · have c_11n : (zWays cr inn f1 (nI i)).toInt = (0 : Int) := (fa_eq _ _).mp c_11
      refine lv_aload_n hx hb dX8_ends_21 rfl (lv_at hl 2 rfl) ?_
      refine lv_iload_n hx hb dX8_ends_22 rfl (lv_at hl 0 rfl) ?_
      refine z_Vi (bc := [[zO4 h cr inn a1_1 a2_2 a3_3 a4_4, zAr T 0 a1_1 7 f1, zAr T 0 a2_2 28 f2, zAr T 0 a3_3 7 f3, zAr T 0 a4_4 7 f4]]) (br := []) (As := [.int (nI i)]) (rest := [.int ui1]) C G (c_isInn l T h cr inn f1 f2 f3 f4 ([zO4 h cr inn a1_1 a2_2 a3_3 a4_4, zAr T 0 a1_1 7 f1, zAr T 0 a2_2 28 f2, zAr T 0 a3_3 7 f3, zAr T 0 a4_4 7 f4]) (nI i) hw_8) (kV_RX8_48 C.2.2.2.2 (Nat.le_of_ble_eq_true rfl) (Nat.le_of_ble_eq_true rfl)) [0] [0] rfl rfl (ci := 4) (qc := (RX4, TX4, 6)) rfl rfl (List.mem_flatten.mpr ⟨_, List.mem_of_getElem? (i := 0) rfl, (bLand_mem hw_8).choose_spec⟩) rfl rfl hl.1 dX8_ends_23 (Nat.le_of_ble_eq_true rfl) (Nat.le_of_ble_eq_true rfl) (fun r_13 b1 H locs hw G => ?_)
      refine zAn2 hw ?_
      intro hbs9 hc_12
      clear hw
      subst hbs9
      have G : zS T A s.heap s [[zO4 h cr inn a1_1 a2_2 a3_3 a4_4, zAr T 0 a1_1 7 f1, zAr T 0 a2_2 28 f2, zAr T 0 a3_3 7 f3, zAr T 0 a4_4 7 f4]] _ _ := G
      rcases hc_12 with ⟨rfl, h_14, h_15, h_16, h_17⟩ | ⟨rfl, h_18⟩
      · have h_14 : 0 ≤ (nI i).toInt := h_14
        have h_15 : (nI i).toInt < cr.toInt := h_15
        have h_16 : (nI i).toInt < 7 := h_16
        have h_17 : ¬ zBit inn (nI i) = 0 := h_17
        refine lv_if_ne (tgt := 35) hx hb dX8_ends_26 (by decide) (fun _ => ?_) (fun q => absurd q (by decide))
        refine lv_iconst (v := 0) hx hb dX8_ends_35 (by decide) ?_
        refine lv_ior hx hb dX8_ends_36 ?_
        refine lv_istore_n (lv' := [(1, .int (ui1 ||| 0)), (2, .int (nI i)), (0, .ref h)]) hx hb dX8_ends_37 rfl hl (by decide) rfl (fun ls hl => ?_)
        refine lv_iinc (v := nI (i + 1)) (lv' := [(2, .int (nI (i + 1))), (1, .int (ui1 ||| 0)), (0, .ref h)]) hx hb dX8_ends_38 hl (k := 1) rfl (z_inc i 1) (by decide) rfl (fun ls hl => ?_)
        refine lv_goto (tgt := 4) hx hb dX8_ends_41 (by decide) ?_
        exact ih_4 (i + 1) (ui1 ||| 0) (show (i + 1) ≤ cr.toInt.toNat from by omega) (show cr.toInt.toNat - (i + 1) < cr.toInt.toNat - i from by omega) _ _ ls G (lv_sub hl [0, 1, 2] rfl)
      · have h_18 : ((nI i).toInt < 0 ∨ cr.toInt ≤ (nI i).toInt ∨ 7 ≤ (nI i).toInt ∨ zBit inn (nI i) = 0) := h_18
        refine lv_if_ne (tgt := 35) hx hb dX8_ends_26 (by decide) (fun q => absurd (by decide) q) (fun _ => ?_)
        refine lv_iconst (v := 1) hx hb dX8_ends_29 (by decide) ?_
        refine lv_iload_n hx hb dX8_ends_30 rfl (lv_at hl 0 rfl) ?_
        refine lv_ishl hx hb dX8_ends_31 ?_
        refine lv_goto (tgt := 36) hx hb dX8_ends_32 (by decide) ?_
        refine lv_ior hx hb dX8_ends_36 ?_
        refine lv_istore_n (lv' := [(1, .int (ui1 ||| (1 <<< ((nI i) &&& 31)))), (2, .int (nI i)), (0, .ref h)]) hx hb dX8_ends_37 rfl hl (by decide) rfl (fun ls hl => ?_)
        refine lv_iinc (v := nI (i + 1)) (lv' := [(2, .int (nI (i + 1))), (1, .int (ui1 ||| (1 <<< ((nI i) &&& 31)))), (0, .ref h)]) hx hb dX8_ends_38 hl (k := 1) rfl (z_inc i 1) (by decide) rfl (fun ls hl => ?_)
        refine lv_goto (tgt := 4) hx hb dX8_ends_41 (by decide) ?_
        exact ih_4 (i + 1) (ui1 ||| (1 <<< ((nI i) &&& 31))) (show (i + 1) ≤ cr.toInt.toNat from by omega) (show cr.toInt.toNat - (i + 1) < cr.toInt.toNat - i from by omega) _ _ ls G (lv_sub hl [0, 1, 2] rfl)
set_option maxHeartbeats 4000000 in
set_option maxRecDepth 100000 in
/-- c_loops -/
theorem c_loops (l : Launch) (T : zTy) (h : Nat) (cr : Int32) (inn : Int32) (f1 : Nat → Int32) (f2 : Nat → Int32) (f3 : Nat → Int32) (f4 : Nat → Int32) (w : va_W) (hw : bLand T h cr inn f1 f2 f3 f4 w) (hI : zLI cr f1 f3) : zMi l T yX8_loops cX8_loops 3 (some .int) 4 0 0 [.ref h] [w] (fun (r : Int32) bs => bs = [w]) := by
  refine zMi_of (own := RX8) (by decide) rfl (Nat.le_of_ble_eq_true rfl) ?_
  intro p e s m args below meth c A ls C hr hlocks hnm hAe G hl
  refine zHide (fun Q9 hQ9 => ?_)
  have hx := C.1
  have hb := C.2.1
  have hl : lv_has ls 3 [(0, .ref h)] := hl
  have hcr := hI.1
  refine lv_iconst (v := 0) hx hb dX8_loops_0 (by decide) ?_
  refine lv_istore_n (lv' := [(1, .int 0), (0, .ref h)]) hx hb dX8_loops_1 rfl hl (by decide) rfl (fun ls hl => ?_)
  refine lv_iconst (v := 0) hx hb dX8_loops_2 (by decide) ?_
  refine lv_istore_n (lv' := [(2, .int 0), (1, .int 0), (0, .ref h)]) hx hb dX8_loops_3 rfl hl (by decide) rfl (fun ls hl => ?_)
  refine zEx4 hw ?_
  intro a1_1 a2_2 a3_3 a4_4 hbs9
  clear hw
  subst hbs9
  have G : zS T A s.heap s [[zO4 h cr inn a1_1 a2_2 a3_3 a4_4], [zAr T 0 a1_1 7 f1], [zAr T 0 a2_2 28 f2], [zAr T 0 a3_3 7 f3], [zAr T 0 a4_4 7 f4]] _ _ := G.re rfl
  have hw_5 : bLand T h cr inn f1 f2 f3 f4 [zO4 h cr inn a1_1 a2_2 a3_3 a4_4, zAr T 0 a1_1 7 f1, zAr T 0 a2_2 28 f2, zAr T 0 a3_3 7 f3, zAr T 0 a4_4 7 f4] := ⟨a1_1, a2_2, a3_3, a4_4, rfl⟩
  have G : zS T A s.heap s [[zO4 h cr inn a1_1 a2_2 a3_3 a4_4, zAr T 0 a1_1 7 f1, zAr T 0 a2_2 28 f2, zAr T 0 a3_3 7 f3, zAr T 0 a4_4 7 f4]] _ _ := G.re rfl
  refine z_lp2 (T := T) 4 (fun (i : Nat) (ui1 : Int32) => [[zO4 h cr inn a1_1 a2_2 a3_3 a4_4, zAr T 0 a1_1 7 f1, zAr T 0 a2_2 28 f2, zAr T 0 a3_3 7 f3, zAr T 0 a4_4 7 f4]]) (fun (i : Nat) (ui1 : Int32) => [(2, .int (nI i)), (1, .int ui1), (0, .ref h)]) (fun (i : Nat) (ui1 : Int32) => i ≤ cr.toInt.toNat) (fun (i : Nat) (ui1 : Int32) => cr.toInt.toNat - i) ?_ 0 0 (show 0 ≤ cr.toInt.toNat from by omega) G (lv_sub hl [0, 1, 2] rfl)
  intro i ui1 hi ih_4 H locs ls G hl
  replace hi : i ≤ cr.toInt.toNat := hi
  replace G : zS T A s.heap s [[zO4 h cr inn a1_1 a2_2 a3_3 a4_4, zAr T 0 a1_1 7 f1, zAr T 0 a2_2 28 f2, zAr T 0 a3_3 7 f3, zAr T 0 a4_4 7 f4]] _ _ := G
  replace hl : lv_has ls 3 [(2, .int (nI i)), (1, .int ui1), (0, .ref h)] := hl
  refine lv_iload_n hx hb dX8_loops_4 rfl (lv_at hl 0 rfl) ?_
  refine lv_aload_n hx hb dX8_loops_5 rfl (lv_at hl 2 rfl) ?_
  have G : zS T A s.heap s [[zO4 h cr inn a1_1 a2_2 a3_3 a4_4], [zAr T 0 a1_1 7 f1], [zAr T 0 a2_2 28 f2], [zAr T 0 a3_3 7 f3], [zAr T 0 a4_4 7 f4]] _ _ := G.re rfl
  refine z_get C G clX4 0 rfl 0 (by decide) m_fl_RX8_9 rfl dX8_loops_6 ?_
  refine lv_icmp_ge (tgt := 27) hx hb dX8_loops_9 (by decide) (fun c_6 => ?_) (fun c_6 => ?_)
  · have c_6n : cr.toInt ≤ (i : Int) := by have q := (fa_le _ _).mp c_6; rw [nI_toInt (n := i) (by omega)] at q; exact q
    refine lv_iload_n hx hb dX8_loops_27 rfl (lv_at hl 1 rfl) ?_
    have hw_7 : bLand T h cr inn f1 f2 f3 f4 [zO4 h cr inn a1_1 a2_2 a3_3 a4_4, zAr T 0 a1_1 7 f1, zAr T 0 a2_2 28 f2, zAr T 0 a3_3 7 f3, zAr T 0 a4_4 7 f4] := ⟨a1_1, a2_2, a3_3, a4_4, rfl⟩
    have G : zS T A s.heap s [[zO4 h cr inn a1_1 a2_2 a3_3 a4_4, zAr T 0 a1_1 7 f1, zAr T 0 a2_2 28 f2, zAr T 0 a3_3 7 f3, zAr T 0 a4_4 7 f4]] _ _ := G.re rfl
    exact z_back hQ9 (z_iret C hr hlocks G (Nat.le_of_ble_eq_true rfl) (Nat.le_of_ble_eq_true rfl) dX8_loops_28 rfl)
  · have c_6n : ¬ cr.toInt ≤ (i : Int) := fun q => c_6 ((fa_le _ _).mpr (by rw [nI_toInt (n := i) (by omega)]; exact q))
    refine lv_iload_n hx hb dX8_loops_12 rfl (lv_at hl 1 rfl) ?_
    refine lv_aload_n hx hb dX8_loops_13 rfl (lv_at hl 2 rfl) ?_
    refine lv_iload_n hx hb dX8_loops_14 rfl (lv_at hl 0 rfl) ?_
    refine lv_iload_n hx hb dX8_loops_15 rfl (lv_at hl 0 rfl) ?_
    have hw_8 : bLand T h cr inn f1 f2 f3 f4 [zO4 h cr inn a1_1 a2_2 a3_3 a4_4, zAr T 0 a1_1 7 f1, zAr T 0 a2_2 28 f2, zAr T 0 a3_3 7 f3, zAr T 0 a4_4 7 f4] := ⟨a1_1, a2_2, a3_3, a4_4, rfl⟩
    have G : zS T A s.heap s [[zO4 h cr inn a1_1 a2_2 a3_3 a4_4, zAr T 0 a1_1 7 f1, zAr T 0 a2_2 28 f2, zAr T 0 a3_3 7 f3, zAr T 0 a4_4 7 f4]] _ _ := G.re rfl
    refine z_Si (bc := [[zO4 h cr inn a1_1 a2_2 a3_3 a4_4, zAr T 0 a1_1 7 f1, zAr T 0 a2_2 28 f2, zAr T 0 a3_3 7 f3, zAr T 0 a4_4 7 f4]]) (br := []) (As := [.ref h, .int (nI i), .int (nI i)]) (rest := [.int ui1]) C G (c_howManyLead l T h cr inn f1 f2 f3 f4 ([zO4 h cr inn a1_1 a2_2 a3_3 a4_4, zAr T 0 a1_1 7 f1, zAr T 0 a2_2 28 f2, zAr T 0 a3_3 7 f3, zAr T 0 a4_4 7 f4]) (nI i) (nI i) hw_8 (by first | with_reducible assumption | with_reducible rfl | omega | assumption | rfl)) (kS_RX8_52 C.2.2.2.2 (Nat.le_of_ble_eq_true rfl) (Nat.le_of_ble_eq_true rfl)) [0] [0] rfl rfl rfl rfl hl.1 dX8_loops_16 (Nat.le_of_ble_eq_true rfl) (Nat.le_of_ble_eq_true rfl) (fun r_9 b1 H locs hw G => ?_)
    obtain rfl := hw
    have G : zS T A s.heap s [[zO4 h cr inn a1_1 a2_2 a3_3 a4_4, zAr T 0 a1_1 7 f1, zAr T 0 a2_2 28 f2, zAr T 0 a3_3 7 f3, zAr T 0 a4_4 7 f4]] _ _ := G
    refine lv_iadd hx hb dX8_loops_19 ?_
    refine lv_istore_n (lv' := [(1, .int (ui1 + r_9)), (2, .int (nI i)), (0, .ref h)]) hx hb dX8_loops_20 rfl hl (by decide) rfl (fun ls hl => ?_)
    refine lv_iinc (v := nI (i + 1)) (lv' := [(2, .int (nI (i + 1))), (1, .int (ui1 + r_9)), (0, .ref h)]) hx hb dX8_loops_21 hl (k := 1) rfl (z_inc i 1) (by decide) rfl (fun ls hl => ?_)
    refine lv_goto (tgt := 4) hx hb dX8_loops_24 (by decide) ?_
    exact ih_4 (i + 1) (ui1 + r_9) (show (i + 1) ≤ cr.toInt.toNat from by omega) (show cr.toInt.toNat - (i + 1) < cr.toInt.toNat - i from by omega) _ _ ls G (lv_sub hl [0, 1, 2] rfl)
set_option maxHeartbeats 4000000 in
set_option maxRecDepth 100000 in
/-- c_doubles -/
theorem c_doubles (l : Launch) (T : zTy) (h : Nat) (cr : Int32) (inn : Int32) (f1 : Nat → Int32) (f2 : Nat → Int32) (f3 : Nat → Int32) (f4 : Nat → Int32) (w : va_W) (hw : bLand T h cr inn f1 f2 f3 f4 w) (hI : zLI cr f1 f3) : zMi l T yX8_doubles cX8_doubles 5 (some .int) 4 0 0 [.ref h] [w] (fun (r : Int32) bs => bs = [w]) := by
  refine zMi_of (own := RX8) (by decide) rfl (Nat.le_of_ble_eq_true rfl) ?_
  intro p e s m args below meth c A ls C hr hlocks hnm hAe G hl
  refine zHide (fun Q9 hQ9 => ?_)
  have hx := C.1
  have hb := C.2.1
  have hl : lv_has ls 5 [(0, .ref h)] := hl
  have hcr := hI.1
  refine lv_iconst (v := 0) hx hb dX8_doubles_0 (by decide) ?_
  refine lv_istore_n (lv' := [(1, .int 0), (0, .ref h)]) hx hb dX8_doubles_1 rfl hl (by decide) rfl (fun ls hl => ?_)
  refine lv_iconst (v := 0) hx hb dX8_doubles_2 (by decide) ?_
  refine lv_istore_n (lv' := [(2, .int 0), (1, .int 0), (0, .ref h)]) hx hb dX8_doubles_3 rfl hl (by decide) rfl (fun ls hl => ?_)
  refine zEx4 hw ?_
  intro a1_1 a2_2 a3_3 a4_4 hbs9
  clear hw
  subst hbs9
  have G : zS T A s.heap s [[zO4 h cr inn a1_1 a2_2 a3_3 a4_4], [zAr T 0 a1_1 7 f1], [zAr T 0 a2_2 28 f2], [zAr T 0 a3_3 7 f3], [zAr T 0 a4_4 7 f4]] _ _ := G.re rfl
  have hw_5 : bLand T h cr inn f1 f2 f3 f4 [zO4 h cr inn a1_1 a2_2 a3_3 a4_4, zAr T 0 a1_1 7 f1, zAr T 0 a2_2 28 f2, zAr T 0 a3_3 7 f3, zAr T 0 a4_4 7 f4] := ⟨a1_1, a2_2, a3_3, a4_4, rfl⟩
  have G : zS T A s.heap s [[zO4 h cr inn a1_1 a2_2 a3_3 a4_4, zAr T 0 a1_1 7 f1, zAr T 0 a2_2 28 f2, zAr T 0 a3_3 7 f3, zAr T 0 a4_4 7 f4]] _ _ := G.re rfl
  refine z_lp2 (T := T) 4 (fun (i : Nat) (ui1 : Int32) => [[zO4 h cr inn a1_1 a2_2 a3_3 a4_4, zAr T 0 a1_1 7 f1, zAr T 0 a2_2 28 f2, zAr T 0 a3_3 7 f3, zAr T 0 a4_4 7 f4]]) (fun (i : Nat) (ui1 : Int32) => [(2, .int (nI i)), (1, .int ui1), (0, .ref h)]) (fun (i : Nat) (ui1 : Int32) => i ≤ cr.toInt.toNat) (fun (i : Nat) (ui1 : Int32) => cr.toInt.toNat - i) ?_ 0 0 (show 0 ≤ cr.toInt.toNat from by omega) G (lv_sub hl [0, 1, 2] rfl)
  intro i ui1 hi ih_4 H locs ls G hl
  replace hi : i ≤ cr.toInt.toNat := hi
  replace G : zS T A s.heap s [[zO4 h cr inn a1_1 a2_2 a3_3 a4_4, zAr T 0 a1_1 7 f1, zAr T 0 a2_2 28 f2, zAr T 0 a3_3 7 f3, zAr T 0 a4_4 7 f4]] _ _ := G
  replace hl : lv_has ls 5 [(2, .int (nI i)), (1, .int ui1), (0, .ref h)] := hl
  refine lv_iload_n hx hb dX8_doubles_4 rfl (lv_at hl 0 rfl) ?_
  refine lv_aload_n hx hb dX8_doubles_5 rfl (lv_at hl 2 rfl) ?_
  have G : zS T A s.heap s [[zO4 h cr inn a1_1 a2_2 a3_3 a4_4], [zAr T 0 a1_1 7 f1], [zAr T 0 a2_2 28 f2], [zAr T 0 a3_3 7 f3], [zAr T 0 a4_4 7 f4]] _ _ := G.re rfl
  refine z_get C G clX4 0 rfl 0 (by decide) m_fl_RX8_9 rfl dX8_doubles_6 ?_
  refine lv_icmp_ge (tgt := 54) hx hb dX8_doubles_9 (by decide) (fun c_6 => ?_) (fun c_6 => ?_)
  · have c_6n : cr.toInt ≤ (i : Int) := by have q := (fa_le _ _).mp c_6; rw [nI_toInt (n := i) (by omega)] at q; exact q
    refine lv_iload_n hx hb dX8_doubles_54 rfl (lv_at hl 1 rfl) ?_
    have hw_7 : bLand T h cr inn f1 f2 f3 f4 [zO4 h cr inn a1_1 a2_2 a3_3 a4_4, zAr T 0 a1_1 7 f1, zAr T 0 a2_2 28 f2, zAr T 0 a3_3 7 f3, zAr T 0 a4_4 7 f4] := ⟨a1_1, a2_2, a3_3, a4_4, rfl⟩
    have G : zS T A s.heap s [[zO4 h cr inn a1_1 a2_2 a3_3 a4_4, zAr T 0 a1_1 7 f1, zAr T 0 a2_2 28 f2, zAr T 0 a3_3 7 f3, zAr T 0 a4_4 7 f4]] _ _ := G.re rfl
    exact z_back hQ9 (z_iret C hr hlocks G (Nat.le_of_ble_eq_true rfl) (Nat.le_of_ble_eq_true rfl) dX8_doubles_55 rfl)
  · have c_6n : ¬ cr.toInt ≤ (i : Int) := fun q => c_6 ((fa_le _ _).mpr (by rw [nI_toInt (n := i) (by omega)]; exact q))
    refine lv_iconst (v := 0) hx hb dX8_doubles_12 (by decide) ?_
    refine lv_istore_n (lv' := [(3, .int 0), (2, .int (nI i)), (1, .int ui1), (0, .ref h)]) hx hb dX8_doubles_13 rfl hl (by decide) rfl (fun ls hl => ?_)
    have hw_8 : bLand T h cr inn f1 f2 f3 f4 [zO4 h cr inn a1_1 a2_2 a3_3 a4_4, zAr T 0 a1_1 7 f1, zAr T 0 a2_2 28 f2, zAr T 0 a3_3 7 f3, zAr T 0 a4_4 7 f4] := ⟨a1_1, a2_2, a3_3, a4_4, rfl⟩
    have G : zS T A s.heap s [[zO4 h cr inn a1_1 a2_2 a3_3 a4_4, zAr T 0 a1_1 7 f1, zAr T 0 a2_2 28 f2, zAr T 0 a3_3 7 f3, zAr T 0 a4_4 7 f4]] _ _ := G.re rfl
    refine z_lp2 (T := T) 14 (fun (j : Nat) (uj1 : Int32) => [[zO4 h cr inn a1_1 a2_2 a3_3 a4_4, zAr T 0 a1_1 7 f1, zAr T 0 a2_2 28 f2, zAr T 0 a3_3 7 f3, zAr T 0 a4_4 7 f4]]) (fun (j : Nat) (uj1 : Int32) => [(3, .int (nI j)), (2, .int (nI i)), (1, .int uj1), (0, .ref h)]) (fun (j : Nat) (uj1 : Int32) => j ≤ cr.toInt.toNat) (fun (j : Nat) (uj1 : Int32) => cr.toInt.toNat - j) ?_ 0 ui1 (show 0 ≤ cr.toInt.toNat from by omega) G (lv_sub hl [0, 1, 2, 3] rfl)
    intro j uj1 hj ih_14 H locs ls G hl
    replace hj : j ≤ cr.toInt.toNat := hj
    replace G : zS T A s.heap s [[zO4 h cr inn a1_1 a2_2 a3_3 a4_4, zAr T 0 a1_1 7 f1, zAr T 0 a2_2 28 f2, zAr T 0 a3_3 7 f3, zAr T 0 a4_4 7 f4]] _ _ := G
    replace hl : lv_has ls 5 [(3, .int (nI j)), (2, .int (nI i)), (1, .int uj1), (0, .ref h)] := hl
    refine lv_iload_n hx hb dX8_doubles_14 rfl (lv_at hl 0 rfl) ?_
    refine lv_aload_n hx hb dX8_doubles_15 rfl (lv_at hl 3 rfl) ?_
    have G : zS T A s.heap s [[zO4 h cr inn a1_1 a2_2 a3_3 a4_4], [zAr T 0 a1_1 7 f1], [zAr T 0 a2_2 28 f2], [zAr T 0 a3_3 7 f3], [zAr T 0 a4_4 7 f4]] _ _ := G.re rfl
    refine z_get C G clX4 0 rfl 0 (by decide) m_fl_RX8_9 rfl dX8_doubles_16 ?_
    refine lv_icmp_ge (tgt := 48) hx hb dX8_doubles_19 (by decide) (fun c_9 => ?_) (fun c_9 => ?_)
    · have c_9n : cr.toInt ≤ (j : Int) := by have q := (fa_le _ _).mp c_9; rw [nI_toInt (n := j) (by omega)] at q; exact q
      refine lv_iinc (v := nI (i + 1)) (lv' := [(2, .int (nI (i + 1))), (3, .int (nI j)), (1, .int uj1), (0, .ref h)]) hx hb dX8_doubles_48 hl (k := 1) rfl (z_inc i 1) (by decide) rfl (fun ls hl => ?_)
      refine lv_goto (tgt := 4) hx hb dX8_doubles_51 (by decide) ?_
      have hw_10 : bLand T h cr inn f1 f2 f3 f4 [zO4 h cr inn a1_1 a2_2 a3_3 a4_4, zAr T 0 a1_1 7 f1, zAr T 0 a2_2 28 f2, zAr T 0 a3_3 7 f3, zAr T 0 a4_4 7 f4] := ⟨a1_1, a2_2, a3_3, a4_4, rfl⟩
      have G : zS T A s.heap s [[zO4 h cr inn a1_1 a2_2 a3_3 a4_4, zAr T 0 a1_1 7 f1, zAr T 0 a2_2 28 f2, zAr T 0 a3_3 7 f3, zAr T 0 a4_4 7 f4]] _ _ := G.re rfl
      exact ih_4 (i + 1) uj1 (show (i + 1) ≤ cr.toInt.toNat from by omega) (show cr.toInt.toNat - (i + 1) < cr.toInt.toNat - i from by omega) _ _ ls G (lv_sub hl [0, 2, 3] rfl)
    · have c_9n : ¬ cr.toInt ≤ (j : Int) := fun q => c_9 ((fa_le _ _).mpr (by rw [nI_toInt (n := j) (by omega)]; exact q))
      refine lv_aload_n hx hb dX8_doubles_22 rfl (lv_at hl 3 rfl) ?_
      refine lv_iload_n hx hb dX8_doubles_23 rfl (lv_at hl 1 rfl) ?_
      refine lv_iload_n hx hb dX8_doubles_24 rfl (lv_at hl 0 rfl) ?_
      have hw_11 : bLand T h cr inn f1 f2 f3 f4 [zO4 h cr inn a1_1 a2_2 a3_3 a4_4, zAr T 0 a1_1 7 f1, zAr T 0 a2_2 28 f2, zAr T 0 a3_3 7 f3, zAr T 0 a4_4 7 f4] := ⟨a1_1, a2_2, a3_3, a4_4, rfl⟩
      have G : zS T A s.heap s [[zO4 h cr inn a1_1 a2_2 a3_3 a4_4, zAr T 0 a1_1 7 f1, zAr T 0 a2_2 28 f2, zAr T 0 a3_3 7 f3, zAr T 0 a4_4 7 f4]] _ _ := G.re rfl
      refine z_Si (bc := [[zO4 h cr inn a1_1 a2_2 a3_3 a4_4, zAr T 0 a1_1 7 f1, zAr T 0 a2_2 28 f2, zAr T 0 a3_3 7 f3, zAr T 0 a4_4 7 f4]]) (br := []) (As := [.ref h, .int (nI i), .int (nI j)]) (rest := []) C G (c_howManyLead l T h cr inn f1 f2 f3 f4 ([zO4 h cr inn a1_1 a2_2 a3_3 a4_4, zAr T 0 a1_1 7 f1, zAr T 0 a2_2 28 f2, zAr T 0 a3_3 7 f3, zAr T 0 a4_4 7 f4]) (nI i) (nI j) hw_11 (by first | with_reducible assumption | with_reducible rfl | omega | assumption | rfl)) (kS_RX8_52 C.2.2.2.2 (Nat.le_of_ble_eq_true rfl) (Nat.le_of_ble_eq_true rfl)) [0] [0] rfl rfl rfl rfl hl.1 dX8_doubles_25 (Nat.le_of_ble_eq_true rfl) (Nat.le_of_ble_eq_true rfl) (fun r_12 b1 H locs hw G => ?_)
      obtain rfl := hw
      have G : zS T A s.heap s [[zO4 h cr inn a1_1 a2_2 a3_3 a4_4, zAr T 0 a1_1 7 f1, zAr T 0 a2_2 28 f2, zAr T 0 a3_3 7 f3, zAr T 0 a4_4 7 f4]] _ _ := G
      refine lv_istore (lv' := [(4, .int r_12), (3, .int (nI j)), (2, .int (nI i)), (1, .int uj1), (0, .ref h)]) hx hb dX8_doubles_28 hl (by decide) rfl (fun ls hl => ?_)
      refine lv_iload_n hx hb dX8_doubles_30 rfl (lv_at hl 3 rfl) ?_
      refine lv_iload hx hb dX8_doubles_31 (lv_at hl 0 rfl) ?_
      refine lv_iload hx hb dX8_doubles_33 (lv_at hl 0 rfl) ?_
      refine lv_iconst (v := 1) hx hb dX8_doubles_35 (by decide) ?_
      refine lv_isub hx hb dX8_doubles_36 ?_
      refine lv_imul hx hb dX8_doubles_37 ?_
      refine lv_iconst (v := 2) hx hb dX8_doubles_38 (by decide) ?_
      refine lv_idiv hx hb dX8_doubles_39 (by decide) ?_
      refine lv_iadd hx hb dX8_doubles_40 ?_
      refine lv_istore_n (lv' := [(1, .int (uj1 + ((r_12 * (r_12 - 1)) / 2))), (4, .int r_12), (3, .int (nI j)), (2, .int (nI i)), (0, .ref h)]) hx hb dX8_doubles_41 rfl hl (by decide) rfl (fun ls hl => ?_)
      refine lv_iinc (v := nI (j + 1)) (lv' := [(3, .int (nI (j + 1))), (1, .int (uj1 + ((r_12 * (r_12 - 1)) / 2))), (4, .int r_12), (2, .int (nI i)), (0, .ref h)]) hx hb dX8_doubles_42 hl (k := 2) rfl (z_inc j 1) (by decide) rfl (fun ls hl => ?_)
      refine lv_goto (tgt := 14) hx hb dX8_doubles_45 (by decide) ?_
      exact ih_14 (j + 1) (uj1 + ((r_12 * (r_12 - 1)) / 2)) (show (j + 1) ≤ cr.toInt.toNat from by omega) (show cr.toInt.toNat - (j + 1) < cr.toInt.toNat - j from by omega) _ _ ls G (lv_sub hl [0, 3, 1, 4] rfl)
set_option maxHeartbeats 4000000 in
set_option maxRecDepth 100000 in
/-- c_even -/
theorem c_even (l : Launch) (T : zTy) (h : Nat) (cr : Int32) (inn : Int32) (f1 : Nat → Int32) (f2 : Nat → Int32) (f3 : Nat → Int32) (f4 : Nat → Int32) (w : va_W) (hw : bLand T h cr inn f1 f2 f3 f4 w) (hI : zLI cr f1 f3) : zMi l T yX8_even cX8_even 3 (some .int) 5 0 0 [.ref h] [w] (fun (r : Int32) bs => bs = [w]) := by
  refine zMi_of (own := RX8) (by decide) rfl (Nat.le_of_ble_eq_true rfl) ?_
  intro p e s m args below meth c A ls C hr hlocks hnm hAe G hl
  refine zHide (fun Q9 hQ9 => ?_)
  have hx := C.1
  have hb := C.2.1
  have hl : lv_has ls 3 [(0, .ref h)] := hl
  have hcr := hI.1
  refine lv_iconst (v := 0) hx hb dX8_even_0 (by decide) ?_
  refine lv_istore_n (lv' := [(1, .int 0), (0, .ref h)]) hx hb dX8_even_1 rfl hl (by decide) rfl (fun ls hl => ?_)
  refine lv_iconst (v := 0) hx hb dX8_even_2 (by decide) ?_
  refine lv_istore_n (lv' := [(2, .int 0), (1, .int 0), (0, .ref h)]) hx hb dX8_even_3 rfl hl (by decide) rfl (fun ls hl => ?_)
  refine zEx4 hw ?_
  intro a1_1 a2_2 a3_3 a4_4 hbs9
  clear hw
  subst hbs9
  have G : zS T A s.heap s [[zO4 h cr inn a1_1 a2_2 a3_3 a4_4], [zAr T 0 a1_1 7 f1], [zAr T 0 a2_2 28 f2], [zAr T 0 a3_3 7 f3], [zAr T 0 a4_4 7 f4]] _ _ := G.re rfl
  have hw_5 : bLand T h cr inn f1 f2 f3 f4 [zO4 h cr inn a1_1 a2_2 a3_3 a4_4, zAr T 0 a1_1 7 f1, zAr T 0 a2_2 28 f2, zAr T 0 a3_3 7 f3, zAr T 0 a4_4 7 f4] := ⟨a1_1, a2_2, a3_3, a4_4, rfl⟩
  have G : zS T A s.heap s [[zO4 h cr inn a1_1 a2_2 a3_3 a4_4, zAr T 0 a1_1 7 f1, zAr T 0 a2_2 28 f2, zAr T 0 a3_3 7 f3, zAr T 0 a4_4 7 f4]] _ _ := G.re rfl
  refine z_lp2 (T := T) 4 (fun (i : Nat) (ui1 : Int32) => [[zO4 h cr inn a1_1 a2_2 a3_3 a4_4, zAr T 0 a1_1 7 f1, zAr T 0 a2_2 28 f2, zAr T 0 a3_3 7 f3, zAr T 0 a4_4 7 f4]]) (fun (i : Nat) (ui1 : Int32) => [(2, .int (nI i)), (1, .int ui1), (0, .ref h)]) (fun (i : Nat) (ui1 : Int32) => i ≤ cr.toInt.toNat) (fun (i : Nat) (ui1 : Int32) => cr.toInt.toNat - i) ?_ 0 0 (show 0 ≤ cr.toInt.toNat from by omega) G (lv_sub hl [0, 1, 2] rfl)
  intro i ui1 hi ih_4 H locs ls G hl
  replace hi : i ≤ cr.toInt.toNat := hi
  replace G : zS T A s.heap s [[zO4 h cr inn a1_1 a2_2 a3_3 a4_4, zAr T 0 a1_1 7 f1, zAr T 0 a2_2 28 f2, zAr T 0 a3_3 7 f3, zAr T 0 a4_4 7 f4]] _ _ := G
  replace hl : lv_has ls 3 [(2, .int (nI i)), (1, .int ui1), (0, .ref h)] := hl
  refine lv_iload_n hx hb dX8_even_4 rfl (lv_at hl 0 rfl) ?_
  refine lv_aload_n hx hb dX8_even_5 rfl (lv_at hl 2 rfl) ?_
  have G : zS T A s.heap s [[zO4 h cr inn a1_1 a2_2 a3_3 a4_4], [zAr T 0 a1_1 7 f1], [zAr T 0 a2_2 28 f2], [zAr T 0 a3_3 7 f3], [zAr T 0 a4_4 7 f4]] _ _ := G.re rfl
  refine z_get C G clX4 0 rfl 0 (by decide) m_fl_RX8_9 rfl dX8_even_6 ?_
  refine lv_icmp_ge (tgt := 41) hx hb dX8_even_9 (by decide) (fun c_6 => ?_) (fun c_6 => ?_)
  · have c_6n : cr.toInt ≤ (i : Int) := by have q := (fa_le _ _).mp c_6; rw [nI_toInt (n := i) (by omega)] at q; exact q
    refine lv_iload_n hx hb dX8_even_41 rfl (lv_at hl 1 rfl) ?_
    have hw_7 : bLand T h cr inn f1 f2 f3 f4 [zO4 h cr inn a1_1 a2_2 a3_3 a4_4, zAr T 0 a1_1 7 f1, zAr T 0 a2_2 28 f2, zAr T 0 a3_3 7 f3, zAr T 0 a4_4 7 f4] := ⟨a1_1, a2_2, a3_3, a4_4, rfl⟩
    have G : zS T A s.heap s [[zO4 h cr inn a1_1 a2_2 a3_3 a4_4, zAr T 0 a1_1 7 f1, zAr T 0 a2_2 28 f2, zAr T 0 a3_3 7 f3, zAr T 0 a4_4 7 f4]] _ _ := G.re rfl
    exact z_back hQ9 (z_iret C hr hlocks G (Nat.le_of_ble_eq_true rfl) (Nat.le_of_ble_eq_true rfl) dX8_even_42 rfl)
  · have c_6n : ¬ cr.toInt ≤ (i : Int) := fun q => c_6 ((fa_le _ _).mpr (by rw [nI_toInt (n := i) (by omega)]; exact q))
    refine lv_iload_n hx hb dX8_even_12 rfl (lv_at hl 1 rfl) ?_
    refine lv_aload_n hx hb dX8_even_13 rfl (lv_at hl 2 rfl) ?_
    refine lv_iload_n hx hb dX8_even_14 rfl (lv_at hl 0 rfl) ?_
    have hw_8 : bLand T h cr inn f1 f2 f3 f4 [zO4 h cr inn a1_1 a2_2 a3_3 a4_4, zAr T 0 a1_1 7 f1, zAr T 0 a2_2 28 f2, zAr T 0 a3_3 7 f3, zAr T 0 a4_4 7 f4] := ⟨a1_1, a2_2, a3_3, a4_4, rfl⟩
    have G : zS T A s.heap s [[zO4 h cr inn a1_1 a2_2 a3_3 a4_4, zAr T 0 a1_1 7 f1, zAr T 0 a2_2 28 f2, zAr T 0 a3_3 7 f3, zAr T 0 a4_4 7 f4]] _ _ := G.re rfl
    refine z_Si (bc := [[zO4 h cr inn a1_1 a2_2 a3_3 a4_4, zAr T 0 a1_1 7 f1, zAr T 0 a2_2 28 f2, zAr T 0 a3_3 7 f3, zAr T 0 a4_4 7 f4]]) (br := []) (As := [.ref h, .int (nI i)]) (rest := [.int ui1]) C G (c_howManyLeadTo l T h cr inn f1 f2 f3 f4 ([zO4 h cr inn a1_1 a2_2 a3_3 a4_4, zAr T 0 a1_1 7 f1, zAr T 0 a2_2 28 f2, zAr T 0 a3_3 7 f3, zAr T 0 a4_4 7 f4]) (nI i) hw_8 (by first | with_reducible assumption | with_reducible rfl | omega | assumption | rfl)) (kS_RX8_56 C.2.2.2.2 (Nat.le_of_ble_eq_true rfl) (Nat.le_of_ble_eq_true rfl)) [0] [0] rfl rfl rfl rfl hl.1 dX8_even_15 (Nat.le_of_ble_eq_true rfl) (Nat.le_of_ble_eq_true rfl) (fun r_9 b1 H locs hw G => ?_)
    obtain rfl := hw
    have G : zS T A s.heap s [[zO4 h cr inn a1_1 a2_2 a3_3 a4_4, zAr T 0 a1_1 7 f1, zAr T 0 a2_2 28 f2, zAr T 0 a3_3 7 f3, zAr T 0 a4_4 7 f4]] _ _ := G
    refine lv_aload_n hx hb dX8_even_18 rfl (lv_at hl 2 rfl) ?_
    refine lv_iload_n hx hb dX8_even_19 rfl (lv_at hl 0 rfl) ?_
    refine z_Vi (bc := [[zO4 h cr inn a1_1 a2_2 a3_3 a4_4, zAr T 0 a1_1 7 f1, zAr T 0 a2_2 28 f2, zAr T 0 a3_3 7 f3, zAr T 0 a4_4 7 f4]]) (br := []) (As := [.int (nI i)]) (rest := [.int r_9, .int ui1]) C G (c_waysOut l T h cr inn f1 f2 f3 f4 ([zO4 h cr inn a1_1 a2_2 a3_3 a4_4, zAr T 0 a1_1 7 f1, zAr T 0 a2_2 28 f2, zAr T 0 a3_3 7 f3, zAr T 0 a4_4 7 f4]) (nI i) hw_8) (kV_RX8_15 C.2.2.2.2 (Nat.le_of_ble_eq_true rfl) (Nat.le_of_ble_eq_true rfl)) [0] [0] rfl rfl (ci := 4) (qc := (RX4, TX4, 6)) rfl rfl (List.mem_flatten.mpr ⟨_, List.mem_of_getElem? (i := 0) rfl, (bLand_mem hw_8).choose_spec⟩) rfl rfl hl.1 dX8_even_20 (Nat.le_of_ble_eq_true rfl) (Nat.le_of_ble_eq_true rfl) (fun r_11 b1 H locs hw G => ?_)
    refine zAn2 hw ?_
    intro hbs9 h_10
    clear hw
    subst hbs9
    have G : zS T A s.heap s [[zO4 h cr inn a1_1 a2_2 a3_3 a4_4, zAr T 0 a1_1 7 f1, zAr T 0 a2_2 28 f2, zAr T 0 a3_3 7 f3, zAr T 0 a4_4 7 f4]] _ _ := G
    subst h_10
    refine lv_icmp_ne (tgt := 32) hx hb dX8_even_23 (by decide) (fun c_12 => ?_) (fun c_12 => ?_)
    · have c_12n : ¬ r_9.toInt = (zWays cr inn f1 (nI i)).toInt := fun q => c_12 ((fa_eq _ _).mpr q)
      refine lv_iconst (v := 0) hx hb dX8_even_32 (by decide) ?_
      refine lv_ior hx hb dX8_even_33 ?_
      refine lv_istore_n (lv' := [(1, .int (ui1 ||| 0)), (2, .int (nI i)), (0, .ref h)]) hx hb dX8_even_34 rfl hl (by decide) rfl (fun ls hl => ?_)
      refine lv_iinc (v := nI (i + 1)) (lv' := [(2, .int (nI (i + 1))), (1, .int (ui1 ||| 0)), (0, .ref h)]) hx hb dX8_even_35 hl (k := 1) rfl (z_inc i 1) (by decide) rfl (fun ls hl => ?_)
      refine lv_goto (tgt := 4) hx hb dX8_even_38 (by decide) ?_
      exact ih_4 (i + 1) (ui1 ||| 0) (show (i + 1) ≤ cr.toInt.toNat from by omega) (show cr.toInt.toNat - (i + 1) < cr.toInt.toNat - i from by omega) _ _ ls G (lv_sub hl [0, 1, 2] rfl)
    · have c_12n : r_9.toInt = (zWays cr inn f1 (nI i)).toInt := (fa_eq _ _).mp c_12
      refine lv_iconst (v := 1) hx hb dX8_even_26 (by decide) ?_
      refine lv_iload_n hx hb dX8_even_27 rfl (lv_at hl 0 rfl) ?_
      refine lv_ishl hx hb dX8_even_28 ?_
      refine lv_goto (tgt := 33) hx hb dX8_even_29 (by decide) ?_
      refine lv_ior hx hb dX8_even_33 ?_
      refine lv_istore_n (lv' := [(1, .int (ui1 ||| (1 <<< ((nI i) &&& 31)))), (2, .int (nI i)), (0, .ref h)]) hx hb dX8_even_34 rfl hl (by decide) rfl (fun ls hl => ?_)
      refine lv_iinc (v := nI (i + 1)) (lv' := [(2, .int (nI (i + 1))), (1, .int (ui1 ||| (1 <<< ((nI i) &&& 31)))), (0, .ref h)]) hx hb dX8_even_35 hl (k := 1) rfl (z_inc i 1) (by decide) rfl (fun ls hl => ?_)
      refine lv_goto (tgt := 4) hx hb dX8_even_38 (by decide) ?_
      exact ih_4 (i + 1) (ui1 ||| (1 <<< ((nI i) &&& 31))) (show (i + 1) ≤ cr.toInt.toNat from by omega) (show cr.toInt.toNat - (i + 1) < cr.toInt.toNat - i from by omega) _ _ ls G (lv_sub hl [0, 1, 2] rfl)
set_option maxHeartbeats 4000000 in
set_option maxRecDepth 100000 in
/-- c_busy -/
theorem c_busy (l : Launch) (T : zTy) (h : Nat) (cr : Int32) (inn : Int32) (f1 : Nat → Int32) (f2 : Nat → Int32) (f3 : Nat → Int32) (f4 : Nat → Int32) (w : va_W) (hw : bLand T h cr inn f1 f2 f3 f4 w) (hI : zLI cr f1 f3) : zMi l T yX8_busy cX8_busy 5 (some .int) 5 0 0 [.ref h] [w] (fun (r : Int32) bs => bs = [w]) := by
  refine zMi_of (own := RX8) (by decide) rfl (Nat.le_of_ble_eq_true rfl) ?_
  intro p e s m args below meth c A ls C hr hlocks hnm hAe G hl
  refine zHide (fun Q9 hQ9 => ?_)
  have hx := C.1
  have hb := C.2.1
  have hl : lv_has ls 5 [(0, .ref h)] := hl
  have hcr := hI.1
  refine lv_iconst (v := (-1)) hx hb dX8_busy_0 (by decide) ?_
  refine lv_istore_n (lv' := [(1, .int (-1)), (0, .ref h)]) hx hb dX8_busy_1 rfl hl (by decide) rfl (fun ls hl => ?_)
  refine lv_iconst (v := (-1)) hx hb dX8_busy_2 (by decide) ?_
  refine lv_istore_n (lv' := [(2, .int (-1)), (1, .int (-1)), (0, .ref h)]) hx hb dX8_busy_3 rfl hl (by decide) rfl (fun ls hl => ?_)
  refine lv_iconst (v := 0) hx hb dX8_busy_4 (by decide) ?_
  refine lv_istore_n (lv' := [(3, .int 0), (2, .int (-1)), (1, .int (-1)), (0, .ref h)]) hx hb dX8_busy_5 rfl hl (by decide) rfl (fun ls hl => ?_)
  refine zEx4 hw ?_
  intro a1_1 a2_2 a3_3 a4_4 hbs9
  clear hw
  subst hbs9
  have G : zS T A s.heap s [[zO4 h cr inn a1_1 a2_2 a3_3 a4_4], [zAr T 0 a1_1 7 f1], [zAr T 0 a2_2 28 f2], [zAr T 0 a3_3 7 f3], [zAr T 0 a4_4 7 f4]] _ _ := G.re rfl
  have hw_5 : bLand T h cr inn f1 f2 f3 f4 [zO4 h cr inn a1_1 a2_2 a3_3 a4_4, zAr T 0 a1_1 7 f1, zAr T 0 a2_2 28 f2, zAr T 0 a3_3 7 f3, zAr T 0 a4_4 7 f4] := ⟨a1_1, a2_2, a3_3, a4_4, rfl⟩
  have G : zS T A s.heap s [[zO4 h cr inn a1_1 a2_2 a3_3 a4_4, zAr T 0 a1_1 7 f1, zAr T 0 a2_2 28 f2, zAr T 0 a3_3 7 f3, zAr T 0 a4_4 7 f4]] _ _ := G.re rfl
  refine z_lp3 (T := T) 6 (fun (i : Nat) (ui1 : Int32) (ui2 : Int32) => [[zO4 h cr inn a1_1 a2_2 a3_3 a4_4, zAr T 0 a1_1 7 f1, zAr T 0 a2_2 28 f2, zAr T 0 a3_3 7 f3, zAr T 0 a4_4 7 f4]]) (fun (i : Nat) (ui1 : Int32) (ui2 : Int32) => [(3, .int (nI i)), (2, .int ui2), (1, .int ui1), (0, .ref h)]) (fun (i : Nat) (ui1 : Int32) (ui2 : Int32) => i ≤ cr.toInt.toNat) (fun (i : Nat) (ui1 : Int32) (ui2 : Int32) => cr.toInt.toNat - i) ?_ 0 (-1) (-1) (show 0 ≤ cr.toInt.toNat from by omega) G (lv_sub hl [0, 1, 2, 3] rfl)
  intro i ui1 ui2 hi ih_6 H locs ls G hl
  replace hi : i ≤ cr.toInt.toNat := hi
  replace G : zS T A s.heap s [[zO4 h cr inn a1_1 a2_2 a3_3 a4_4, zAr T 0 a1_1 7 f1, zAr T 0 a2_2 28 f2, zAr T 0 a3_3 7 f3, zAr T 0 a4_4 7 f4]] _ _ := G
  replace hl : lv_has ls 5 [(3, .int (nI i)), (2, .int ui2), (1, .int ui1), (0, .ref h)] := hl
  refine lv_iload_n hx hb dX8_busy_6 rfl (lv_at hl 0 rfl) ?_
  refine lv_aload_n hx hb dX8_busy_7 rfl (lv_at hl 3 rfl) ?_
  have G : zS T A s.heap s [[zO4 h cr inn a1_1 a2_2 a3_3 a4_4], [zAr T 0 a1_1 7 f1], [zAr T 0 a2_2 28 f2], [zAr T 0 a3_3 7 f3], [zAr T 0 a4_4 7 f4]] _ _ := G.re rfl
  refine z_get C G clX4 0 rfl 0 (by decide) m_fl_RX8_9 rfl dX8_busy_8 ?_
  refine lv_icmp_ge (tgt := 38) hx hb dX8_busy_11 (by decide) (fun c_6 => ?_) (fun c_6 => ?_)
  · have c_6n : cr.toInt ≤ (i : Int) := by have q := (fa_le _ _).mp c_6; rw [nI_toInt (n := i) (by omega)] at q; exact q
    refine lv_iload_n hx hb dX8_busy_38 rfl (lv_at hl 2 rfl) ?_
    have hw_7 : bLand T h cr inn f1 f2 f3 f4 [zO4 h cr inn a1_1 a2_2 a3_3 a4_4, zAr T 0 a1_1 7 f1, zAr T 0 a2_2 28 f2, zAr T 0 a3_3 7 f3, zAr T 0 a4_4 7 f4] := ⟨a1_1, a2_2, a3_3, a4_4, rfl⟩
    have G : zS T A s.heap s [[zO4 h cr inn a1_1 a2_2 a3_3 a4_4, zAr T 0 a1_1 7 f1, zAr T 0 a2_2 28 f2, zAr T 0 a3_3 7 f3, zAr T 0 a4_4 7 f4]] _ _ := G.re rfl
    exact z_back hQ9 (z_iret C hr hlocks G (Nat.le_of_ble_eq_true rfl) (Nat.le_of_ble_eq_true rfl) dX8_busy_39 rfl)
  · have c_6n : ¬ cr.toInt ≤ (i : Int) := fun q => c_6 ((fa_le _ _).mpr (by rw [nI_toInt (n := i) (by omega)]; exact q))
    refine lv_aload_n hx hb dX8_busy_14 rfl (lv_at hl 3 rfl) ?_
    refine lv_iload_n hx hb dX8_busy_15 rfl (lv_at hl 0 rfl) ?_
    have hw_8 : bLand T h cr inn f1 f2 f3 f4 [zO4 h cr inn a1_1 a2_2 a3_3 a4_4, zAr T 0 a1_1 7 f1, zAr T 0 a2_2 28 f2, zAr T 0 a3_3 7 f3, zAr T 0 a4_4 7 f4] := ⟨a1_1, a2_2, a3_3, a4_4, rfl⟩
    have G : zS T A s.heap s [[zO4 h cr inn a1_1 a2_2 a3_3 a4_4, zAr T 0 a1_1 7 f1, zAr T 0 a2_2 28 f2, zAr T 0 a3_3 7 f3, zAr T 0 a4_4 7 f4]] _ _ := G.re rfl
    refine z_Si (bc := [[zO4 h cr inn a1_1 a2_2 a3_3 a4_4, zAr T 0 a1_1 7 f1, zAr T 0 a2_2 28 f2, zAr T 0 a3_3 7 f3, zAr T 0 a4_4 7 f4]]) (br := []) (As := [.ref h, .int (nI i)]) (rest := []) C G (c_howManyLeadTo l T h cr inn f1 f2 f3 f4 ([zO4 h cr inn a1_1 a2_2 a3_3 a4_4, zAr T 0 a1_1 7 f1, zAr T 0 a2_2 28 f2, zAr T 0 a3_3 7 f3, zAr T 0 a4_4 7 f4]) (nI i) hw_8 (by first | with_reducible assumption | with_reducible rfl | omega | assumption | rfl)) (kS_RX8_56 C.2.2.2.2 (Nat.le_of_ble_eq_true rfl) (Nat.le_of_ble_eq_true rfl)) [0] [0] rfl rfl rfl rfl hl.1 dX8_busy_16 (Nat.le_of_ble_eq_true rfl) (Nat.le_of_ble_eq_true rfl) (fun r_9 b1 H locs hw G => ?_)
    obtain rfl := hw
    have G : zS T A s.heap s [[zO4 h cr inn a1_1 a2_2 a3_3 a4_4, zAr T 0 a1_1 7 f1, zAr T 0 a2_2 28 f2, zAr T 0 a3_3 7 f3, zAr T 0 a4_4 7 f4]] _ _ := G
    refine lv_istore (lv' := [(4, .int r_9), (3, .int (nI i)), (2, .int ui2), (1, .int ui1), (0, .ref h)]) hx hb dX8_busy_19 hl (by decide) rfl (fun ls hl => ?_)
    refine lv_iload hx hb dX8_busy_21 (lv_at hl 0 rfl) ?_
    refine lv_iload_n hx hb dX8_busy_23 rfl (lv_at hl 2 rfl) ?_
    refine lv_icmp_le (tgt := 32) hx hb dX8_busy_24 (by decide) (fun c_10 => ?_) (fun c_10 => ?_)
    · have c_10n : r_9.toInt ≤ ui2.toInt := (fa_le _ _).mp c_10
      refine lv_iinc (v := nI (i + 1)) (lv' := [(3, .int (nI (i + 1))), (4, .int r_9), (2, .int ui2), (1, .int ui1), (0, .ref h)]) hx hb dX8_busy_32 hl (k := 1) rfl (z_inc i 1) (by decide) rfl (fun ls hl => ?_)
      refine lv_goto (tgt := 6) hx hb dX8_busy_35 (by decide) ?_
      exact ih_6 (i + 1) ui1 ui2 (show (i + 1) ≤ cr.toInt.toNat from by omega) (show cr.toInt.toNat - (i + 1) < cr.toInt.toNat - i from by omega) _ _ ls G (lv_sub hl [0, 2, 3, 4] rfl)
    · have c_10n : ¬ r_9.toInt ≤ ui2.toInt := fun q => c_10 ((fa_le _ _).mpr q)
      refine lv_iload hx hb dX8_busy_27 (lv_at hl 0 rfl) ?_
      refine lv_istore_n (lv' := [(2, .int r_9), (4, .int r_9), (3, .int (nI i)), (1, .int ui1), (0, .ref h)]) hx hb dX8_busy_29 rfl hl (by decide) rfl (fun ls hl => ?_)
      refine lv_iload_n hx hb dX8_busy_30 rfl (lv_at hl 2 rfl) ?_
      refine lv_istore_n (lv' := [(1, .int (nI i)), (2, .int r_9), (4, .int r_9), (3, .int (nI i)), (0, .ref h)]) hx hb dX8_busy_31 rfl hl (by decide) rfl (fun ls hl => ?_)
      refine lv_iinc (v := nI (i + 1)) (lv' := [(3, .int (nI (i + 1))), (1, .int (nI i)), (2, .int r_9), (4, .int r_9), (0, .ref h)]) hx hb dX8_busy_32 hl (k := 3) rfl (z_inc i 1) (by decide) rfl (fun ls hl => ?_)
      refine lv_goto (tgt := 6) hx hb dX8_busy_35 (by decide) ?_
      exact ih_6 (i + 1) (nI i) r_9 (show (i + 1) ≤ cr.toInt.toNat from by omega) (show cr.toInt.toNat - (i + 1) < cr.toInt.toNat - i from by omega) _ _ ls G (lv_sub hl [0, 2, 1, 4] rfl)
set_option maxHeartbeats 4000000 in
set_option maxRecDepth 100000 in
/-- bitCount -/
theorem c_bitCount (l : Launch) (T : zTy) (x : Int32) : zMi l T yJ6_bitCount_0f7a4 cJ6_bitCount_0f7a4 1 (some .int) 1 0 0 [.int x] [] (fun (r : Int32) bs => bs = []) := by
  refine zMi_of (own := RJ6) (by decide) rfl (Nat.le_of_ble_eq_true rfl) ?_
  intro p e s m args below meth c A ls C hr hlocks hnm hAe G hl
  refine zHide (fun Q9 hQ9 => ?_)
  have hx := C.1
  have hb := C.2.1
  have hl : lv_has ls 1 [(0, .int x)] := hl
  refine lv_iload_n hx hb dJ6_bitCount_0f7a4_0 rfl (lv_at hl 0 rfl) ?_
  refine lv_iload_n hx hb dJ6_bitCount_0f7a4_1 rfl (lv_at hl 0 rfl) ?_
  refine lv_iconst (v := 1) hx hb dJ6_bitCount_0f7a4_2 (by decide) ?_
  refine lv_iushr hx hb dJ6_bitCount_0f7a4_3 rfl ?_
  refine lv_ldcw (v := 1431655765) hx hb C.2.2.2.1 (C.2.2.2.2 _ m_ko_RJ6_265) dJ6_bitCount_0f7a4_4 ?_
  refine lv_iand hx hb dJ6_bitCount_0f7a4_7 ?_
  refine lv_isub hx hb dJ6_bitCount_0f7a4_8 ?_
  refine lv_istore_n (lv' := [(0, .int (x - (((x.toUInt32 >>> ((1 : Int32).toUInt32 &&& Int32.toUInt32 31)).toInt32) &&& 1431655765)))]) hx hb dJ6_bitCount_0f7a4_9 rfl hl (by decide) rfl (fun ls hl => ?_)
  refine lv_iload_n hx hb dJ6_bitCount_0f7a4_10 rfl (lv_at hl 0 rfl) ?_
  refine lv_ldcw (v := 858993459) hx hb C.2.2.2.1 (C.2.2.2.2 _ m_ko_RJ6_266) dJ6_bitCount_0f7a4_11 ?_
  refine lv_iand hx hb dJ6_bitCount_0f7a4_14 ?_
  refine lv_iload_n hx hb dJ6_bitCount_0f7a4_15 rfl (lv_at hl 0 rfl) ?_
  refine lv_iconst (v := 2) hx hb dJ6_bitCount_0f7a4_16 (by decide) ?_
  refine lv_iushr hx hb dJ6_bitCount_0f7a4_17 rfl ?_
  refine lv_ldcw (v := 858993459) hx hb C.2.2.2.1 (C.2.2.2.2 _ m_ko_RJ6_266) dJ6_bitCount_0f7a4_18 ?_
  refine lv_iand hx hb dJ6_bitCount_0f7a4_21 ?_
  refine lv_iadd hx hb dJ6_bitCount_0f7a4_22 ?_
  refine lv_istore_n (lv' := [(0, .int (((x - (((x.toUInt32 >>> ((1 : Int32).toUInt32 &&& Int32.toUInt32 31)).toInt32) &&& 1431655765)) &&& 858993459) + ((((x - (((x.toUInt32 >>> ((1 : Int32).toUInt32 &&& Int32.toUInt32 31)).toInt32) &&& 1431655765)).toUInt32 >>> ((2 : Int32).toUInt32 &&& Int32.toUInt32 31)).toInt32) &&& 858993459)))]) hx hb dJ6_bitCount_0f7a4_23 rfl hl (by decide) rfl (fun ls hl => ?_)
  refine lv_iload_n hx hb dJ6_bitCount_0f7a4_24 rfl (lv_at hl 0 rfl) ?_
  refine lv_iload_n hx hb dJ6_bitCount_0f7a4_25 rfl (lv_at hl 0 rfl) ?_
  refine lv_iconst (v := 4) hx hb dJ6_bitCount_0f7a4_26 (by decide) ?_
  refine lv_iushr hx hb dJ6_bitCount_0f7a4_27 rfl ?_
  refine lv_iadd hx hb dJ6_bitCount_0f7a4_28 ?_
  refine lv_ldcw (v := 252645135) hx hb C.2.2.2.1 (C.2.2.2.2 _ m_ko_RJ6_267) dJ6_bitCount_0f7a4_29 ?_
  refine lv_iand hx hb dJ6_bitCount_0f7a4_32 ?_
  refine lv_istore_n (lv' := [(0, .int (((((x - (((x.toUInt32 >>> ((1 : Int32).toUInt32 &&& Int32.toUInt32 31)).toInt32) &&& 1431655765)) &&& 858993459) + ((((x - (((x.toUInt32 >>> ((1 : Int32).toUInt32 &&& Int32.toUInt32 31)).toInt32) &&& 1431655765)).toUInt32 >>> ((2 : Int32).toUInt32 &&& Int32.toUInt32 31)).toInt32) &&& 858993459)) + (((((x - (((x.toUInt32 >>> ((1 : Int32).toUInt32 &&& Int32.toUInt32 31)).toInt32) &&& 1431655765)) &&& 858993459) + ((((x - (((x.toUInt32 >>> ((1 : Int32).toUInt32 &&& Int32.toUInt32 31)).toInt32) &&& 1431655765)).toUInt32 >>> ((2 : Int32).toUInt32 &&& Int32.toUInt32 31)).toInt32) &&& 858993459)).toUInt32 >>> ((4 : Int32).toUInt32 &&& Int32.toUInt32 31)).toInt32)) &&& 252645135))]) hx hb dJ6_bitCount_0f7a4_33 rfl hl (by decide) rfl (fun ls hl => ?_)
  refine lv_iload_n hx hb dJ6_bitCount_0f7a4_34 rfl (lv_at hl 0 rfl) ?_
  refine lv_iload_n hx hb dJ6_bitCount_0f7a4_35 rfl (lv_at hl 0 rfl) ?_
  refine lv_bipush (v := 8) hx hb dJ6_bitCount_0f7a4_36 (by decide) ?_
  refine lv_iushr hx hb dJ6_bitCount_0f7a4_38 rfl ?_
  refine lv_iadd hx hb dJ6_bitCount_0f7a4_39 ?_
  refine lv_istore_n (lv' := [(0, .int ((((((x - (((x.toUInt32 >>> ((1 : Int32).toUInt32 &&& Int32.toUInt32 31)).toInt32) &&& 1431655765)) &&& 858993459) + ((((x - (((x.toUInt32 >>> ((1 : Int32).toUInt32 &&& Int32.toUInt32 31)).toInt32) &&& 1431655765)).toUInt32 >>> ((2 : Int32).toUInt32 &&& Int32.toUInt32 31)).toInt32) &&& 858993459)) + (((((x - (((x.toUInt32 >>> ((1 : Int32).toUInt32 &&& Int32.toUInt32 31)).toInt32) &&& 1431655765)) &&& 858993459) + ((((x - (((x.toUInt32 >>> ((1 : Int32).toUInt32 &&& Int32.toUInt32 31)).toInt32) &&& 1431655765)).toUInt32 >>> ((2 : Int32).toUInt32 &&& Int32.toUInt32 31)).toInt32) &&& 858993459)).toUInt32 >>> ((4 : Int32).toUInt32 &&& Int32.toUInt32 31)).toInt32)) &&& 252645135) + (((((((x - (((x.toUInt32 >>> ((1 : Int32).toUInt32 &&& Int32.toUInt32 31)).toInt32) &&& 1431655765)) &&& 858993459) + ((((x - (((x.toUInt32 >>> ((1 : Int32).toUInt32 &&& Int32.toUInt32 31)).toInt32) &&& 1431655765)).toUInt32 >>> ((2 : Int32).toUInt32 &&& Int32.toUInt32 31)).toInt32) &&& 858993459)) + (((((x - (((x.toUInt32 >>> ((1 : Int32).toUInt32 &&& Int32.toUInt32 31)).toInt32) &&& 1431655765)) &&& 858993459) + ((((x - (((x.toUInt32 >>> ((1 : Int32).toUInt32 &&& Int32.toUInt32 31)).toInt32) &&& 1431655765)).toUInt32 >>> ((2 : Int32).toUInt32 &&& Int32.toUInt32 31)).toInt32) &&& 858993459)).toUInt32 >>> ((4 : Int32).toUInt32 &&& Int32.toUInt32 31)).toInt32)) &&& 252645135).toUInt32 >>> ((8 : Int32).toUInt32 &&& Int32.toUInt32 31)).toInt32)))]) hx hb dJ6_bitCount_0f7a4_40 rfl hl (by decide) rfl (fun ls hl => ?_)
  refine lv_iload_n hx hb dJ6_bitCount_0f7a4_41 rfl (lv_at hl 0 rfl) ?_
  refine lv_iload_n hx hb dJ6_bitCount_0f7a4_42 rfl (lv_at hl 0 rfl) ?_
  refine lv_bipush (v := 16) hx hb dJ6_bitCount_0f7a4_43 (by decide) ?_
  refine lv_iushr hx hb dJ6_bitCount_0f7a4_45 rfl ?_
  refine lv_iadd hx hb dJ6_bitCount_0f7a4_46 ?_
  refine lv_istore_n (lv' := [(0, .int (((((((x - (((x.toUInt32 >>> ((1 : Int32).toUInt32 &&& Int32.toUInt32 31)).toInt32) &&& 1431655765)) &&& 858993459) + ((((x - (((x.toUInt32 >>> ((1 : Int32).toUInt32 &&& Int32.toUInt32 31)).toInt32) &&& 1431655765)).toUInt32 >>> ((2 : Int32).toUInt32 &&& Int32.toUInt32 31)).toInt32) &&& 858993459)) + (((((x - (((x.toUInt32 >>> ((1 : Int32).toUInt32 &&& Int32.toUInt32 31)).toInt32) &&& 1431655765)) &&& 858993459) + ((((x - (((x.toUInt32 >>> ((1 : Int32).toUInt32 &&& Int32.toUInt32 31)).toInt32) &&& 1431655765)).toUInt32 >>> ((2 : Int32).toUInt32 &&& Int32.toUInt32 31)).toInt32) &&& 858993459)).toUInt32 >>> ((4 : Int32).toUInt32 &&& Int32.toUInt32 31)).toInt32)) &&& 252645135) + (((((((x - (((x.toUInt32 >>> ((1 : Int32).toUInt32 &&& Int32.toUInt32 31)).toInt32) &&& 1431655765)) &&& 858993459) + ((((x - (((x.toUInt32 >>> ((1 : Int32).toUInt32 &&& Int32.toUInt32 31)).toInt32) &&& 1431655765)).toUInt32 >>> ((2 : Int32).toUInt32 &&& Int32.toUInt32 31)).toInt32) &&& 858993459)) + (((((x - (((x.toUInt32 >>> ((1 : Int32).toUInt32 &&& Int32.toUInt32 31)).toInt32) &&& 1431655765)) &&& 858993459) + ((((x - (((x.toUInt32 >>> ((1 : Int32).toUInt32 &&& Int32.toUInt32 31)).toInt32) &&& 1431655765)).toUInt32 >>> ((2 : Int32).toUInt32 &&& Int32.toUInt32 31)).toInt32) &&& 858993459)).toUInt32 >>> ((4 : Int32).toUInt32 &&& Int32.toUInt32 31)).toInt32)) &&& 252645135).toUInt32 >>> ((8 : Int32).toUInt32 &&& Int32.toUInt32 31)).toInt32)) + ((((((((x - (((x.toUInt32 >>> ((1 : Int32).toUInt32 &&& Int32.toUInt32 31)).toInt32) &&& 1431655765)) &&& 858993459) + ((((x - (((x.toUInt32 >>> ((1 : Int32).toUInt32 &&& Int32.toUInt32 31)).toInt32) &&& 1431655765)).toUInt32 >>> ((2 : Int32).toUInt32 &&& Int32.toUInt32 31)).toInt32) &&& 858993459)) + (((((x - (((x.toUInt32 >>> ((1 : Int32).toUInt32 &&& Int32.toUInt32 31)).toInt32) &&& 1431655765)) &&& 858993459) + ((((x - (((x.toUInt32 >>> ((1 : Int32).toUInt32 &&& Int32.toUInt32 31)).toInt32) &&& 1431655765)).toUInt32 >>> ((2 : Int32).toUInt32 &&& Int32.toUInt32 31)).toInt32) &&& 858993459)).toUInt32 >>> ((4 : Int32).toUInt32 &&& Int32.toUInt32 31)).toInt32)) &&& 252645135) + (((((((x - (((x.toUInt32 >>> ((1 : Int32).toUInt32 &&& Int32.toUInt32 31)).toInt32) &&& 1431655765)) &&& 858993459) + ((((x - (((x.toUInt32 >>> ((1 : Int32).toUInt32 &&& Int32.toUInt32 31)).toInt32) &&& 1431655765)).toUInt32 >>> ((2 : Int32).toUInt32 &&& Int32.toUInt32 31)).toInt32) &&& 858993459)) + (((((x - (((x.toUInt32 >>> ((1 : Int32).toUInt32 &&& Int32.toUInt32 31)).toInt32) &&& 1431655765)) &&& 858993459) + ((((x - (((x.toUInt32 >>> ((1 : Int32).toUInt32 &&& Int32.toUInt32 31)).toInt32) &&& 1431655765)).toUInt32 >>> ((2 : Int32).toUInt32 &&& Int32.toUInt32 31)).toInt32) &&& 858993459)).toUInt32 >>> ((4 : Int32).toUInt32 &&& Int32.toUInt32 31)).toInt32)) &&& 252645135).toUInt32 >>> ((8 : Int32).toUInt32 &&& Int32.toUInt32 31)).toInt32)).toUInt32 >>> ((16 : Int32).toUInt32 &&& Int32.toUInt32 31)).toInt32)))]) hx hb dJ6_bitCount_0f7a4_47 rfl hl (by decide) rfl (fun ls hl => ?_)
  refine lv_iload_n hx hb dJ6_bitCount_0f7a4_48 rfl (lv_at hl 0 rfl) ?_
  refine lv_bipush (v := 63) hx hb dJ6_bitCount_0f7a4_49 (by decide) ?_
  refine lv_iand hx hb dJ6_bitCount_0f7a4_51 ?_
  exact z_back hQ9 (z_iret C hr hlocks G (Nat.le_of_ble_eq_true rfl) (Nat.le_of_ble_eq_true rfl) dJ6_bitCount_0f7a4_52 rfl)
set_option maxHeartbeats 4000000 in
set_option maxRecDepth 100000 in
/-- c_parts -/
theorem c_parts (l : Launch) (T : zTy) (h : Nat) (cr : Int32) (inn : Int32) (f1 : Nat → Int32) (f2 : Nat → Int32) (f3 : Nat → Int32) (f4 : Nat → Int32) (w : va_W) (x : Int32) (hw : bLand T h cr inn f1 f2 f3 f4 w) (hI : zLI cr f1 f3) : zMi l T yX8_parts cX8_parts 6 (some .int) 6 0 0 [.ref h, .int x] [w] (fun (r : Int32) bs => bs = [w]) := by
  refine zMi_of (own := RX8) (by decide) rfl (Nat.le_of_ble_eq_true rfl) ?_
  intro p e s m args below meth c A ls C hr hlocks hnm hAe G hl
  refine zHide (fun Q9 hQ9 => ?_)
  have hx := C.1
  have hb := C.2.1
  have hl : lv_has ls 6 [(0, .ref h), (1, .int x)] := hl
  have hcr := hI.1
  refine lv_iconst (v := 0) hx hb dX8_parts_0 (by decide) ?_
  refine lv_istore_n (lv' := [(2, .int 0), (0, .ref h), (1, .int x)]) hx hb dX8_parts_1 rfl hl (by decide) rfl (fun ls hl => ?_)
  refine lv_iconst (v := 0) hx hb dX8_parts_2 (by decide) ?_
  refine lv_istore_n (lv' := [(3, .int 0), (2, .int 0), (0, .ref h), (1, .int x)]) hx hb dX8_parts_3 rfl hl (by decide) rfl (fun ls hl => ?_)
  refine lv_iconst (v := 0) hx hb dX8_parts_4 (by decide) ?_
  refine lv_istore (lv' := [(4, .int 0), (3, .int 0), (2, .int 0), (0, .ref h), (1, .int x)]) hx hb dX8_parts_5 hl (by decide) rfl (fun ls hl => ?_)
  refine zEx4 hw ?_
  intro a1_1 a2_2 a3_3 a4_4 hbs9
  clear hw
  subst hbs9
  have G : zS T A s.heap s [[zO4 h cr inn a1_1 a2_2 a3_3 a4_4], [zAr T 0 a1_1 7 f1], [zAr T 0 a2_2 28 f2], [zAr T 0 a3_3 7 f3], [zAr T 0 a4_4 7 f4]] _ _ := G.re rfl
  have hw_5 : bLand T h cr inn f1 f2 f3 f4 [zO4 h cr inn a1_1 a2_2 a3_3 a4_4, zAr T 0 a1_1 7 f1, zAr T 0 a2_2 28 f2, zAr T 0 a3_3 7 f3, zAr T 0 a4_4 7 f4] := ⟨a1_1, a2_2, a3_3, a4_4, rfl⟩
  have G : zS T A s.heap s [[zO4 h cr inn a1_1 a2_2 a3_3 a4_4, zAr T 0 a1_1 7 f1, zAr T 0 a2_2 28 f2, zAr T 0 a3_3 7 f3, zAr T 0 a4_4 7 f4]] _ _ := G.re rfl
  refine z_lp3 (T := T) 7 (fun (i : Nat) (ui2 : Int32) (ui3 : Int32) => [[zO4 h cr inn a1_1 a2_2 a3_3 a4_4, zAr T 0 a1_1 7 f1, zAr T 0 a2_2 28 f2, zAr T 0 a3_3 7 f3, zAr T 0 a4_4 7 f4]]) (fun (i : Nat) (ui2 : Int32) (ui3 : Int32) => [(4, .int (nI i)), (3, .int ui3), (2, .int ui2), (0, .ref h), (1, .int x)]) (fun (i : Nat) (ui2 : Int32) (ui3 : Int32) => i ≤ cr.toInt.toNat) (fun (i : Nat) (ui2 : Int32) (ui3 : Int32) => cr.toInt.toNat - i) ?_ 0 0 0 (show 0 ≤ cr.toInt.toNat from by omega) G (lv_sub hl [0, 1, 2, 3, 4] rfl)
  intro i ui2 ui3 hi ih_7 H locs ls G hl
  replace hi : i ≤ cr.toInt.toNat := hi
  replace G : zS T A s.heap s [[zO4 h cr inn a1_1 a2_2 a3_3 a4_4, zAr T 0 a1_1 7 f1, zAr T 0 a2_2 28 f2, zAr T 0 a3_3 7 f3, zAr T 0 a4_4 7 f4]] _ _ := G
  replace hl : lv_has ls 6 [(4, .int (nI i)), (3, .int ui3), (2, .int ui2), (0, .ref h), (1, .int x)] := hl
  refine lv_iload hx hb dX8_parts_7 (lv_at hl 0 rfl) ?_
  refine lv_aload_n hx hb dX8_parts_9 rfl (lv_at hl 3 rfl) ?_
  have G : zS T A s.heap s [[zO4 h cr inn a1_1 a2_2 a3_3 a4_4], [zAr T 0 a1_1 7 f1], [zAr T 0 a2_2 28 f2], [zAr T 0 a3_3 7 f3], [zAr T 0 a4_4 7 f4]] _ _ := G.re rfl
  refine z_get C G clX4 0 rfl 0 (by decide) m_fl_RX8_9 rfl dX8_parts_10 ?_
  refine lv_icmp_ge (tgt := 55) hx hb dX8_parts_13 (by decide) (fun c_6 => ?_) (fun c_6 => ?_)
  · have c_6n : cr.toInt ≤ (i : Int) := by have q := (fa_le _ _).mp c_6; rw [nI_toInt (n := i) (by omega)] at q; exact q
    refine lv_iload_n hx hb dX8_parts_55 rfl (lv_at hl 4 rfl) ?_
    refine lv_if_eq (tgt := 63) hx hb dX8_parts_56 (by decide) (fun c_7 => ?_) (fun c_7 => ?_)
    · have c_7n : x.toInt = (0 : Int) := (fa_eq _ _).mp c_7
      refine lv_iload_n hx hb dX8_parts_63 rfl (lv_at hl 2 rfl) ?_
      have hw_8 : bLand T h cr inn f1 f2 f3 f4 [zO4 h cr inn a1_1 a2_2 a3_3 a4_4, zAr T 0 a1_1 7 f1, zAr T 0 a2_2 28 f2, zAr T 0 a3_3 7 f3, zAr T 0 a4_4 7 f4] := ⟨a1_1, a2_2, a3_3, a4_4, rfl⟩
      have G : zS T A s.heap s [[zO4 h cr inn a1_1 a2_2 a3_3 a4_4, zAr T 0 a1_1 7 f1, zAr T 0 a2_2 28 f2, zAr T 0 a3_3 7 f3, zAr T 0 a4_4 7 f4]] _ _ := G.re rfl
      exact z_back hQ9 (z_iret C hr hlocks G (Nat.le_of_ble_eq_true rfl) (Nat.le_of_ble_eq_true rfl) dX8_parts_64 rfl)
    · have c_7n : ¬ x.toInt = (0 : Int) := fun q => c_7 ((fa_eq _ _).mpr q)
      refine lv_iload_n hx hb dX8_parts_59 rfl (lv_at hl 1 rfl) ?_
      refine lv_goto (tgt := 64) hx hb dX8_parts_60 (by decide) ?_
      have hw_9 : bLand T h cr inn f1 f2 f3 f4 [zO4 h cr inn a1_1 a2_2 a3_3 a4_4, zAr T 0 a1_1 7 f1, zAr T 0 a2_2 28 f2, zAr T 0 a3_3 7 f3, zAr T 0 a4_4 7 f4] := ⟨a1_1, a2_2, a3_3, a4_4, rfl⟩
      have G : zS T A s.heap s [[zO4 h cr inn a1_1 a2_2 a3_3 a4_4, zAr T 0 a1_1 7 f1, zAr T 0 a2_2 28 f2, zAr T 0 a3_3 7 f3, zAr T 0 a4_4 7 f4]] _ _ := G.re rfl
      exact z_back hQ9 (z_iret C hr hlocks G (Nat.le_of_ble_eq_true rfl) (Nat.le_of_ble_eq_true rfl) dX8_parts_64 rfl)
  · have c_6n : ¬ cr.toInt ≤ (i : Int) := fun q => c_6 ((fa_le _ _).mpr (by rw [nI_toInt (n := i) (by omega)]; exact q))
    refine lv_aload_n hx hb dX8_parts_16 rfl (lv_at hl 3 rfl) ?_
    refine lv_iload hx hb dX8_parts_17 (lv_at hl 0 rfl) ?_
    have hw_10 : bLand T h cr inn f1 f2 f3 f4 [zO4 h cr inn a1_1 a2_2 a3_3 a4_4, zAr T 0 a1_1 7 f1, zAr T 0 a2_2 28 f2, zAr T 0 a3_3 7 f3, zAr T 0 a4_4 7 f4] := ⟨a1_1, a2_2, a3_3, a4_4, rfl⟩
    have G : zS T A s.heap s [[zO4 h cr inn a1_1 a2_2 a3_3 a4_4, zAr T 0 a1_1 7 f1, zAr T 0 a2_2 28 f2, zAr T 0 a3_3 7 f3, zAr T 0 a4_4 7 f4]] _ _ := G.re rfl
    refine z_Si (bc := [[zO4 h cr inn a1_1 a2_2 a3_3 a4_4, zAr T 0 a1_1 7 f1, zAr T 0 a2_2 28 f2, zAr T 0 a3_3 7 f3, zAr T 0 a4_4 7 f4]]) (br := []) (As := [.ref h, .int (nI i)]) (rest := []) C G (c_inOneClass l T h cr inn f1 f2 f3 f4 ([zO4 h cr inn a1_1 a2_2 a3_3 a4_4, zAr T 0 a1_1 7 f1, zAr T 0 a2_2 28 f2, zAr T 0 a3_3 7 f3, zAr T 0 a4_4 7 f4]) (nI i) hw_10 (by first | with_reducible assumption | with_reducible rfl | omega | assumption | rfl)) (kS_RX8_32 C.2.2.2.2 (Nat.le_of_ble_eq_true rfl) (Nat.le_of_ble_eq_true rfl)) [0] [0] rfl rfl rfl rfl hl.1 dX8_parts_19 (Nat.le_of_ble_eq_true rfl) (Nat.le_of_ble_eq_true rfl) (fun r_11 b1 H locs hw G => ?_)
    obtain rfl := hw
    have G : zS T A s.heap s [[zO4 h cr inn a1_1 a2_2 a3_3 a4_4, zAr T 0 a1_1 7 f1, zAr T 0 a2_2 28 f2, zAr T 0 a3_3 7 f3, zAr T 0 a4_4 7 f4]] _ _ := G
    refine lv_istore (lv' := [(5, .int r_11), (4, .int (nI i)), (3, .int ui3), (2, .int ui2), (0, .ref h), (1, .int x)]) hx hb dX8_parts_22 hl (by decide) rfl (fun ls hl => ?_)
    refine lv_iload hx hb dX8_parts_24 (lv_at hl 0 rfl) ?_
    refine lv_iconst (v := 1) hx hb dX8_parts_26 (by decide) ?_
    refine lv_iload hx hb dX8_parts_27 (lv_at hl 1 rfl) ?_
    refine lv_ishl hx hb dX8_parts_29 ?_
    refine lv_iconst (v := 1) hx hb dX8_parts_30 (by decide) ?_
    refine lv_isub hx hb dX8_parts_31 ?_
    refine lv_iand hx hb dX8_parts_32 ?_
    refine lv_if_ne (tgt := 39) hx hb dX8_parts_33 (by decide) (fun c_12 => ?_) (fun c_12 => ?_)
    · have c_12n : ¬ (r_11 &&& ((1 <<< ((nI i) &&& 31)) - 1)).toInt = (0 : Int) := fun q => c_12 ((fa_eq _ _).mpr q)
      refine lv_iload_n hx hb dX8_parts_39 rfl (lv_at hl 2 rfl) ?_
      refine lv_iload hx hb dX8_parts_40 (lv_at hl 0 rfl) ?_
      refine z_Si (bc := []) (br := [[zO4 h cr inn a1_1 a2_2 a3_3 a4_4, zAr T 0 a1_1 7 f1, zAr T 0 a2_2 28 f2, zAr T 0 a3_3 7 f3, zAr T 0 a4_4 7 f4]]) (As := [.int r_11]) (rest := [.int ui3]) C G (c_bitCount l T r_11) (kS_RX8_35 C.2.2.2.2 (Nat.le_of_ble_eq_true rfl) (Nat.le_of_ble_eq_true rfl)) [] [] rfl rfl rfl rfl hl.1 dX8_parts_42 (Nat.le_of_ble_eq_true rfl) (Nat.le_of_ble_eq_true rfl) (fun r_13 b1 H locs hw G => ?_)
      obtain rfl := hw
      have G : zS T A s.heap s [[zO4 h cr inn a1_1 a2_2 a3_3 a4_4, zAr T 0 a1_1 7 f1, zAr T 0 a2_2 28 f2, zAr T 0 a3_3 7 f3, zAr T 0 a4_4 7 f4]] _ _ := G
      refine va_mmax hx hb (C.2.2.1.trans hl.1.symm) C.2.2.2.1 (C.2.2.2.2 _ m_ml_RX8_40) (C.2.2.2.2 _ m_st_math_max) (C.2.2.2.2 _ m_ii_math) (C.2.2.2.2 _ m_co_math_max) (Nat.le_of_ble_eq_true rfl) (Nat.le_of_ble_eq_true rfl) (Nat.le_of_ble_eq_true rfl) (Nat.le_of_ble_eq_true rfl) dX8_parts_45 ?_
      refine lv_topi (fun v_14 ev_14 => ?_)
      subst ev_14
      refine lv_istore_n (lv' := [(3, .int (if ui3 < r_13 then r_13 else ui3)), (5, .int r_11), (4, .int (nI i)), (2, .int ui2), (0, .ref h), (1, .int x)]) hx hb dX8_parts_48 rfl hl (by decide) rfl (fun ls hl => ?_)
      refine lv_iinc (v := nI (i + 1)) (lv' := [(4, .int (nI (i + 1))), (3, .int (if ui3 < r_13 then r_13 else ui3)), (5, .int r_11), (2, .int ui2), (0, .ref h), (1, .int x)]) hx hb dX8_parts_49 hl (k := 2) rfl (z_inc i 1) (by decide) rfl (fun ls hl => ?_)
      refine lv_goto (tgt := 7) hx hb dX8_parts_52 (by decide) ?_
      exact ih_7 (i + 1) ui2 (if ui3 < r_13 then r_13 else ui3) (show (i + 1) ≤ cr.toInt.toNat from by omega) (show cr.toInt.toNat - (i + 1) < cr.toInt.toNat - i from by omega) _ _ ls G (lv_sub hl [0, 1, 3, 4, 5] rfl)
    · have c_12n : (r_11 &&& ((1 <<< ((nI i) &&& 31)) - 1)).toInt = (0 : Int) := (fa_eq _ _).mp c_12
      refine lv_iinc (v := ui2 + 1) (lv' := [(2, .int (ui2 + 1)), (5, .int r_11), (4, .int (nI i)), (3, .int ui3), (0, .ref h), (1, .int x)]) hx hb dX8_parts_36 hl (k := 3) rfl rfl (by decide) rfl (fun ls hl => ?_)
      refine lv_iload_n hx hb dX8_parts_39 rfl (lv_at hl 3 rfl) ?_
      refine lv_iload hx hb dX8_parts_40 (lv_at hl 1 rfl) ?_
      refine z_Si (bc := []) (br := [[zO4 h cr inn a1_1 a2_2 a3_3 a4_4, zAr T 0 a1_1 7 f1, zAr T 0 a2_2 28 f2, zAr T 0 a3_3 7 f3, zAr T 0 a4_4 7 f4]]) (As := [.int r_11]) (rest := [.int ui3]) C G (c_bitCount l T r_11) (kS_RX8_35 C.2.2.2.2 (Nat.le_of_ble_eq_true rfl) (Nat.le_of_ble_eq_true rfl)) [] [] rfl rfl rfl rfl hl.1 dX8_parts_42 (Nat.le_of_ble_eq_true rfl) (Nat.le_of_ble_eq_true rfl) (fun r_15 b1 H locs hw G => ?_)
      obtain rfl := hw
      have G : zS T A s.heap s [[zO4 h cr inn a1_1 a2_2 a3_3 a4_4, zAr T 0 a1_1 7 f1, zAr T 0 a2_2 28 f2, zAr T 0 a3_3 7 f3, zAr T 0 a4_4 7 f4]] _ _ := G
      refine va_mmax hx hb (C.2.2.1.trans hl.1.symm) C.2.2.2.1 (C.2.2.2.2 _ m_ml_RX8_40) (C.2.2.2.2 _ m_st_math_max) (C.2.2.2.2 _ m_ii_math) (C.2.2.2.2 _ m_co_math_max) (Nat.le_of_ble_eq_true rfl) (Nat.le_of_ble_eq_true rfl) (Nat.le_of_ble_eq_true rfl) (Nat.le_of_ble_eq_true rfl) dX8_parts_45 ?_
      refine lv_topi (fun v_16 ev_16 => ?_)
      subst ev_16
      refine lv_istore_n (lv' := [(3, .int (if ui3 < r_15 then r_15 else ui3)), (2, .int (ui2 + 1)), (5, .int r_11), (4, .int (nI i)), (0, .ref h), (1, .int x)]) hx hb dX8_parts_48 rfl hl (by decide) rfl (fun ls hl => ?_)
      refine lv_iinc (v := nI (i + 1)) (lv' := [(4, .int (nI (i + 1))), (3, .int (if ui3 < r_15 then r_15 else ui3)), (2, .int (ui2 + 1)), (5, .int r_11), (0, .ref h), (1, .int x)]) hx hb dX8_parts_49 hl (k := 3) rfl (z_inc i 1) (by decide) rfl (fun ls hl => ?_)
      refine lv_goto (tgt := 7) hx hb dX8_parts_52 (by decide) ?_
      exact ih_7 (i + 1) (ui2 + 1) (if ui3 < r_15 then r_15 else ui3) (show (i + 1) ≤ cr.toInt.toNat from by omega) (show cr.toInt.toNat - (i + 1) < cr.toInt.toNat - i from by omega) _ _ ls G (lv_sub hl [0, 1, 2, 4, 5] rfl)
set_option maxHeartbeats 4000000 in
set_option maxRecDepth 100000 in
/-- c_ring -/
theorem c_ring (l : Launch) (T : zTy) (h : Nat) (cr : Int32) (inn : Int32) (f1 : Nat → Int32) (f2 : Nat → Int32) (f3 : Nat → Int32) (f4 : Nat → Int32) (w : va_W) (x : Int32) (hw : bLand T h cr inn f1 f2 f3 f4 w) (hI : zLI cr f1 f3) : zMi l T yX8_ring cX8_ring 4 (some .int) 3 0 0 [.ref h, .int x] [w] (fun (r : Int32) bs => bs = [w]) := by
  refine zMi_of (own := RX8) (by decide) rfl (Nat.le_of_ble_eq_true rfl) ?_
  intro p e s m args below meth c A ls C hr hlocks hnm hAe G hl
  refine zHide (fun Q9 hQ9 => ?_)
  have hx := C.1
  have hb := C.2.1
  have hl : lv_has ls 4 [(0, .ref h), (1, .int x)] := hl
  have hcr := hI.1
  refine lv_iload_n hx hb dX8_ring_0 rfl (lv_at hl 1 rfl) ?_
  refine lv_istore_n (lv' := [(2, .int x), (0, .ref h), (1, .int x)]) hx hb dX8_ring_1 rfl hl (by decide) rfl (fun ls hl => ?_)
  refine lv_iconst (v := 1) hx hb dX8_ring_2 (by decide) ?_
  refine lv_istore_n (lv' := [(3, .int 1), (2, .int x), (0, .ref h), (1, .int x)]) hx hb dX8_ring_3 rfl hl (by decide) rfl (fun ls hl => ?_)
  refine zEx4 hw ?_
  intro a1_1 a2_2 a3_3 a4_4 hbs9
  clear hw
  subst hbs9
  have G : zS T A s.heap s [[zO4 h cr inn a1_1 a2_2 a3_3 a4_4], [zAr T 0 a1_1 7 f1], [zAr T 0 a2_2 28 f2], [zAr T 0 a3_3 7 f3], [zAr T 0 a4_4 7 f4]] _ _ := G.re rfl
  have hw_5 : bLand T h cr inn f1 f2 f3 f4 [zO4 h cr inn a1_1 a2_2 a3_3 a4_4, zAr T 0 a1_1 7 f1, zAr T 0 a2_2 28 f2, zAr T 0 a3_3 7 f3, zAr T 0 a4_4 7 f4] := ⟨a1_1, a2_2, a3_3, a4_4, rfl⟩
  have G : zS T A s.heap s [[zO4 h cr inn a1_1 a2_2 a3_3 a4_4, zAr T 0 a1_1 7 f1, zAr T 0 a2_2 28 f2, zAr T 0 a3_3 7 f3, zAr T 0 a4_4 7 f4]] _ _ := G.re rfl
  refine z_lp2 (T := T) 4 (fun (i : Nat) (ui2 : Int32) => [[zO4 h cr inn a1_1 a2_2 a3_3 a4_4, zAr T 0 a1_1 7 f1, zAr T 0 a2_2 28 f2, zAr T 0 a3_3 7 f3, zAr T 0 a4_4 7 f4]]) (fun (i : Nat) (ui2 : Int32) => [(3, .int (nI i)), (2, .int ui2), (0, .ref h), (1, .int x)]) (fun (i : Nat) (ui2 : Int32) => i ≤ 8) (fun (i : Nat) (ui2 : Int32) => 8 - i) ?_ 1 x (show 1 ≤ 8 from by omega) G (lv_sub hl [0, 1, 2, 3] rfl)
  intro i ui2 hi ih_4 H locs ls G hl
  replace hi : i ≤ 8 := hi
  replace G : zS T A s.heap s [[zO4 h cr inn a1_1 a2_2 a3_3 a4_4, zAr T 0 a1_1 7 f1, zAr T 0 a2_2 28 f2, zAr T 0 a3_3 7 f3, zAr T 0 a4_4 7 f4]] _ _ := G
  replace hl : lv_has ls 4 [(3, .int (nI i)), (2, .int ui2), (0, .ref h), (1, .int x)] := hl
  refine lv_iload_n hx hb dX8_ring_4 rfl (lv_at hl 0 rfl) ?_
  refine lv_bipush (v := 7) hx hb dX8_ring_5 (by decide) ?_
  refine lv_icmp_gt (tgt := 47) hx hb dX8_ring_7 (by decide) (fun c_6 => ?_) (fun c_6 => ?_)
  · have c_6n : 7 < i := (nI_ltI (a := 7) (b := i) (by omega) (by omega)).mp c_6
    refine lv_iconst (v := 0) hx hb dX8_ring_47 (by decide) ?_
    exact z_back hQ9 (z_iret C hr hlocks G (Nat.le_of_ble_eq_true rfl) (Nat.le_of_ble_eq_true rfl) dX8_ring_48 rfl)
  · have c_6n : ¬ 7 < i := fun q => c_6 ((nI_ltI (a := 7) (b := i) (by omega) (by omega)).mpr q)
    refine lv_aload_n hx hb dX8_ring_10 rfl (lv_at hl 2 rfl) ?_
    refine lv_iload_n hx hb dX8_ring_11 rfl (lv_at hl 1 rfl) ?_
    refine z_Vi (bc := [[zO4 h cr inn a1_1 a2_2 a3_3 a4_4, zAr T 0 a1_1 7 f1, zAr T 0 a2_2 28 f2, zAr T 0 a3_3 7 f3, zAr T 0 a4_4 7 f4]]) (br := []) (As := [.int ui2]) (rest := []) C G (c_has l T h cr inn f1 f2 f3 f4 ([zO4 h cr inn a1_1 a2_2 a3_3 a4_4, zAr T 0 a1_1 7 f1, zAr T 0 a2_2 28 f2, zAr T 0 a3_3 7 f3, zAr T 0 a4_4 7 f4]) ui2 hw_5) (kV_RX8_59 C.2.2.2.2 (Nat.le_of_ble_eq_true rfl) (Nat.le_of_ble_eq_true rfl)) [0] [0] rfl rfl (ci := 4) (qc := (RX4, TX4, 6)) rfl rfl (List.mem_flatten.mpr ⟨_, List.mem_of_getElem? (i := 0) rfl, (bLand_mem hw_5).choose_spec⟩) rfl rfl hl.1 dX8_ring_12 (Nat.le_of_ble_eq_true rfl) (Nat.le_of_ble_eq_true rfl) (fun r_8 b1 H locs hw G => ?_)
    refine zAn2 hw ?_
    intro hbs9 hc_7
    clear hw
    subst hbs9
    have G : zS T A s.heap s [[zO4 h cr inn a1_1 a2_2 a3_3 a4_4, zAr T 0 a1_1 7 f1, zAr T 0 a2_2 28 f2, zAr T 0 a3_3 7 f3, zAr T 0 a4_4 7 f4]] _ _ := G
    rcases hc_7 with ⟨rfl, h_9, h_10, h_11⟩ | ⟨rfl, h_12⟩
    · have h_9 : 0 ≤ ui2.toInt := h_9
      have h_10 : ui2.toInt < cr.toInt := h_10
      have h_11 : ui2.toInt < 7 := h_11
      refine lv_if_eq (tgt := 32) hx hb dX8_ring_15 (by decide) (fun q => absurd q (by decide)) (fun _ => ?_)
      refine lv_aload_n hx hb dX8_ring_18 rfl (lv_at hl 2 rfl) ?_
      refine lv_iload_n hx hb dX8_ring_19 rfl (lv_at hl 1 rfl) ?_
      refine lv_aload_n hx hb dX8_ring_20 rfl (lv_at hl 2 rfl) ?_
      have G : zS T A s.heap s [[zO4 h cr inn a1_1 a2_2 a3_3 a4_4], [zAr T 0 a1_1 7 f1], [zAr T 0 a2_2 28 f2], [zAr T 0 a3_3 7 f3], [zAr T 0 a4_4 7 f4]] _ _ := G.re rfl
      refine z_get C G clX4 0 rfl 4 (by decide) m_fl_RX8_62 rfl dX8_ring_21 ?_
      refine lv_iload_n hx hb dX8_ring_24 rfl (lv_at hl 1 rfl) ?_
      refine z_ild C G 3 rfl (vp_in_iff.mpr ⟨by omega, by omega⟩) dX8_ring_25 ?_
      refine lv_topi (fun v_13 ev_13 => ?_)
      subst ev_13
      have hw_14 : bLand T h cr inn f1 f2 f3 f4 [zO4 h cr inn a1_1 a2_2 a3_3 a4_4, zAr T 0 a1_1 7 f1, zAr T 0 a2_2 28 f2, zAr T 0 a3_3 7 f3, zAr T 0 a4_4 7 f4] := ⟨a1_1, a2_2, a3_3, a4_4, rfl⟩
      have G : zS T A s.heap s [[zO4 h cr inn a1_1 a2_2 a3_3 a4_4, zAr T 0 a1_1 7 f1, zAr T 0 a2_2 28 f2, zAr T 0 a3_3 7 f3, zAr T 0 a4_4 7 f4]] _ _ := G.re rfl
      refine z_Vi (bc := [[zO4 h cr inn a1_1 a2_2 a3_3 a4_4, zAr T 0 a1_1 7 f1, zAr T 0 a2_2 28 f2, zAr T 0 a3_3 7 f3, zAr T 0 a4_4 7 f4]]) (br := []) (As := [.int ui2, .int (f3 ui2.toNatClampNeg)]) (rest := []) C G (c_target l T h cr inn f1 f2 f3 f4 ([zO4 h cr inn a1_1 a2_2 a3_3 a4_4, zAr T 0 a1_1 7 f1, zAr T 0 a2_2 28 f2, zAr T 0 a3_3 7 f3, zAr T 0 a4_4 7 f4]) ui2 (f3 ui2.toNatClampNeg) hw_14) (kV_RX8_19 C.2.2.2.2 (Nat.le_of_ble_eq_true rfl) (Nat.le_of_ble_eq_true rfl)) [0] [0] rfl rfl (ci := 4) (qc := (RX4, TX4, 6)) rfl rfl (List.mem_flatten.mpr ⟨_, List.mem_of_getElem? (i := 0) rfl, (bLand_mem hw_14).choose_spec⟩) rfl rfl hl.1 dX8_ring_26 (Nat.le_of_ble_eq_true rfl) (Nat.le_of_ble_eq_true rfl) (fun r_16 b1 H locs hw G => ?_)
      refine zAn2 hw ?_
      intro hbs9 h_15
      clear hw
      subst hbs9
      have G : zS T A s.heap s [[zO4 h cr inn a1_1 a2_2 a3_3 a4_4, zAr T 0 a1_1 7 f1, zAr T 0 a2_2 28 f2, zAr T 0 a3_3 7 f3, zAr T 0 a4_4 7 f4]] _ _ := G
      subst h_15
      refine lv_goto (tgt := 33) hx hb dX8_ring_29 (by decide) ?_
      refine lv_istore_n (lv' := [(2, .int (zTarget cr f1 f2 ui2 (f3 ui2.toNatClampNeg))), (3, .int (nI i)), (0, .ref h), (1, .int x)]) hx hb dX8_ring_33 rfl hl (by decide) rfl (fun ls hl => ?_)
      refine lv_iload_n hx hb dX8_ring_34 rfl (lv_at hl 0 rfl) ?_
      refine lv_iload_n hx hb dX8_ring_35 rfl (lv_at hl 3 rfl) ?_
      refine lv_icmp_ne (tgt := 41) hx hb dX8_ring_36 (by decide) (fun c_17 => ?_) (fun c_17 => ?_)
      · have c_17n : ¬ (zTarget cr f1 f2 ui2 (f3 ui2.toNatClampNeg)).toInt = x.toInt := fun q => c_17 ((fa_eq _ _).mpr q)
        refine lv_iinc (v := nI (i + 1)) (lv' := [(3, .int (nI (i + 1))), (2, .int (zTarget cr f1 f2 ui2 (f3 ui2.toNatClampNeg))), (0, .ref h), (1, .int x)]) hx hb dX8_ring_41 hl (k := 1) rfl (z_inc i 1) (by decide) rfl (fun ls hl => ?_)
        refine lv_goto (tgt := 4) hx hb dX8_ring_44 (by decide) ?_
        exact ih_4 (i + 1) (zTarget cr f1 f2 ui2 (f3 ui2.toNatClampNeg)) (show (i + 1) ≤ 8 from by omega) (show 8 - (i + 1) < 8 - i from by omega) _ _ ls G (lv_sub hl [0, 1, 2, 3] rfl)
      · have c_17n : (zTarget cr f1 f2 ui2 (f3 ui2.toNatClampNeg)).toInt = x.toInt := (fa_eq _ _).mp c_17
        refine lv_iload_n hx hb dX8_ring_39 rfl (lv_at hl 1 rfl) ?_
        exact z_back hQ9 (z_iret C hr hlocks G (Nat.le_of_ble_eq_true rfl) (Nat.le_of_ble_eq_true rfl) dX8_ring_40 rfl)
    · have h_12 : (ui2.toInt < 0 ∨ cr.toInt ≤ ui2.toInt ∨ 7 ≤ ui2.toInt) := h_12
      refine lv_if_eq (tgt := 32) hx hb dX8_ring_15 (by decide) (fun _ => ?_) (fun q => absurd (by decide) q)
      refine lv_iconst (v := (-1)) hx hb dX8_ring_32 (by decide) ?_
      refine lv_istore_n (lv' := [(2, .int (-1)), (3, .int (nI i)), (0, .ref h), (1, .int x)]) hx hb dX8_ring_33 rfl hl (by decide) rfl (fun ls hl => ?_)
      refine lv_iload_n hx hb dX8_ring_34 rfl (lv_at hl 0 rfl) ?_
      refine lv_iload_n hx hb dX8_ring_35 rfl (lv_at hl 3 rfl) ?_
      refine lv_icmp_ne (tgt := 41) hx hb dX8_ring_36 (by decide) (fun c_18 => ?_) (fun c_18 => ?_)
      · have c_18n : ¬ (-1 : Int) = x.toInt := fun q => c_18 ((fa_eq _ _).mpr q)
        refine lv_iinc (v := nI (i + 1)) (lv' := [(3, .int (nI (i + 1))), (2, .int (-1)), (0, .ref h), (1, .int x)]) hx hb dX8_ring_41 hl (k := 1) rfl (z_inc i 1) (by decide) rfl (fun ls hl => ?_)
        refine lv_goto (tgt := 4) hx hb dX8_ring_44 (by decide) ?_
        exact ih_4 (i + 1) (-1) (show (i + 1) ≤ 8 from by omega) (show 8 - (i + 1) < 8 - i from by omega) _ _ ls G (lv_sub hl [0, 1, 2, 3] rfl)
      · have c_18n : (-1 : Int) = x.toInt := (fa_eq _ _).mp c_18
        refine lv_iload_n hx hb dX8_ring_39 rfl (lv_at hl 1 rfl) ?_
        exact z_back hQ9 (z_iret C hr hlocks G (Nat.le_of_ble_eq_true rfl) (Nat.le_of_ble_eq_true rfl) dX8_ring_40 rfl)


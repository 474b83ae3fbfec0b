theorem z_P3 {cr inn : Int32} {k1 k3 g1 g3 : Nat → Int32} (hI : zLI cr k1 k3) (h1 : ∀ j, j < 7 → g1 j = k3 j) (h3 : ∀ j, j < 7 → g3 j = zWays cr inn k1 (nI j)) : zP3 g1 g3 := by
  intro j hj
  rw [h1 j hj, h3 j hj]
  exact ⟨zWays_le hI _, hI.2.2 j hj⟩
def zSprR (cr : Int32) (f1 f2 : Nat → Int32) (x : Int32) : Nat → Int32 → Int32
  | 0, v => v
  | n + 1, v => zSprR cr f1 f2 x n v ||| (1 <<< (zTarget cr f1 f2 x (nI n) &&& 31))
def zSprC (cr inn : Int32) (f1 f2 : Nat → Int32) (bits : Int32) : Nat → Int32
  | 0 => bits
  | n + 1 => if zBit bits (nI n) = 0 then zSprC cr inn f1 f2 bits n else zSprR cr f1 f2 (nI n) (zWays cr inn f1 (nI n)).toInt.toNat (zSprC cr inn f1 f2 bits n)
def zSpread (cr inn : Int32) (f1 f2 : Nat → Int32) (bits : Int32) : Int32 := zSprC cr inn f1 f2 bits cr.toInt.toNat
def zSeen (cr inn : Int32) (f1 f2 : Nat → Int32) (v : Int32) : Nat → Int32
  | 0 => v
  | n + 1 => zSpread cr inn f1 f2 (zSeen cr inn f1 f2 v n)
set_option maxHeartbeats 4000000 in
set_option maxRecDepth 100000 in
/-- c_spread -/
theorem c_spread (l : Launch) (T : zTy) (h : Nat) (cr : Int32) (inn : Int32) (f1 : Nat → Int32) (f2 : Nat → Int32) (f3 : Nat → Int32) (f4 : Nat → Int32) (w : va_W) (b : Int32) (hw : bLand T h cr inn f1 f2 f3 f4 w) (hI : zLI cr f1 f3) : zMi l T yX8_spread cX8_spread 5 (some .int) 3 0 0 [.ref h, .int b] [w] (fun (r : Int32) bs => bs = [w] ∧ r = zSpread cr inn f1 f2 b) := by
  refine zMi_of (own := RX8) (by decide) rfl (Nat.le_of_ble_eq_true rfl) ?_
  intro p e s m args below meth c A ls C hr hlocks hnm hAe G hl
  refine zHide (fun Qz_ hQz_ => ?_)
  have hx := C.1
  have hb := C.2.1
  have hl : lv_has ls 5 [(0, .ref h), (1, .int b)] := hl
  have hcr := hI.1
  refine lv_iload_n hx hb dX8_spread_0 rfl (lv_at hl 1 rfl) ?_
  refine lv_istore_n (lv' := [(2, .int b), (0, .ref h), (1, .int b)]) hx hb dX8_spread_1 rfl hl (by decide) (zLvf_h rfl) (fun ls hl => ?_)
  refine lv_iconst (v := 0) hx hb dX8_spread_2 (by decide) ?_
  refine lv_istore_n (lv' := [(3, .int 0), (2, .int b), (0, .ref h), (1, .int b)]) hx hb dX8_spread_3 rfl hl (by decide) (zLvf_h rfl) (fun ls hl => ?_)
  refine zEx4 hw ?_
  intro a1_1 a2_2 a3_3 a4_4 hbs9
  clear hw
  subst hbs9
  have G : zS T A s.heap s [[zO4 h cr inn a1_1 a2_2 a3_3 a4_4], [zAr T 0 a1_1 7 f1], [zAr T 0 a2_2 28 f2], [zAr T 0 a3_3 7 f3], [zAr T 0 a4_4 7 f4]] _ _ := G.re rfl
  have hw_5 : bLand T h cr inn f1 f2 f3 f4 [zO4 h cr inn a1_1 a2_2 a3_3 a4_4, zAr T 0 a1_1 7 f1, zAr T 0 a2_2 28 f2, zAr T 0 a3_3 7 f3, zAr T 0 a4_4 7 f4] := ⟨a1_1, a2_2, a3_3, a4_4, rfl⟩
  have G : zS T A s.heap s [[zO4 h cr inn a1_1 a2_2 a3_3 a4_4, zAr T 0 a1_1 7 f1, zAr T 0 a2_2 28 f2, zAr T 0 a3_3 7 f3, zAr T 0 a4_4 7 f4]] _ _ := G.re rfl
  refine z_lp2 (T := T) 4 (fun (i : Nat) (v : Int32) => [[zO4 h cr inn a1_1 a2_2 a3_3 a4_4, zAr T 0 a1_1 7 f1, zAr T 0 a2_2 28 f2, zAr T 0 a3_3 7 f3, zAr T 0 a4_4 7 f4]]) (fun (i : Nat) (v : Int32) => [(3, .int (nI i)), (2, .int v), (0, .ref h), (1, .int b)]) (fun (i : Nat) (v : Int32) => i ≤ cr.toInt.toNat ∧ v = zSprC cr inn f1 f2 b i) (fun (i : Nat) (v : Int32) => cr.toInt.toNat - i) ?_ 0 b (show 0 ≤ cr.toInt.toNat ∧ b = zSprC cr inn f1 f2 b 0 from ⟨by omega, rfl⟩) G (lv_sub hl [0, 1, 2, 3] rfl)
  intro i v hI9 ih_4 H locs ls G hl
  replace hI9 : i ≤ cr.toInt.toNat ∧ v = zSprC cr inn f1 f2 b i := hI9
  refine zAn2 hI9 ?_
  intro hi hv
  clear hI9
  replace G : zS T A s.heap s [[zO4 h cr inn a1_1 a2_2 a3_3 a4_4, zAr T 0 a1_1 7 f1, zAr T 0 a2_2 28 f2, zAr T 0 a3_3 7 f3, zAr T 0 a4_4 7 f4]] _ _ := G
  replace hl : lv_has ls 5 [(3, .int (nI i)), (2, .int v), (0, .ref h), (1, .int b)] := hl
  refine lv_iload_n hx hb dX8_spread_4 rfl (lv_at hl 0 rfl) ?_
  refine lv_aload_n hx hb dX8_spread_5 rfl (lv_at hl 2 rfl) ?_
  have G : zS T A s.heap s [[zO4 h cr inn a1_1 a2_2 a3_3 a4_4], [zAr T 0 a1_1 7 f1], [zAr T 0 a2_2 28 f2], [zAr T 0 a3_3 7 f3], [zAr T 0 a4_4 7 f4]] _ _ := G.re rfl
  refine z_get C G clX4 0 rfl 0 (by decide) m_fl_RX8_9 rfl dX8_spread_6 ?_
  refine lv_icmp_ge (tgt := 57) hx hb dX8_spread_9 (by decide) (fun c_6 => ?_) (fun c_6 => ?_)
  · have c_6n : cr.toInt ≤ (i : Int) := by have q := (fa_le _ _).mp c_6; rw [nI_toInt (n := i) (by omega)] at q; exact q
    refine lv_iload_n hx hb dX8_spread_57 rfl (lv_at hl 1 rfl) ?_
    have hw_7 : bLand T h cr inn f1 f2 f3 f4 [zO4 h cr inn a1_1 a2_2 a3_3 a4_4, zAr T 0 a1_1 7 f1, zAr T 0 a2_2 28 f2, zAr T 0 a3_3 7 f3, zAr T 0 a4_4 7 f4] := ⟨a1_1, a2_2, a3_3, a4_4, rfl⟩
    have G : zS T A s.heap s [[zO4 h cr inn a1_1 a2_2 a3_3 a4_4, zAr T 0 a1_1 7 f1, zAr T 0 a2_2 28 f2, zAr T 0 a3_3 7 f3, zAr T 0 a4_4 7 f4]] _ _ := G.re rfl
    exact z_back hQz_ (z_iret C hr hlocks G (Nat.le_of_ble_eq_true rfl) (Nat.le_of_ble_eq_true rfl) dX8_spread_58 ⟨rfl, (by rw [hv, show i = cr.toInt.toNat by omega]; rfl)⟩)
  · have c_6n : ¬ cr.toInt ≤ (i : Int) := fun q => c_6 ((fa_le _ _).mpr (by rw [nI_toInt (n := i) (by omega)]; exact q))
    refine lv_iload_n hx hb dX8_spread_12 rfl (lv_at hl 3 rfl) ?_
    refine lv_iload_n hx hb dX8_spread_13 rfl (lv_at hl 0 rfl) ?_
    refine lv_ishr hx hb dX8_spread_14 ?_
    refine lv_iconst (v := 1) hx hb dX8_spread_15 (by decide) ?_
    refine lv_iand hx hb dX8_spread_16 ?_
    refine lv_if_eq (tgt := 51) hx hb dX8_spread_17 (by decide) (fun c_8 => ?_) (fun c_8 => ?_)
    · have c_8n : ((b >>> ((nI i) &&& 31)) &&& 1).toInt = (0 : Int) := (fa_eq _ _).mp c_8
      refine lv_iinc (v := nI (i + 1)) (lv' := [(3, .int (nI (i + 1))), (2, .int v), (0, .ref h), (1, .int b)]) hx hb dX8_spread_51 hl (k := 0) rfl (z_inc i 1) (by decide) (zLvf_h rfl) (fun ls hl => ?_)
      refine lv_goto (tgt := 4) hx hb dX8_spread_54 (by decide) ?_
      have hw_9 : bLand T h cr inn f1 f2 f3 f4 [zO4 h cr inn a1_1 a2_2 a3_3 a4_4, zAr T 0 a1_1 7 f1, zAr T 0 a2_2 28 f2, zAr T 0 a3_3 7 f3, zAr T 0 a4_4 7 f4] := ⟨a1_1, a2_2, a3_3, a4_4, rfl⟩
      have G : zS T A s.heap s [[zO4 h cr inn a1_1 a2_2 a3_3 a4_4, zAr T 0 a1_1 7 f1, zAr T 0 a2_2 28 f2, zAr T 0 a3_3 7 f3, zAr T 0 a4_4 7 f4]] _ _ := G.re rfl
      exact ih_4 (i + 1) v (show (i + 1) ≤ cr.toInt.toNat ∧ v = zSprC cr inn f1 f2 b (i + 1) from ⟨by omega, by rw [zSprC, if_pos (by first | with_reducible assumption | assumption)]; exact hv⟩) (show cr.toInt.toNat - (i + 1) < cr.toInt.toNat - i from by omega) _ _ ls G (lv_sub hl [0, 1, 2, 3] rfl)
    · have c_8n : ¬ ((b >>> ((nI i) &&& 31)) &&& 1).toInt = (0 : Int) := fun q => c_8 ((fa_eq _ _).mpr q)
      have hwl := zWays_le (inn := inn) hI (nI i)
      refine lv_iconst (v := 0) hx hb dX8_spread_20 (by decide) ?_
      refine lv_istore (lv' := [(4, .int 0), (3, .int (nI i)), (2, .int v), (0, .ref h), (1, .int b)]) hx hb dX8_spread_21 hl (by decide) (zLvf_h rfl) (fun ls hl => ?_)
      have hw_10 : bLand T h cr inn f1 f2 f3 f4 [zO4 h cr inn a1_1 a2_2 a3_3 a4_4, zAr T 0 a1_1 7 f1, zAr T 0 a2_2 28 f2, zAr T 0 a3_3 7 f3, zAr T 0 a4_4 7 f4] := ⟨a1_1, a2_2, a3_3, a4_4, rfl⟩
      have G : zS T A s.heap s [[zO4 h cr inn a1_1 a2_2 a3_3 a4_4, zAr T 0 a1_1 7 f1, zAr T 0 a2_2 28 f2, zAr T 0 a3_3 7 f3, zAr T 0 a4_4 7 f4]] _ _ := G.re rfl
      refine z_lp2 (T := T) 23 (fun (k : Nat) (v2 : Int32) => [[zO4 h cr inn a1_1 a2_2 a3_3 a4_4, zAr T 0 a1_1 7 f1, zAr T 0 a2_2 28 f2, zAr T 0 a3_3 7 f3, zAr T 0 a4_4 7 f4]]) (fun (k : Nat) (v2 : Int32) => [(4, .int (nI k)), (3, .int (nI i)), (2, .int v2), (0, .ref h), (1, .int b)]) (fun (k : Nat) (v2 : Int32) => k ≤ (zWays cr inn f1 (nI i)).toInt.toNat ∧ v2 = zSprR cr f1 f2 (nI i) k v) (fun (k : Nat) (v2 : Int32) => (zWays cr inn f1 (nI i)).toInt.toNat - k) ?_ 0 v (show 0 ≤ (zWays cr inn f1 (nI i)).toInt.toNat ∧ v = zSprR cr f1 f2 (nI i) 0 v from ⟨by omega, rfl⟩) G (lv_sub hl [0, 1, 2, 3, 4] rfl)
      intro k v2 hI9 ih_23 H locs ls G hl
      replace hI9 : k ≤ (zWays cr inn f1 (nI i)).toInt.toNat ∧ v2 = zSprR cr f1 f2 (nI i) k v := hI9
      refine zAn2 hI9 ?_
      intro hk hv2
      clear hI9
      replace G : zS T A s.heap s [[zO4 h cr inn a1_1 a2_2 a3_3 a4_4, zAr T 0 a1_1 7 f1, zAr T 0 a2_2 28 f2, zAr T 0 a3_3 7 f3, zAr T 0 a4_4 7 f4]] _ _ := G
      replace hl : lv_has ls 5 [(4, .int (nI k)), (3, .int (nI i)), (2, .int v2), (0, .ref h), (1, .int b)] := hl
      refine lv_iload hx hb dX8_spread_23 (lv_at hl 0 rfl) ?_
      refine lv_aload_n hx hb dX8_spread_25 rfl (lv_at hl 3 rfl) ?_
      refine lv_iload_n hx hb dX8_spread_26 rfl (lv_at hl 1 rfl) ?_
      refine z_Vi (bc := [[zO4 h cr inn a1_1 a2_2 a3_3 a4_4, zAr T 0 a1_1 7 f1, zAr T 0 a2_2 28 f2, zAr T 0 a3_3 7 f3, zAr T 0 a4_4 7 f4]]) (br := []) (As := [.int (nI i)]) (rest := [.int (nI k)]) C G (c_waysOut l T h cr inn f1 f2 f3 f4 ([zO4 h cr inn a1_1 a2_2 a3_3 a4_4, zAr T 0 a1_1 7 f1, zAr T 0 a2_2 28 f2, zAr T 0 a3_3 7 f3, zAr T 0 a4_4 7 f4]) (nI i) hw_10) (kV_RX8_15 C.2.2.2.2 (Nat.le_of_ble_eq_true rfl) (Nat.le_of_ble_eq_true rfl)) [0] [0] rfl rfl (ci := 4) (qc := (RX4, TX4, 6)) rfl rfl (List.mem_flatten.mpr ⟨_, List.mem_of_getElem? (i := 0) rfl, (bLand_mem hw_10).choose_spec⟩) rfl rfl hl.1 dX8_spread_27 (Nat.le_of_ble_eq_true rfl) (Nat.le_of_ble_eq_true rfl) (fun r_12 b1 H locs hw G => ?_)
      refine zAn2 hw ?_
      intro hbs9 h_11
      clear hw
      subst hbs9
      have G : zS T A s.heap s [[zO4 h cr inn a1_1 a2_2 a3_3 a4_4, zAr T 0 a1_1 7 f1, zAr T 0 a2_2 28 f2, zAr T 0 a3_3 7 f3, zAr T 0 a4_4 7 f4]] _ _ := G
      subst h_11
      refine lv_icmp_ge (tgt := 51) hx hb dX8_spread_30 (by decide) (fun c_13 => ?_) (fun c_13 => ?_)
      · have c_13n : (zWays cr inn f1 (nI i)).toInt ≤ (k : Int) := by have q := (fa_le _ _).mp c_13; rw [nI_toInt (n := k) (by omega)] at q; exact q
        refine lv_iinc (v := nI (i + 1)) (lv' := [(3, .int (nI (i + 1))), (4, .int (nI k)), (2, .int v2), (0, .ref h), (1, .int b)]) hx hb dX8_spread_51 hl (k := 1) rfl (z_inc i 1) (by decide) (zLvf_h rfl) (fun ls hl => ?_)
        refine lv_goto (tgt := 4) hx hb dX8_spread_54 (by decide) ?_
        exact ih_4 (i + 1) v2 (show (i + 1) ≤ cr.toInt.toNat ∧ v2 = zSprC cr inn f1 f2 b (i + 1) from ⟨by omega, by rw [zSprC, if_neg (by first | with_reducible assumption | assumption), ← hv, hv2, show k = (zWays cr inn f1 (nI i)).toInt.toNat by omega]⟩) (show cr.toInt.toNat - (i + 1) < cr.toInt.toNat - i from by omega) _ _ ls G (lv_sub hl [0, 2, 3, 4] rfl)
      · have c_13n : ¬ (zWays cr inn f1 (nI i)).toInt ≤ (k : Int) := fun q => c_13 ((fa_le _ _).mpr (by rw [nI_toInt (n := k) (by omega)]; exact q))
        refine lv_iload_n hx hb dX8_spread_33 rfl (lv_at hl 2 rfl) ?_
        refine lv_iconst (v := 1) hx hb dX8_spread_34 (by decide) ?_
        refine lv_aload_n hx hb dX8_spread_35 rfl (lv_at hl 3 rfl) ?_
        refine lv_iload_n hx hb dX8_spread_36 rfl (lv_at hl 1 rfl) ?_
        refine lv_iload hx hb dX8_spread_37 (lv_at hl 0 rfl) ?_
        refine z_Vi (bc := [[zO4 h cr inn a1_1 a2_2 a3_3 a4_4, zAr T 0 a1_1 7 f1, zAr T 0 a2_2 28 f2, zAr T 0 a3_3 7 f3, zAr T 0 a4_4 7 f4]]) (br := []) (As := [.int (nI i), .int (nI k)]) (rest := [.int 1, .int v2]) C G (c_target l T h cr inn f1 f2 f3 f4 ([zO4 h cr inn a1_1 a2_2 a3_3 a4_4, zAr T 0 a1_1 7 f1, zAr T 0 a2_2 28 f2, zAr T 0 a3_3 7 f3, zAr T 0 a4_4 7 f4]) (nI i) (nI k) hw_10) (kV_RX8_19 C.2.2.2.2 (Nat.le_of_ble_eq_true rfl) (Nat.le_of_ble_eq_true rfl)) [0] [0] rfl rfl (ci := 4) (qc := (RX4, TX4, 6)) rfl rfl (List.mem_flatten.mpr ⟨_, List.mem_of_getElem? (i := 0) rfl, (bLand_mem hw_10).choose_spec⟩) rfl rfl hl.1 dX8_spread_39 (Nat.le_of_ble_eq_true rfl) (Nat.le_of_ble_eq_true rfl) (fun r_15 b1 H locs hw G => ?_)
        refine zAn2 hw ?_
        intro hbs9 h_14
        clear hw
        subst hbs9
        have G : zS T A s.heap s [[zO4 h cr inn a1_1 a2_2 a3_3 a4_4, zAr T 0 a1_1 7 f1, zAr T 0 a2_2 28 f2, zAr T 0 a3_3 7 f3, zAr T 0 a4_4 7 f4]] _ _ := G
        subst h_14
        refine lv_ishl hx hb dX8_spread_42 ?_
        refine lv_ior hx hb dX8_spread_43 ?_
        refine lv_istore_n (lv' := [(2, .int (v2 ||| (1 <<< ((zTarget cr f1 f2 (nI i) (nI k)) &&& 31)))), (4, .int (nI k)), (3, .int (nI i)), (0, .ref h), (1, .int b)]) hx hb dX8_spread_44 rfl hl (by decide) (zLvf_h rfl) (fun ls hl => ?_)
        refine lv_iinc (v := nI (k + 1)) (lv' := [(4, .int (nI (k + 1))), (2, .int (v2 ||| (1 <<< ((zTarget cr f1 f2 (nI i) (nI k)) &&& 31)))), (3, .int (nI i)), (0, .ref h), (1, .int b)]) hx hb dX8_spread_45 hl (k := 1) rfl (z_inc k 1) (by decide) (zLvf_h rfl) (fun ls hl => ?_)
        refine lv_goto (tgt := 23) hx hb dX8_spread_48 (by decide) ?_
        exact ih_23 (k + 1) (v2 ||| (1 <<< ((zTarget cr f1 f2 (nI i) (nI k)) &&& 31))) (show (k + 1) ≤ (zWays cr inn f1 (nI i)).toInt.toNat ∧ (v2 ||| (1 <<< ((zTarget cr f1 f2 (nI i) (nI k)) &&& 31))) = zSprR cr f1 f2 (nI i) (k + 1) v from ⟨by omega, by rw [hv2]; rfl⟩) (show (zWays cr inn f1 (nI i)).toInt.toNat - (k + 1) < (zWays cr inn f1 (nI i)).toInt.toNat - k from by omega) _ _ ls G (lv_sub hl [0, 2, 1, 3, 4] rfl)
set_option maxHeartbeats 4000000 in
set_option maxRecDepth 100000 in
/-- c_distance -/
theorem c_distance (l : Launch) (T : zTy) (h : Nat) (cr : Int32) (inn : Int32) (f1 : Nat → Int32) (f2 : Nat → Int32) (f3 : Nat → Int32) (f4 : Nat → Int32) (w : va_W) (x : Int32) (y : Int32) (hw : bLand T h cr inn f1 f2 f3 f4 w) (hI : zLI cr f1 f3) : zMi l T yX8_distance cX8_distance 5 (some .int) 4 0 0 [.ref h, .int x, .int y] [w] (fun (r : Int32) bs => bs = [w]) := by
  refine zMi_of (own := RX8) (by decide) rfl (Nat.le_of_ble_eq_true rfl) ?_
  intro p e s m args below meth c A ls C hr hlocks hnm hAe G hl
  refine zHide (fun Qz_ hQz_ => ?_)
  have hx := C.1
  have hb := C.2.1
  have hl : lv_has ls 5 [(0, .ref h), (1, .int x), (2, .int y)] := hl
  have hcr := hI.1
  refine lv_iconst (v := 1) hx hb dX8_distance_0 (by decide) ?_
  refine lv_iload_n hx hb dX8_distance_1 rfl (lv_at hl 1 rfl) ?_
  refine lv_ishl hx hb dX8_distance_2 ?_
  refine lv_istore_n (lv' := [(3, .int (1 <<< (x &&& 31))), (0, .ref h), (1, .int x), (2, .int y)]) hx hb dX8_distance_3 rfl hl (by decide) (zLvf_h rfl) (fun ls hl => ?_)
  refine lv_iconst (v := 0) hx hb dX8_distance_4 (by decide) ?_
  refine lv_istore (lv' := [(4, .int 0), (3, .int (1 <<< (x &&& 31))), (0, .ref h), (1, .int x), (2, .int y)]) hx hb dX8_distance_5 hl (by decide) (zLvf_h rfl) (fun ls hl => ?_)
  refine zEx4 hw ?_
  intro a1_1 a2_2 a3_3 a4_4 hbs9
  clear hw
  subst hbs9
  have G : zS T A s.heap s [[zO4 h cr inn a1_1 a2_2 a3_3 a4_4], [zAr T 0 a1_1 7 f1], [zAr T 0 a2_2 28 f2], [zAr T 0 a3_3 7 f3], [zAr T 0 a4_4 7 f4]] _ _ := G.re rfl
  have hw_5 : bLand T h cr inn f1 f2 f3 f4 [zO4 h cr inn a1_1 a2_2 a3_3 a4_4, zAr T 0 a1_1 7 f1, zAr T 0 a2_2 28 f2, zAr T 0 a3_3 7 f3, zAr T 0 a4_4 7 f4] := ⟨a1_1, a2_2, a3_3, a4_4, rfl⟩
  have G : zS T A s.heap s [[zO4 h cr inn a1_1 a2_2 a3_3 a4_4, zAr T 0 a1_1 7 f1, zAr T 0 a2_2 28 f2, zAr T 0 a3_3 7 f3, zAr T 0 a4_4 7 f4]] _ _ := G.re rfl
  refine z_lp2 (T := T) 7 (fun (i : Nat) (ui3 : Int32) => [[zO4 h cr inn a1_1 a2_2 a3_3 a4_4, zAr T 0 a1_1 7 f1, zAr T 0 a2_2 28 f2, zAr T 0 a3_3 7 f3, zAr T 0 a4_4 7 f4]]) (fun (i : Nat) (ui3 : Int32) => [(4, .int (nI i)), (3, .int ui3), (0, .ref h), (1, .int x), (2, .int y)]) (fun (i : Nat) (ui3 : Int32) => i ≤ 8) (fun (i : Nat) (ui3 : Int32) => 8 - i) ?_ 0 (1 <<< (x &&& 31)) (show 0 ≤ 8 from by omega) G (lv_sub hl [0, 1, 2, 3, 4] rfl)
  intro i ui3 hi ih_7 H locs ls G hl
  replace hi : i ≤ 8 := hi
  replace G : zS T A s.heap s [[zO4 h cr inn a1_1 a2_2 a3_3 a4_4, zAr T 0 a1_1 7 f1, zAr T 0 a2_2 28 f2, zAr T 0 a3_3 7 f3, zAr T 0 a4_4 7 f4]] _ _ := G
  replace hl : lv_has ls 5 [(4, .int (nI i)), (3, .int ui3), (0, .ref h), (1, .int x), (2, .int y)] := hl
  refine lv_iload hx hb dX8_distance_7 (lv_at hl 0 rfl) ?_
  refine lv_bipush (v := 7) hx hb dX8_distance_9 (by decide) ?_
  refine lv_icmp_gt (tgt := 37) hx hb dX8_distance_11 (by decide) (fun c_6 => ?_) (fun c_6 => ?_)
  · have c_6n : 7 < i := (nI_ltI (a := 7) (b := i) (by omega) (by omega)).mp c_6
    refine lv_iconst (v := (-1)) hx hb dX8_distance_37 (by decide) ?_
    exact z_back hQz_ (z_iret C hr hlocks G (Nat.le_of_ble_eq_true rfl) (Nat.le_of_ble_eq_true rfl) dX8_distance_38 rfl)
  · have c_6n : ¬ 7 < i := fun q => c_6 ((nI_ltI (a := 7) (b := i) (by omega) (by omega)).mpr q)
    refine lv_iload_n hx hb dX8_distance_14 rfl (lv_at hl 1 rfl) ?_
    refine lv_iload_n hx hb dX8_distance_15 rfl (lv_at hl 4 rfl) ?_
    refine lv_ishr hx hb dX8_distance_16 ?_
    refine lv_iconst (v := 1) hx hb dX8_distance_17 (by decide) ?_
    refine lv_iand hx hb dX8_distance_18 ?_
    refine lv_if_eq (tgt := 25) hx hb dX8_distance_19 (by decide) (fun c_7 => ?_) (fun c_7 => ?_)
    · have c_7n : ((ui3 >>> (y &&& 31)) &&& 1).toInt = (0 : Int) := (fa_eq _ _).mp c_7
      refine lv_aload_n hx hb dX8_distance_25 rfl (lv_at hl 2 rfl) ?_
      refine lv_iload_n hx hb dX8_distance_26 rfl (lv_at hl 1 rfl) ?_
      refine z_Si (bc := [[zO4 h cr inn a1_1 a2_2 a3_3 a4_4, zAr T 0 a1_1 7 f1, zAr T 0 a2_2 28 f2, zAr T 0 a3_3 7 f3, zAr T 0 a4_4 7 f4]]) (br := []) (As := [.ref h, .int ui3]) (rest := []) C G (c_spread l T h cr inn f1 f2 f3 f4 ([zO4 h cr inn a1_1 a2_2 a3_3 a4_4, zAr T 0 a1_1 7 f1, zAr T 0 a2_2 28 f2, zAr T 0 a3_3 7 f3, zAr T 0 a4_4 7 f4]) ui3 hw_5 (by first | with_reducible assumption | with_reducible rfl | omega | assumption | rfl)) (kS_RX8_23 C.2.2.2.2 (Nat.le_of_ble_eq_true rfl) (Nat.le_of_ble_eq_true rfl)) [0] [0] rfl rfl rfl rfl hl.1 dX8_distance_27 (Nat.le_of_ble_eq_true rfl) (Nat.le_of_ble_eq_true rfl) (fun r_9 b1 H locs hw G => ?_)
      refine zAn2 hw ?_
      intro hbs9 h_8
      clear hw
      subst hbs9
      have G : zS T A s.heap s [[zO4 h cr inn a1_1 a2_2 a3_3 a4_4, zAr T 0 a1_1 7 f1, zAr T 0 a2_2 28 f2, zAr T 0 a3_3 7 f3, zAr T 0 a4_4 7 f4]] _ _ := G
      subst h_8
      refine lv_istore_n (lv' := [(3, .int (zSpread cr inn f1 f2 ui3)), (4, .int (nI i)), (0, .ref h), (1, .int x), (2, .int y)]) hx hb dX8_distance_30 rfl hl (by decide) (zLvf_h rfl) (fun ls hl => ?_)
      refine lv_iinc (v := nI (i + 1)) (lv' := [(4, .int (nI (i + 1))), (3, .int (zSpread cr inn f1 f2 ui3)), (0, .ref h), (1, .int x), (2, .int y)]) hx hb dX8_distance_31 hl (k := 1) rfl (z_inc i 1) (by decide) (zLvf_h rfl) (fun ls hl => ?_)
      refine lv_goto (tgt := 7) hx hb dX8_distance_34 (by decide) ?_
      exact ih_7 (i + 1) (zSpread cr inn f1 f2 ui3) (show (i + 1) ≤ 8 from by omega) (show 8 - (i + 1) < 8 - i from by omega) _ _ ls G (lv_sub hl [0, 1, 2, 3, 4] rfl)
    · have c_7n : ¬ ((ui3 >>> (y &&& 31)) &&& 1).toInt = (0 : Int) := fun q => c_7 ((fa_eq _ _).mpr q)
      refine lv_iload hx hb dX8_distance_22 (lv_at hl 0 rfl) ?_
      exact z_back hQz_ (z_iret C hr hlocks G (Nat.le_of_ble_eq_true rfl) (Nat.le_of_ble_eq_true rfl) dX8_distance_24 rfl)
set_option maxHeartbeats 4000000 in
set_option maxRecDepth 100000 in
/-- c_reached -/
theorem c_reached (l : Launch) (T : zTy) (h : Nat) (cr : Int32) (inn : Int32) (f1 : Nat → Int32) (f2 : Nat → Int32) (f3 : Nat → Int32) (f4 : Nat → Int32) (w : va_W) (x : Int32) (hw : bLand T h cr inn f1 f2 f3 f4 w) (hI : zLI cr f1 f3) : zMi l T yX8_reached cX8_reached 4 (some .int) 4 0 0 [.ref h, .int x] [w] (fun (r : Int32) bs => bs = [w] ∧ r = zSeen cr inn f1 f2 (1 <<< (x &&& 31)) 7) := by
  refine zMi_of (own := RX8) (by decide) rfl (Nat.le_of_ble_eq_true rfl) ?_
  intro p e s m args below meth c A ls C hr hlocks hnm hAe G hl
  refine zHide (fun Qz_ hQz_ => ?_)
  have hx := C.1
  have hb := C.2.1
  have hl : lv_has ls 4 [(0, .ref h), (1, .int x)] := hl
  have hcr := hI.1
  refine lv_iconst (v := 1) hx hb dX8_reached_0 (by decide) ?_
  refine lv_iload_n hx hb dX8_reached_1 rfl (lv_at hl 1 rfl) ?_
  refine lv_ishl hx hb dX8_reached_2 ?_
  refine lv_istore_n (lv' := [(2, .int (1 <<< (x &&& 31))), (0, .ref h), (1, .int x)]) hx hb dX8_reached_3 rfl hl (by decide) (zLvf_h rfl) (fun ls hl => ?_)
  refine lv_iconst (v := 0) hx hb dX8_reached_4 (by decide) ?_
  refine lv_istore_n (lv' := [(3, .int 0), (2, .int (1 <<< (x &&& 31))), (0, .ref h), (1, .int x)]) hx hb dX8_reached_5 rfl hl (by decide) (zLvf_h rfl) (fun ls hl => ?_)
  refine zEx4 hw ?_
  intro a1_1 a2_2 a3_3 a4_4 hbs9
  clear hw
  subst hbs9
  have G : zS T A s.heap s [[zO4 h cr inn a1_1 a2_2 a3_3 a4_4], [zAr T 0 a1_1 7 f1], [zAr T 0 a2_2 28 f2], [zAr T 0 a3_3 7 f3], [zAr T 0 a4_4 7 f4]] _ _ := G.re rfl
  have hw_5 : bLand T h cr inn f1 f2 f3 f4 [zO4 h cr inn a1_1 a2_2 a3_3 a4_4, zAr T 0 a1_1 7 f1, zAr T 0 a2_2 28 f2, zAr T 0 a3_3 7 f3, zAr T 0 a4_4 7 f4] := ⟨a1_1, a2_2, a3_3, a4_4, rfl⟩
  have G : zS T A s.heap s [[zO4 h cr inn a1_1 a2_2 a3_3 a4_4, zAr T 0 a1_1 7 f1, zAr T 0 a2_2 28 f2, zAr T 0 a3_3 7 f3, zAr T 0 a4_4 7 f4]] _ _ := G.re rfl
  refine z_lp2 (T := T) 6 (fun (i : Nat) (ui2 : Int32) => [[zO4 h cr inn a1_1 a2_2 a3_3 a4_4, zAr T 0 a1_1 7 f1, zAr T 0 a2_2 28 f2, zAr T 0 a3_3 7 f3, zAr T 0 a4_4 7 f4]]) (fun (i : Nat) (ui2 : Int32) => [(3, .int (nI i)), (2, .int ui2), (0, .ref h), (1, .int x)]) (fun (i : Nat) (ui2 : Int32) => i ≤ 7 ∧ ui2 = zSeen cr inn f1 f2 (1 <<< (x &&& 31)) i) (fun (i : Nat) (ui2 : Int32) => 7 - i) ?_ 0 (1 <<< (x &&& 31)) (show 0 ≤ 7 ∧ (1 <<< (x &&& 31)) = zSeen cr inn f1 f2 (1 <<< (x &&& 31)) 0 from ⟨by omega, rfl⟩) G (lv_sub hl [0, 1, 2, 3] rfl)
  intro i ui2 hI9 ih_6 H locs ls G hl
  replace hI9 : i ≤ 7 ∧ ui2 = zSeen cr inn f1 f2 (1 <<< (x &&& 31)) i := hI9
  refine zAn2 hI9 ?_
  intro hi hu
  clear hI9
  replace G : zS T A s.heap s [[zO4 h cr inn a1_1 a2_2 a3_3 a4_4, zAr T 0 a1_1 7 f1, zAr T 0 a2_2 28 f2, zAr T 0 a3_3 7 f3, zAr T 0 a4_4 7 f4]] _ _ := G
  replace hl : lv_has ls 4 [(3, .int (nI i)), (2, .int ui2), (0, .ref h), (1, .int x)] := hl
  refine lv_iload_n hx hb dX8_reached_6 rfl (lv_at hl 0 rfl) ?_
  refine lv_bipush (v := 7) hx hb dX8_reached_7 (by decide) ?_
  refine lv_icmp_ge (tgt := 24) hx hb dX8_reached_9 (by decide) (fun c_6 => ?_) (fun c_6 => ?_)
  · have c_6n : 7 ≤ i := (nI_leI (a := 7) (b := i) (by omega) (by omega)).mp c_6
    refine lv_iload_n hx hb dX8_reached_24 rfl (lv_at hl 1 rfl) ?_
    exact z_back hQz_ (z_iret C hr hlocks G (Nat.le_of_ble_eq_true rfl) (Nat.le_of_ble_eq_true rfl) dX8_reached_25 ⟨rfl, (by rw [hu, show i = 7 by omega])⟩)
  · have c_6n : ¬ 7 ≤ i := fun q => c_6 ((nI_leI (a := 7) (b := i) (by omega) (by omega)).mpr q)
    refine lv_aload_n hx hb dX8_reached_12 rfl (lv_at hl 2 rfl) ?_
    refine lv_iload_n hx hb dX8_reached_13 rfl (lv_at hl 1 rfl) ?_
    refine z_Si (bc := [[zO4 h cr inn a1_1 a2_2 a3_3 a4_4, zAr T 0 a1_1 7 f1, zAr T 0 a2_2 28 f2, zAr T 0 a3_3 7 f3, zAr T 0 a4_4 7 f4]]) (br := []) (As := [.ref h, .int ui2]) (rest := []) C G (c_spread l T h cr inn f1 f2 f3 f4 ([zO4 h cr inn a1_1 a2_2 a3_3 a4_4, zAr T 0 a1_1 7 f1, zAr T 0 a2_2 28 f2, zAr T 0 a3_3 7 f3, zAr T 0 a4_4 7 f4]) ui2 hw_5 (by first | with_reducible assumption | with_reducible rfl | omega | assumption | rfl)) (kS_RX8_23 C.2.2.2.2 (Nat.le_of_ble_eq_true rfl) (Nat.le_of_ble_eq_true rfl)) [0] [0] rfl rfl rfl rfl hl.1 dX8_reached_14 (Nat.le_of_ble_eq_true rfl) (Nat.le_of_ble_eq_true rfl) (fun r_8 b1 H locs hw G => ?_)
    refine zAn2 hw ?_
    intro hbs9 h_7
    clear hw
    subst hbs9
    have G : zS T A s.heap s [[zO4 h cr inn a1_1 a2_2 a3_3 a4_4, zAr T 0 a1_1 7 f1, zAr T 0 a2_2 28 f2, zAr T 0 a3_3 7 f3, zAr T 0 a4_4 7 f4]] _ _ := G
    subst h_7
    refine lv_istore_n (lv' := [(2, .int (zSpread cr inn f1 f2 ui2)), (3, .int (nI i)), (0, .ref h), (1, .int x)]) hx hb dX8_reached_17 rfl hl (by decide) (zLvf_h rfl) (fun ls hl => ?_)
    refine lv_iinc (v := nI (i + 1)) (lv' := [(3, .int (nI (i + 1))), (2, .int (zSpread cr inn f1 f2 ui2)), (0, .ref h), (1, .int x)]) hx hb dX8_reached_18 hl (k := 1) rfl (z_inc i 1) (by decide) (zLvf_h rfl) (fun ls hl => ?_)
    refine lv_goto (tgt := 6) hx hb dX8_reached_21 (by decide) ?_
    exact ih_6 (i + 1) (zSpread cr inn f1 f2 ui2) (show (i + 1) ≤ 7 ∧ (zSpread cr inn f1 f2 ui2) = zSeen cr inn f1 f2 (1 <<< (x &&& 31)) (i + 1) from ⟨by omega, by rw [hu]; rfl⟩) (show 7 - (i + 1) < 7 - i from by omega) _ _ ls G (lv_sub hl [0, 1, 2, 3] rfl)
set_option maxHeartbeats 4000000 in
set_option maxRecDepth 100000 in
/-- c_nearest -/
theorem c_nearest (l : Launch) (T : zTy) (h : Nat) (cr : Int32) (inn : Int32) (f1 : Nat → Int32) (f2 : Nat → Int32) (f3 : Nat → Int32) (f4 : Nat → Int32) (w : va_W) (x : Int32) (hw : bLand T h cr inn f1 f2 f3 f4 w) (hI : zLI cr f1 f3) : zMi l T yX8_nearest cX8_nearest 5 (some .int) 4 0 0 [.ref h, .int x] [w] (fun (r : Int32) bs => bs = [w]) := by
  refine zMi_of (own := RX8) (by decide) rfl (Nat.le_of_ble_eq_true rfl) ?_
  intro p e s m args below meth c A ls C hr hlocks hnm hAe G hl
  refine zHide (fun Qz_ hQz_ => ?_)
  have hx := C.1
  have hb := C.2.1
  have hl : lv_has ls 5 [(0, .ref h), (1, .int x)] := hl
  have hcr := hI.1
  refine lv_iconst (v := 1) hx hb dX8_nearest_0 (by decide) ?_
  refine lv_iload_n hx hb dX8_nearest_1 rfl (lv_at hl 1 rfl) ?_
  refine lv_ishl hx hb dX8_nearest_2 ?_
  refine lv_istore_n (lv' := [(2, .int (1 <<< (x &&& 31))), (0, .ref h), (1, .int x)]) hx hb dX8_nearest_3 rfl hl (by decide) (zLvf_h rfl) (fun ls hl => ?_)
  refine lv_iconst (v := 0) hx hb dX8_nearest_4 (by decide) ?_
  refine lv_istore_n (lv' := [(3, .int 0), (2, .int (1 <<< (x &&& 31))), (0, .ref h), (1, .int x)]) hx hb dX8_nearest_5 rfl hl (by decide) (zLvf_h rfl) (fun ls hl => ?_)
  refine zEx4 hw ?_
  intro a1_1 a2_2 a3_3 a4_4 hbs9
  clear hw
  subst hbs9
  have G : zS T A s.heap s [[zO4 h cr inn a1_1 a2_2 a3_3 a4_4], [zAr T 0 a1_1 7 f1], [zAr T 0 a2_2 28 f2], [zAr T 0 a3_3 7 f3], [zAr T 0 a4_4 7 f4]] _ _ := G.re rfl
  have hw_5 : bLand T h cr inn f1 f2 f3 f4 [zO4 h cr inn a1_1 a2_2 a3_3 a4_4, zAr T 0 a1_1 7 f1, zAr T 0 a2_2 28 f2, zAr T 0 a3_3 7 f3, zAr T 0 a4_4 7 f4] := ⟨a1_1, a2_2, a3_3, a4_4, rfl⟩
  have G : zS T A s.heap s [[zO4 h cr inn a1_1 a2_2 a3_3 a4_4, zAr T 0 a1_1 7 f1, zAr T 0 a2_2 28 f2, zAr T 0 a3_3 7 f3, zAr T 0 a4_4 7 f4]] _ _ := G.re rfl
  refine z_lp2 (T := T) 6 (fun (i : Nat) (ui2 : Int32) => [[zO4 h cr inn a1_1 a2_2 a3_3 a4_4, zAr T 0 a1_1 7 f1, zAr T 0 a2_2 28 f2, zAr T 0 a3_3 7 f3, zAr T 0 a4_4 7 f4]]) (fun (i : Nat) (ui2 : Int32) => [(3, .int (nI i)), (2, .int ui2), (0, .ref h), (1, .int x)]) (fun (i : Nat) (ui2 : Int32) => i ≤ 8) (fun (i : Nat) (ui2 : Int32) => 8 - i) ?_ 0 (1 <<< (x &&& 31)) (show 0 ≤ 8 from by omega) G (lv_sub hl [0, 1, 2, 3] rfl)
  intro i ui2 hi ih_6 H locs ls G hl
  replace hi : i ≤ 8 := hi
  replace G : zS T A s.heap s [[zO4 h cr inn a1_1 a2_2 a3_3 a4_4, zAr T 0 a1_1 7 f1, zAr T 0 a2_2 28 f2, zAr T 0 a3_3 7 f3, zAr T 0 a4_4 7 f4]] _ _ := G
  replace hl : lv_has ls 5 [(3, .int (nI i)), (2, .int ui2), (0, .ref h), (1, .int x)] := hl
  refine lv_iload_n hx hb dX8_nearest_6 rfl (lv_at hl 0 rfl) ?_
  refine lv_bipush (v := 7) hx hb dX8_nearest_7 (by decide) ?_
  refine lv_icmp_gt (tgt := 59) hx hb dX8_nearest_9 (by decide) (fun c_6 => ?_) (fun c_6 => ?_)
  · have c_6n : 7 < i := (nI_ltI (a := 7) (b := i) (by omega) (by omega)).mp c_6
    refine lv_iconst (v := (-1)) hx hb dX8_nearest_59 (by decide) ?_
    exact z_back hQz_ (z_iret C hr hlocks G (Nat.le_of_ble_eq_true rfl) (Nat.le_of_ble_eq_true rfl) dX8_nearest_60 rfl)
  · have c_6n : ¬ 7 < i := fun q => c_6 ((nI_ltI (a := 7) (b := i) (by omega) (by omega)).mpr q)
    refine lv_iconst (v := 0) hx hb dX8_nearest_12 (by decide) ?_
    refine lv_istore (lv' := [(4, .int 0), (3, .int (nI i)), (2, .int ui2), (0, .ref h), (1, .int x)]) hx hb dX8_nearest_13 hl (by decide) (zLvf_h rfl) (fun ls hl => ?_)
    have G : zS T A s.heap s [[zO4 h cr inn a1_1 a2_2 a3_3 a4_4], [zAr T 0 a1_1 7 f1], [zAr T 0 a2_2 28 f2], [zAr T 0 a3_3 7 f3], [zAr T 0 a4_4 7 f4]] _ _ := G.re rfl
    have hw_7 : bLand T h cr inn f1 f2 f3 f4 [zO4 h cr inn a1_1 a2_2 a3_3 a4_4, zAr T 0 a1_1 7 f1, zAr T 0 a2_2 28 f2, zAr T 0 a3_3 7 f3, zAr T 0 a4_4 7 f4] := ⟨a1_1, a2_2, a3_3, a4_4, rfl⟩
    have G : zS T A s.heap s [[zO4 h cr inn a1_1 a2_2 a3_3 a4_4, zAr T 0 a1_1 7 f1, zAr T 0 a2_2 28 f2, zAr T 0 a3_3 7 f3, zAr T 0 a4_4 7 f4]] _ _ := G.re rfl
    refine z_lp1 (T := T) 15 (fun (j : Nat) => [[zO4 h cr inn a1_1 a2_2 a3_3 a4_4, zAr T 0 a1_1 7 f1, zAr T 0 a2_2 28 f2, zAr T 0 a3_3 7 f3, zAr T 0 a4_4 7 f4]]) (fun (j : Nat) => [(4, .int (nI j)), (3, .int (nI i)), (2, .int ui2), (0, .ref h), (1, .int x)]) (fun (j : Nat) => j ≤ cr.toInt.toNat) (fun (j : Nat) => cr.toInt.toNat - j) ?_ 0 (show 0 ≤ cr.toInt.toNat from by omega) G (lv_sub hl [0, 1, 2, 3, 4] rfl)
    intro j hj ih_15 H locs ls G hl
    replace hj : j ≤ cr.toInt.toNat := hj
    replace G : zS T A s.heap s [[zO4 h cr inn a1_1 a2_2 a3_3 a4_4, zAr T 0 a1_1 7 f1, zAr T 0 a2_2 28 f2, zAr T 0 a3_3 7 f3, zAr T 0 a4_4 7 f4]] _ _ := G
    replace hl : lv_has ls 5 [(4, .int (nI j)), (3, .int (nI i)), (2, .int ui2), (0, .ref h), (1, .int x)] := hl
    refine lv_iload hx hb dX8_nearest_15 (lv_at hl 0 rfl) ?_
    refine lv_aload_n hx hb dX8_nearest_17 rfl (lv_at hl 3 rfl) ?_
    have G : zS T A s.heap s [[zO4 h cr inn a1_1 a2_2 a3_3 a4_4], [zAr T 0 a1_1 7 f1], [zAr T 0 a2_2 28 f2], [zAr T 0 a3_3 7 f3], [zAr T 0 a4_4 7 f4]] _ _ := G.re rfl
    refine z_get C G clX4 0 rfl 0 (by decide) m_fl_RX8_9 rfl dX8_nearest_18 ?_
    refine lv_icmp_ge (tgt := 47) hx hb dX8_nearest_21 (by decide) (fun c_8 => ?_) (fun c_8 => ?_)
    · have c_8n : cr.toInt ≤ (j : Int) := by have q := (fa_le _ _).mp c_8; rw [nI_toInt (n := j) (by omega)] at q; exact q
      refine lv_aload_n hx hb dX8_nearest_47 rfl (lv_at hl 3 rfl) ?_
      refine lv_iload_n hx hb dX8_nearest_48 rfl (lv_at hl 2 rfl) ?_
      have hw_9 : bLand T h cr inn f1 f2 f3 f4 [zO4 h cr inn a1_1 a2_2 a3_3 a4_4, zAr T 0 a1_1 7 f1, zAr T 0 a2_2 28 f2, zAr T 0 a3_3 7 f3, zAr T 0 a4_4 7 f4] := ⟨a1_1, a2_2, a3_3, a4_4, rfl⟩
      have G : zS T A s.heap s [[zO4 h cr inn a1_1 a2_2 a3_3 a4_4, zAr T 0 a1_1 7 f1, zAr T 0 a2_2 28 f2, zAr T 0 a3_3 7 f3, zAr T 0 a4_4 7 f4]] _ _ := G.re rfl
      refine z_Si (bc := [[zO4 h cr inn a1_1 a2_2 a3_3 a4_4, zAr T 0 a1_1 7 f1, zAr T 0 a2_2 28 f2, zAr T 0 a3_3 7 f3, zAr T 0 a4_4 7 f4]]) (br := []) (As := [.ref h, .int ui2]) (rest := []) C G (c_spread l T h cr inn f1 f2 f3 f4 ([zO4 h cr inn a1_1 a2_2 a3_3 a4_4, zAr T 0 a1_1 7 f1, zAr T 0 a2_2 28 f2, zAr T 0 a3_3 7 f3, zAr T 0 a4_4 7 f4]) ui2 hw_9 (by first | with_reducible assumption | with_reducible rfl | omega | assumption | rfl)) (kS_RX8_23 C.2.2.2.2 (Nat.le_of_ble_eq_true rfl) (Nat.le_of_ble_eq_true rfl)) [0] [0] rfl rfl rfl rfl hl.1 dX8_nearest_49 (Nat.le_of_ble_eq_true rfl) (Nat.le_of_ble_eq_true rfl) (fun r_11 b1 H locs hw G => ?_)
      refine zAn2 hw ?_
      intro hbs9 h_10
      clear hw
      subst hbs9
      have G : zS T A s.heap s [[zO4 h cr inn a1_1 a2_2 a3_3 a4_4, zAr T 0 a1_1 7 f1, zAr T 0 a2_2 28 f2, zAr T 0 a3_3 7 f3, zAr T 0 a4_4 7 f4]] _ _ := G
      subst h_10
      refine lv_istore_n (lv' := [(2, .int (zSpread cr inn f1 f2 ui2)), (4, .int (nI j)), (3, .int (nI i)), (0, .ref h), (1, .int x)]) hx hb dX8_nearest_52 rfl hl (by decide) (zLvf_h rfl) (fun ls hl => ?_)
      refine lv_iinc (v := nI (i + 1)) (lv' := [(3, .int (nI (i + 1))), (2, .int (zSpread cr inn f1 f2 ui2)), (4, .int (nI j)), (0, .ref h), (1, .int x)]) hx hb dX8_nearest_53 hl (k := 2) rfl (z_inc i 1) (by decide) (zLvf_h rfl) (fun ls hl => ?_)
      refine lv_goto (tgt := 6) hx hb dX8_nearest_56 (by decide) ?_
      exact ih_6 (i + 1) (zSpread cr inn f1 f2 ui2) (show (i + 1) ≤ 8 from by omega) (show 8 - (i + 1) < 8 - i from by omega) _ _ ls G (lv_sub hl [0, 1, 3, 4] rfl)
    · have c_8n : ¬ cr.toInt ≤ (j : Int) := fun q => c_8 ((fa_le _ _).mpr (by rw [nI_toInt (n := j) (by omega)]; exact q))
      refine lv_iload_n hx hb dX8_nearest_24 rfl (lv_at hl 2 rfl) ?_
      refine lv_aload_n hx hb dX8_nearest_25 rfl (lv_at hl 3 rfl) ?_
      refine z_get C G clX4 0 rfl 1 (by decide) m_fl_RX8_29 rfl dX8_nearest_26 ?_
      refine lv_iand hx hb dX8_nearest_29 ?_
      refine lv_iload hx hb dX8_nearest_30 (lv_at hl 0 rfl) ?_
      refine lv_ishr hx hb dX8_nearest_32 ?_
      refine lv_iconst (v := 1) hx hb dX8_nearest_33 (by decide) ?_
      refine lv_iand hx hb dX8_nearest_34 ?_
      refine lv_if_eq (tgt := 41) hx hb dX8_nearest_35 (by decide) (fun c_12 => ?_) (fun c_12 => ?_)
      · have c_12n : (((ui2 &&& inn) >>> ((nI j) &&& 31)) &&& 1).toInt = (0 : Int) := (fa_eq _ _).mp c_12
        refine lv_iinc (v := nI (j + 1)) (lv' := [(4, .int (nI (j + 1))), (3, .int (nI i)), (2, .int ui2), (0, .ref h), (1, .int x)]) hx hb dX8_nearest_41 hl (k := 0) rfl (z_inc j 1) (by decide) (zLvf_h rfl) (fun ls hl => ?_)
        refine lv_goto (tgt := 15) hx hb dX8_nearest_44 (by decide) ?_
        have hw_13 : bLand T h cr inn f1 f2 f3 f4 [zO4 h cr inn a1_1 a2_2 a3_3 a4_4, zAr T 0 a1_1 7 f1, zAr T 0 a2_2 28 f2, zAr T 0 a3_3 7 f3, zAr T 0 a4_4 7 f4] := ⟨a1_1, a2_2, a3_3, a4_4, rfl⟩
        have G : zS T A s.heap s [[zO4 h cr inn a1_1 a2_2 a3_3 a4_4, zAr T 0 a1_1 7 f1, zAr T 0 a2_2 28 f2, zAr T 0 a3_3 7 f3, zAr T 0 a4_4 7 f4]] _ _ := G.re rfl
        exact ih_15 (j + 1) (show (j + 1) ≤ cr.toInt.toNat from by omega) (show cr.toInt.toNat - (j + 1) < cr.toInt.toNat - j from by omega) _ _ ls G (lv_sub hl [0, 1, 2, 3, 4] rfl)
      · have c_12n : ¬ (((ui2 &&& inn) >>> ((nI j) &&& 31)) &&& 1).toInt = (0 : Int) := fun q => c_12 ((fa_eq _ _).mpr q)
        refine lv_iload hx hb dX8_nearest_38 (lv_at hl 0 rfl) ?_
        have hw_14 : bLand T h cr inn f1 f2 f3 f4 [zO4 h cr inn a1_1 a2_2 a3_3 a4_4, zAr T 0 a1_1 7 f1, zAr T 0 a2_2 28 f2, zAr T 0 a3_3 7 f3, zAr T 0 a4_4 7 f4] := ⟨a1_1, a2_2, a3_3, a4_4, rfl⟩
        have G : zS T A s.heap s [[zO4 h cr inn a1_1 a2_2 a3_3 a4_4, zAr T 0 a1_1 7 f1, zAr T 0 a2_2 28 f2, zAr T 0 a3_3 7 f3, zAr T 0 a4_4 7 f4]] _ _ := G.re rfl
        exact z_back hQz_ (z_iret C hr hlocks G (Nat.le_of_ble_eq_true rfl) (Nat.le_of_ble_eq_true rfl) dX8_nearest_40 rfl)
set_option maxHeartbeats 4000000 in
set_option maxRecDepth 100000 in
/-- c_inOneClass -/
theorem c_inOneClass (l : Launch) (T : zTy) (h : Nat) (cr : Int32) (inn : Int32) (f1 : Nat → Int32) (f2 : Nat → Int32) (f3 : Nat → Int32) (f4 : Nat → Int32) (w : va_W) (x : Int32) (hw : bLand T h cr inn f1 f2 f3 f4 w) (hI : zLI cr f1 f3) : zMi l T yX8_inOneClass cX8_inOneClass 5 (some .int) 5 0 0 [.ref h, .int x] [w] (fun (r : Int32) bs => bs = [w]) := by
  refine zMi_of (own := RX8) (by decide) rfl (Nat.le_of_ble_eq_true rfl) ?_
  intro p e s m args below meth c A ls C hr hlocks hnm hAe G hl
  refine zHide (fun Qz_ hQz_ => ?_)
  have hx := C.1
  have hb := C.2.1
  have hl : lv_has ls 5 [(0, .ref h), (1, .int x)] := hl
  have hcr := hI.1
  refine lv_aload_n hx hb dX8_inOneClass_0 rfl (lv_at hl 0 rfl) ?_
  refine lv_iload_n hx hb dX8_inOneClass_1 rfl (lv_at hl 1 rfl) ?_
  refine z_Si (bc := [w]) (br := []) (As := [.ref h, .int x]) (rest := []) C G (c_reached l T h cr inn f1 f2 f3 f4 w x hw (by first | with_reducible assumption | with_reducible rfl | omega | assumption | rfl)) (kS_RX8_45 C.2.2.2.2 (Nat.le_of_ble_eq_true rfl) (Nat.le_of_ble_eq_true rfl)) [0] [0] rfl rfl rfl rfl hl.1 dX8_inOneClass_2 (Nat.le_of_ble_eq_true rfl) (Nat.le_of_ble_eq_true rfl) (fun r_2 b1 H locs hw G => ?_)
  refine zAn2 hw ?_
  intro hbs9 h_1
  clear hw
  subst hbs9
  have G : zS T A s.heap s [w] _ _ := G
  subst h_1
  refine lv_istore_n (lv' := [(2, .int (zSeen cr inn f1 f2 (1 <<< (x &&& 31)) 7)), (0, .ref h), (1, .int x)]) hx hb dX8_inOneClass_5 rfl hl (by decide) (zLvf_h rfl) (fun ls hl => ?_)
  refine lv_iconst (v := 0) hx hb dX8_inOneClass_6 (by decide) ?_
  refine lv_istore_n (lv' := [(3, .int 0), (2, .int (zSeen cr inn f1 f2 (1 <<< (x &&& 31)) 7)), (0, .ref h), (1, .int x)]) hx hb dX8_inOneClass_7 rfl hl (by decide) (zLvf_h rfl) (fun ls hl => ?_)
  refine lv_iconst (v := 0) hx hb dX8_inOneClass_8 (by decide) ?_
  refine lv_istore (lv' := [(4, .int 0), (3, .int 0), (2, .int (zSeen cr inn f1 f2 (1 <<< (x &&& 31)) 7)), (0, .ref h), (1, .int x)]) hx hb dX8_inOneClass_9 hl (by decide) (zLvf_h rfl) (fun ls hl => ?_)
  refine zEx4 hw ?_
  intro a1_3 a2_4 a3_5 a4_6 hbs9
  clear hw
  subst hbs9
  have G : zS T A s.heap s [[zO4 h cr inn a1_3 a2_4 a3_5 a4_6], [zAr T 0 a1_3 7 f1], [zAr T 0 a2_4 28 f2], [zAr T 0 a3_5 7 f3], [zAr T 0 a4_6 7 f4]] _ _ := G.re rfl
  have hw_7 : bLand T h cr inn f1 f2 f3 f4 [zO4 h cr inn a1_3 a2_4 a3_5 a4_6, zAr T 0 a1_3 7 f1, zAr T 0 a2_4 28 f2, zAr T 0 a3_5 7 f3, zAr T 0 a4_6 7 f4] := ⟨a1_3, a2_4, a3_5, a4_6, rfl⟩
  have G : zS T A s.heap s [[zO4 h cr inn a1_3 a2_4 a3_5 a4_6, zAr T 0 a1_3 7 f1, zAr T 0 a2_4 28 f2, zAr T 0 a3_5 7 f3, zAr T 0 a4_6 7 f4]] _ _ := G.re rfl
  refine z_lp2 (T := T) 11 (fun (i : Nat) (ui3 : Int32) => [[zO4 h cr inn a1_3 a2_4 a3_5 a4_6, zAr T 0 a1_3 7 f1, zAr T 0 a2_4 28 f2, zAr T 0 a3_5 7 f3, zAr T 0 a4_6 7 f4]]) (fun (i : Nat) (ui3 : Int32) => [(4, .int (nI i)), (3, .int ui3), (2, .int (zSeen cr inn f1 f2 (1 <<< (x &&& 31)) 7)), (0, .ref h), (1, .int x)]) (fun (i : Nat) (ui3 : Int32) => i ≤ cr.toInt.toNat) (fun (i : Nat) (ui3 : Int32) => cr.toInt.toNat - i) ?_ 0 0 (show 0 ≤ cr.toInt.toNat from by omega) G (lv_sub hl [0, 1, 2, 3, 4] rfl)
  intro i ui3 hi ih_11 H locs ls G hl
  replace hi : i ≤ cr.toInt.toNat := hi
  replace G : zS T A s.heap s [[zO4 h cr inn a1_3 a2_4 a3_5 a4_6, zAr T 0 a1_3 7 f1, zAr T 0 a2_4 28 f2, zAr T 0 a3_5 7 f3, zAr T 0 a4_6 7 f4]] _ _ := G
  replace hl : lv_has ls 5 [(4, .int (nI i)), (3, .int ui3), (2, .int (zSeen cr inn f1 f2 (1 <<< (x &&& 31)) 7)), (0, .ref h), (1, .int x)] := hl
  refine lv_iload hx hb dX8_inOneClass_11 (lv_at hl 0 rfl) ?_
  refine lv_aload_n hx hb dX8_inOneClass_13 rfl (lv_at hl 3 rfl) ?_
  have G : zS T A s.heap s [[zO4 h cr inn a1_3 a2_4 a3_5 a4_6], [zAr T 0 a1_3 7 f1], [zAr T 0 a2_4 28 f2], [zAr T 0 a3_5 7 f3], [zAr T 0 a4_6 7 f4]] _ _ := G.re rfl
  refine z_get C G clX4 0 rfl 0 (by decide) m_fl_RX8_9 rfl dX8_inOneClass_14 ?_
  refine lv_icmp_ge (tgt := 55) hx hb dX8_inOneClass_17 (by decide) (fun c_8 => ?_) (fun c_8 => ?_)
  · have c_8n : cr.toInt ≤ (i : Int) := by have q := (fa_le _ _).mp c_8; rw [nI_toInt (n := i) (by omega)] at q; exact q
    refine lv_iload_n hx hb dX8_inOneClass_55 rfl (lv_at hl 1 rfl) ?_
    have hw_9 : bLand T h cr inn f1 f2 f3 f4 [zO4 h cr inn a1_3 a2_4 a3_5 a4_6, zAr T 0 a1_3 7 f1, zAr T 0 a2_4 28 f2, zAr T 0 a3_5 7 f3, zAr T 0 a4_6 7 f4] := ⟨a1_3, a2_4, a3_5, a4_6, rfl⟩
    have G : zS T A s.heap s [[zO4 h cr inn a1_3 a2_4 a3_5 a4_6, zAr T 0 a1_3 7 f1, zAr T 0 a2_4 28 f2, zAr T 0 a3_5 7 f3, zAr T 0 a4_6 7 f4]] _ _ := G.re rfl
    exact z_back hQz_ (z_iret C hr hlocks G (Nat.le_of_ble_eq_true rfl) (Nat.le_of_ble_eq_true rfl) dX8_inOneClass_56 rfl)
  · have c_8n : ¬ cr.toInt ≤ (i : Int) := fun q => c_8 ((fa_le _ _).mpr (by rw [nI_toInt (n := i) (by omega)]; exact q))
    refine lv_iload_n hx hb dX8_inOneClass_20 rfl (lv_at hl 2 rfl) ?_
    refine lv_iload hx hb dX8_inOneClass_21 (lv_at hl 0 rfl) ?_
    refine lv_ishr hx hb dX8_inOneClass_23 ?_
    refine lv_iconst (v := 1) hx hb dX8_inOneClass_24 (by decide) ?_
    refine lv_iand hx hb dX8_inOneClass_25 ?_
    refine lv_if_eq (tgt := 49) hx hb dX8_inOneClass_26 (by decide) (fun c_10 => ?_) (fun c_10 => ?_)
    · have c_10n : (((zSeen cr inn f1 f2 (1 <<< (x &&& 31)) 7) >>> ((nI i) &&& 31)) &&& 1).toInt = (0 : Int) := (fa_eq _ _).mp c_10
      refine lv_iinc (v := nI (i + 1)) (lv' := [(4, .int (nI (i + 1))), (3, .int ui3), (2, .int (zSeen cr inn f1 f2 (1 <<< (x &&& 31)) 7)), (0, .ref h), (1, .int x)]) hx hb dX8_inOneClass_49 hl (k := 0) rfl (z_inc i 1) (by decide) (zLvf_h rfl) (fun ls hl => ?_)
      refine lv_goto (tgt := 11) hx hb dX8_inOneClass_52 (by decide) ?_
      have hw_11 : bLand T h cr inn f1 f2 f3 f4 [zO4 h cr inn a1_3 a2_4 a3_5 a4_6, zAr T 0 a1_3 7 f1, zAr T 0 a2_4 28 f2, zAr T 0 a3_5 7 f3, zAr T 0 a4_6 7 f4] := ⟨a1_3, a2_4, a3_5, a4_6, rfl⟩
      have G : zS T A s.heap s [[zO4 h cr inn a1_3 a2_4 a3_5 a4_6, zAr T 0 a1_3 7 f1, zAr T 0 a2_4 28 f2, zAr T 0 a3_5 7 f3, zAr T 0 a4_6 7 f4]] _ _ := G.re rfl
      exact ih_11 (i + 1) ui3 (show (i + 1) ≤ cr.toInt.toNat from by omega) (show cr.toInt.toNat - (i + 1) < cr.toInt.toNat - i from by omega) _ _ ls G (lv_sub hl [0, 1, 2, 3, 4] rfl)
    · have c_10n : ¬ (((zSeen cr inn f1 f2 (1 <<< (x &&& 31)) 7) >>> ((nI i) &&& 31)) &&& 1).toInt = (0 : Int) := fun q => c_10 ((fa_eq _ _).mpr q)
      refine lv_aload_n hx hb dX8_inOneClass_29 rfl (lv_at hl 3 rfl) ?_
      refine lv_iload hx hb dX8_inOneClass_30 (lv_at hl 0 rfl) ?_
      have hw_12 : bLand T h cr inn f1 f2 f3 f4 [zO4 h cr inn a1_3 a2_4 a3_5 a4_6, zAr T 0 a1_3 7 f1, zAr T 0 a2_4 28 f2, zAr T 0 a3_5 7 f3, zAr T 0 a4_6 7 f4] := ⟨a1_3, a2_4, a3_5, a4_6, rfl⟩
      have G : zS T A s.heap s [[zO4 h cr inn a1_3 a2_4 a3_5 a4_6, zAr T 0 a1_3 7 f1, zAr T 0 a2_4 28 f2, zAr T 0 a3_5 7 f3, zAr T 0 a4_6 7 f4]] _ _ := G.re rfl
      refine z_Si (bc := [[zO4 h cr inn a1_3 a2_4 a3_5 a4_6, zAr T 0 a1_3 7 f1, zAr T 0 a2_4 28 f2, zAr T 0 a3_5 7 f3, zAr T 0 a4_6 7 f4]]) (br := []) (As := [.ref h, .int (nI i)]) (rest := []) C G (c_reached l T h cr inn f1 f2 f3 f4 ([zO4 h cr inn a1_3 a2_4 a3_5 a4_6, zAr T 0 a1_3 7 f1, zAr T 0 a2_4 28 f2, zAr T 0 a3_5 7 f3, zAr T 0 a4_6 7 f4]) (nI i) hw_12 (by first | with_reducible assumption | with_reducible rfl | omega | assumption | rfl)) (kS_RX8_45 C.2.2.2.2 (Nat.le_of_ble_eq_true rfl) (Nat.le_of_ble_eq_true rfl)) [0] [0] rfl rfl rfl rfl hl.1 dX8_inOneClass_32 (Nat.le_of_ble_eq_true rfl) (Nat.le_of_ble_eq_true rfl) (fun r_14 b1 H locs hw G => ?_)
      refine zAn2 hw ?_
      intro hbs9 h_13
      clear hw
      subst hbs9
      have G : zS T A s.heap s [[zO4 h cr inn a1_3 a2_4 a3_5 a4_6, zAr T 0 a1_3 7 f1, zAr T 0 a2_4 28 f2, zAr T 0 a3_5 7 f3, zAr T 0 a4_6 7 f4]] _ _ := G
      subst h_13
      refine lv_iload_n hx hb dX8_inOneClass_35 rfl (lv_at hl 4 rfl) ?_
      refine lv_ishr hx hb dX8_inOneClass_36 ?_
      refine lv_iconst (v := 1) hx hb dX8_inOneClass_37 (by decide) ?_
      refine lv_iand hx hb dX8_inOneClass_38 ?_
      refine lv_if_eq (tgt := 49) hx hb dX8_inOneClass_39 (by decide) (fun c_15 => ?_) (fun c_15 => ?_)
      · have c_15n : (((zSeen cr inn f1 f2 (1 <<< ((nI i) &&& 31)) 7) >>> (x &&& 31)) &&& 1).toInt = (0 : Int) := (fa_eq _ _).mp c_15
        refine lv_iinc (v := nI (i + 1)) (lv' := [(4, .int (nI (i + 1))), (3, .int ui3), (2, .int (zSeen cr inn f1 f2 (1 <<< (x &&& 31)) 7)), (0, .ref h), (1, .int x)]) hx hb dX8_inOneClass_49 hl (k := 0) rfl (z_inc i 1) (by decide) (zLvf_h rfl) (fun ls hl => ?_)
        refine lv_goto (tgt := 11) hx hb dX8_inOneClass_52 (by decide) ?_
        exact ih_11 (i + 1) ui3 (show (i + 1) ≤ cr.toInt.toNat from by omega) (show cr.toInt.toNat - (i + 1) < cr.toInt.toNat - i from by omega) _ _ ls G (lv_sub hl [0, 1, 2, 3, 4] rfl)
      · have c_15n : ¬ (((zSeen cr inn f1 f2 (1 <<< ((nI i) &&& 31)) 7) >>> (x &&& 31)) &&& 1).toInt = (0 : Int) := fun q => c_15 ((fa_eq _ _).mpr q)
        refine lv_iload_n hx hb dX8_inOneClass_42 rfl (lv_at hl 1 rfl) ?_
        refine lv_iconst (v := 1) hx hb dX8_inOneClass_43 (by decide) ?_
        refine lv_iload hx hb dX8_inOneClass_44 (lv_at hl 0 rfl) ?_
        refine lv_ishl hx hb dX8_inOneClass_46 ?_
        refine lv_ior hx hb dX8_inOneClass_47 ?_
        refine lv_istore_n (lv' := [(3, .int (ui3 ||| (1 <<< ((nI i) &&& 31)))), (4, .int (nI i)), (2, .int (zSeen cr inn f1 f2 (1 <<< (x &&& 31)) 7)), (0, .ref h), (1, .int x)]) hx hb dX8_inOneClass_48 rfl hl (by decide) (zLvf_h rfl) (fun ls hl => ?_)
        refine lv_iinc (v := nI (i + 1)) (lv' := [(4, .int (nI (i + 1))), (3, .int (ui3 ||| (1 <<< ((nI i) &&& 31)))), (2, .int (zSeen cr inn f1 f2 (1 <<< (x &&& 31)) 7)), (0, .ref h), (1, .int x)]) hx hb dX8_inOneClass_49 hl (k := 1) rfl (z_inc i 1) (by decide) (zLvf_h rfl) (fun ls hl => ?_)
        refine lv_goto (tgt := 11) hx hb dX8_inOneClass_52 (by decide) ?_
        exact ih_11 (i + 1) (ui3 ||| (1 <<< ((nI i) &&& 31))) (show (i + 1) ≤ cr.toInt.toNat from by omega) (show cr.toInt.toNat - (i + 1) < cr.toInt.toNat - i from by omega) _ _ ls G (lv_sub hl [0, 1, 2, 3, 4] rfl)
set_option maxHeartbeats 4000000 in
set_option maxRecDepth 100000 in
/-- c_howManyLead -/
theorem c_howManyLead (l : Launch) (T : zTy) (h : Nat) (cr : Int32) (inn : Int32) (f1 : Nat → Int32) (f2 : Nat → Int32) (f3 : Nat → Int32) (f4 : Nat → Int32) (w : va_W) (x : Int32) (y : Int32) (hw : bLand T h cr inn f1 f2 f3 f4 w) (hI : zLI cr f1 f3) : zMi l T yX8_howManyLead cX8_howManyLead 5 (some .int) 3 0 0 [.ref h, .int x, .int y] [w] (fun (r : Int32) bs => bs = [w]) := by
  refine zMi_of (own := RX8) (by decide) rfl (Nat.le_of_ble_eq_true rfl) ?_
  intro p e s m args below meth c A ls C hr hlocks hnm hAe G hl
  refine zHide (fun Qz_ hQz_ => ?_)
  have hx := C.1
  have hb := C.2.1
  have hl : lv_has ls 5 [(0, .ref h), (1, .int x), (2, .int y)] := hl
  have hcr := hI.1
  refine lv_iconst (v := 0) hx hb dX8_howManyLead_0 (by decide) ?_
  refine lv_istore_n (lv' := [(3, .int 0), (0, .ref h), (1, .int x), (2, .int y)]) hx hb dX8_howManyLead_1 rfl hl (by decide) (zLvf_h rfl) (fun ls hl => ?_)
  have hwl := zWays_le (inn := inn) hI x
  refine lv_iconst (v := 0) hx hb dX8_howManyLead_2 (by decide) ?_
  refine lv_istore (lv' := [(4, .int 0), (3, .int 0), (0, .ref h), (1, .int x), (2, .int y)]) hx hb dX8_howManyLead_3 hl (by decide) (zLvf_h rfl) (fun ls hl => ?_)
  refine zEx4 hw ?_
  intro a1_1 a2_2 a3_3 a4_4 hbs9
  clear hw
  subst hbs9
  have G : zS T A s.heap s [[zO4 h cr inn a1_1 a2_2 a3_3 a4_4], [zAr T 0 a1_1 7 f1], [zAr T 0 a2_2 28 f2], [zAr T 0 a3_3 7 f3], [zAr T 0 a4_4 7 f4]] _ _ := G.re rfl
  have hw_5 : bLand T h cr inn f1 f2 f3 f4 [zO4 h cr inn a1_1 a2_2 a3_3 a4_4, zAr T 0 a1_1 7 f1, zAr T 0 a2_2 28 f2, zAr T 0 a3_3 7 f3, zAr T 0 a4_4 7 f4] := ⟨a1_1, a2_2, a3_3, a4_4, rfl⟩
  have G : zS T A s.heap s [[zO4 h cr inn a1_1 a2_2 a3_3 a4_4, zAr T 0 a1_1 7 f1, zAr T 0 a2_2 28 f2, zAr T 0 a3_3 7 f3, zAr T 0 a4_4 7 f4]] _ _ := G.re rfl
  refine z_lp2 (T := T) 5 (fun (i : Nat) (u : Int32) => [[zO4 h cr inn a1_1 a2_2 a3_3 a4_4, zAr T 0 a1_1 7 f1, zAr T 0 a2_2 28 f2, zAr T 0 a3_3 7 f3, zAr T 0 a4_4 7 f4]]) (fun (i : Nat) (u : Int32) => [(4, .int (nI i)), (3, .int u), (0, .ref h), (1, .int x), (2, .int y)]) (fun (i : Nat) (u : Int32) => i ≤ (zWays cr inn f1 x).toInt.toNat) (fun (i : Nat) (u : Int32) => (zWays cr inn f1 x).toInt.toNat - i) ?_ 0 0 (show 0 ≤ (zWays cr inn f1 x).toInt.toNat from by omega) G (lv_sub hl [0, 1, 2, 3, 4] rfl)
  intro i u hi ih_5 H locs ls G hl
  replace hi : i ≤ (zWays cr inn f1 x).toInt.toNat := hi
  replace G : zS T A s.heap s [[zO4 h cr inn a1_1 a2_2 a3_3 a4_4, zAr T 0 a1_1 7 f1, zAr T 0 a2_2 28 f2, zAr T 0 a3_3 7 f3, zAr T 0 a4_4 7 f4]] _ _ := G
  replace hl : lv_has ls 5 [(4, .int (nI i)), (3, .int u), (0, .ref h), (1, .int x), (2, .int y)] := hl
  refine lv_iload hx hb dX8_howManyLead_5 (lv_at hl 0 rfl) ?_
  refine lv_aload_n hx hb dX8_howManyLead_7 rfl (lv_at hl 2 rfl) ?_
  refine lv_iload_n hx hb dX8_howManyLead_8 rfl (lv_at hl 3 rfl) ?_
  refine z_Vi (bc := [[zO4 h cr inn a1_1 a2_2 a3_3 a4_4, zAr T 0 a1_1 7 f1, zAr T 0 a2_2 28 f2, zAr T 0 a3_3 7 f3, zAr T 0 a4_4 7 f4]]) (br := []) (As := [.int x]) (rest := [.int (nI i)]) C G (c_waysOut l T h cr inn f1 f2 f3 f4 ([zO4 h cr inn a1_1 a2_2 a3_3 a4_4, zAr T 0 a1_1 7 f1, zAr T 0 a2_2 28 f2, zAr T 0 a3_3 7 f3, zAr T 0 a4_4 7 f4]) x hw_5) (kV_RX8_15 C.2.2.2.2 (Nat.le_of_ble_eq_true rfl) (Nat.le_of_ble_eq_true rfl)) [0] [0] rfl rfl (ci := 4) (qc := (RX4, TX4, 6)) rfl rfl (List.mem_flatten.mpr ⟨_, List.mem_of_getElem? (i := 0) rfl, (bLand_mem hw_5).choose_spec⟩) rfl rfl hl.1 dX8_howManyLead_9 (Nat.le_of_ble_eq_true rfl) (Nat.le_of_ble_eq_true rfl) (fun r_7 b1 H locs hw G => ?_)
  refine zAn2 hw ?_
  intro hbs9 h_6
  clear hw
  subst hbs9
  have G : zS T A s.heap s [[zO4 h cr inn a1_1 a2_2 a3_3 a4_4, zAr T 0 a1_1 7 f1, zAr T 0 a2_2 28 f2, zAr T 0 a3_3 7 f3, zAr T 0 a4_4 7 f4]] _ _ := G
  subst h_6
  refine lv_icmp_ge (tgt := 40) hx hb dX8_howManyLead_12 (by decide) (fun c_8 => ?_) (fun c_8 => ?_)
  · have c_8n : (zWays cr inn f1 x).toInt ≤ (i : Int) := by have q := (fa_le _ _).mp c_8; rw [nI_toInt (n := i) (by omega)] at q; exact q
    refine lv_iload_n hx hb dX8_howManyLead_40 rfl (lv_at hl 1 rfl) ?_
    exact z_back hQz_ (z_iret C hr hlocks G (Nat.le_of_ble_eq_true rfl) (Nat.le_of_ble_eq_true rfl) dX8_howManyLead_41 rfl)
  · have c_8n : ¬ (zWays cr inn f1 x).toInt ≤ (i : Int) := fun q => c_8 ((fa_le _ _).mpr (by rw [nI_toInt (n := i) (by omega)]; exact q))
    refine lv_iload_n hx hb dX8_howManyLead_15 rfl (lv_at hl 1 rfl) ?_
    refine lv_aload_n hx hb dX8_howManyLead_16 rfl (lv_at hl 2 rfl) ?_
    refine lv_iload_n hx hb dX8_howManyLead_17 rfl (lv_at hl 3 rfl) ?_
    refine lv_iload hx hb dX8_howManyLead_18 (lv_at hl 0 rfl) ?_
    refine z_Vi (bc := [[zO4 h cr inn a1_1 a2_2 a3_3 a4_4, zAr T 0 a1_1 7 f1, zAr T 0 a2_2 28 f2, zAr T 0 a3_3 7 f3, zAr T 0 a4_4 7 f4]]) (br := []) (As := [.int x, .int (nI i)]) (rest := [.int u]) C G (c_target l T h cr inn f1 f2 f3 f4 ([zO4 h cr inn a1_1 a2_2 a3_3 a4_4, zAr T 0 a1_1 7 f1, zAr T 0 a2_2 28 f2, zAr T 0 a3_3 7 f3, zAr T 0 a4_4 7 f4]) x (nI i) hw_5) (kV_RX8_19 C.2.2.2.2 (Nat.le_of_ble_eq_true rfl) (Nat.le_of_ble_eq_true rfl)) [0] [0] rfl rfl (ci := 4) (qc := (RX4, TX4, 6)) rfl rfl (List.mem_flatten.mpr ⟨_, List.mem_of_getElem? (i := 0) rfl, (bLand_mem hw_5).choose_spec⟩) rfl rfl hl.1 dX8_howManyLead_20 (Nat.le_of_ble_eq_true rfl) (Nat.le_of_ble_eq_true rfl) (fun r_10 b1 H locs hw G => ?_)
    refine zAn2 hw ?_
    intro hbs9 h_9
    clear hw
    subst hbs9
    have G : zS T A s.heap s [[zO4 h cr inn a1_1 a2_2 a3_3 a4_4, zAr T 0 a1_1 7 f1, zAr T 0 a2_2 28 f2, zAr T 0 a3_3 7 f3, zAr T 0 a4_4 7 f4]] _ _ := G
    subst h_9
    refine lv_iload_n hx hb dX8_howManyLead_23 rfl (lv_at hl 4 rfl) ?_
    refine lv_icmp_ne (tgt := 31) hx hb dX8_howManyLead_24 (by decide) (fun c_11 => ?_) (fun c_11 => ?_)
    · have c_11n : ¬ (zTarget cr f1 f2 x (nI i)).toInt = y.toInt := fun q => c_11 ((fa_eq _ _).mpr q)
      refine lv_iconst (v := 0) hx hb dX8_howManyLead_31 (by decide) ?_
      refine lv_iadd hx hb dX8_howManyLead_32 ?_
      refine lv_istore_n (lv' := [(3, .int (u + 0)), (4, .int (nI i)), (0, .ref h), (1, .int x), (2, .int y)]) hx hb dX8_howManyLead_33 rfl hl (by decide) (zLvf_h rfl) (fun ls hl => ?_)
      refine lv_iinc (v := nI (i + 1)) (lv' := [(4, .int (nI (i + 1))), (3, .int (u + 0)), (0, .ref h), (1, .int x), (2, .int y)]) hx hb dX8_howManyLead_34 hl (k := 1) rfl (z_inc i 1) (by decide) (zLvf_h rfl) (fun ls hl => ?_)
      refine lv_goto (tgt := 5) hx hb dX8_howManyLead_37 (by decide) ?_
      exact ih_5 (i + 1) (u + 0) (show (i + 1) ≤ (zWays cr inn f1 x).toInt.toNat from by omega) (show (zWays cr inn f1 x).toInt.toNat - (i + 1) < (zWays cr inn f1 x).toInt.toNat - i from by omega) _ _ ls G (lv_sub hl [0, 1, 2, 3, 4] rfl)
    · have c_11n : (zTarget cr f1 f2 x (nI i)).toInt = y.toInt := (fa_eq _ _).mp c_11
      refine lv_iconst (v := 1) hx hb dX8_howManyLead_27 (by decide) ?_
      refine lv_goto (tgt := 32) hx hb dX8_howManyLead_28 (by decide) ?_
      refine lv_iadd hx hb dX8_howManyLead_32 ?_
      refine lv_istore_n (lv' := [(3, .int (u + 1)), (4, .int (nI i)), (0, .ref h), (1, .int x), (2, .int y)]) hx hb dX8_howManyLead_33 rfl hl (by decide) (zLvf_h rfl) (fun ls hl => ?_)
      refine lv_iinc (v := nI (i + 1)) (lv' := [(4, .int (nI (i + 1))), (3, .int (u + 1)), (0, .ref h), (1, .int x), (2, .int y)]) hx hb dX8_howManyLead_34 hl (k := 1) rfl (z_inc i 1) (by decide) (zLvf_h rfl) (fun ls hl => ?_)
      refine lv_goto (tgt := 5) hx hb dX8_howManyLead_37 (by decide) ?_
      exact ih_5 (i + 1) (u + 1) (show (i + 1) ≤ (zWays cr inn f1 x).toInt.toNat from by omega) (show (zWays cr inn f1 x).toInt.toNat - (i + 1) < (zWays cr inn f1 x).toInt.toNat - i from by omega) _ _ ls G (lv_sub hl [0, 1, 2, 3, 4] rfl)
set_option maxHeartbeats 4000000 in
set_option maxRecDepth 100000 in
/-- c_howManyLeadTo -/
theorem c_howManyLeadTo (l : Launch) (T : zTy) (h : Nat) (cr : Int32) (inn : Int32) (f1 : Nat → Int32) (f2 : Nat → Int32) (f3 : Nat → Int32) (f4 : Nat → Int32) (w : va_W) (x : Int32) (hw : bLand T h cr inn f1 f2 f3 f4 w) (hI : zLI cr f1 f3) : zMi l T yX8_howManyLeadTo cX8_howManyLeadTo 4 (some .int) 4 0 0 [.ref h, .int x] [w] (fun (r : Int32) bs => bs = [w]) := by
  refine zMi_of (own := RX8) (by decide) rfl (Nat.le_of_ble_eq_true rfl) ?_
  intro p e s m args below meth c A ls C hr hlocks hnm hAe G hl
  refine zHide (fun Qz_ hQz_ => ?_)
  have hx := C.1
  have hb := C.2.1
  have hl : lv_has ls 4 [(0, .ref h), (1, .int x)] := hl
  have hcr := hI.1
  refine lv_iconst (v := 0) hx hb dX8_howManyLeadTo_0 (by decide) ?_
  refine lv_istore_n (lv' := [(2, .int 0), (0, .ref h), (1, .int x)]) hx hb dX8_howManyLeadTo_1 rfl hl (by decide) (zLvf_h rfl) (fun ls hl => ?_)
  refine lv_iconst (v := 0) hx hb dX8_howManyLeadTo_2 (by decide) ?_
  refine lv_istore_n (lv' := [(3, .int 0), (2, .int 0), (0, .ref h), (1, .int x)]) hx hb dX8_howManyLeadTo_3 rfl hl (by decide) (zLvf_h rfl) (fun ls hl => ?_)
  refine zEx4 hw ?_
  intro a1_1 a2_2 a3_3 a4_4 hbs9
  clear hw
  subst hbs9
  have G : zS T A s.heap s [[zO4 h cr inn a1_1 a2_2 a3_3 a4_4], [zAr T 0 a1_1 7 f1], [zAr T 0 a2_2 28 f2], [zAr T 0 a3_3 7 f3], [zAr T 0 a4_4 7 f4]] _ _ := G.re rfl
  have hw_5 : bLand T h cr inn f1 f2 f3 f4 [zO4 h cr inn a1_1 a2_2 a3_3 a4_4, zAr T 0 a1_1 7 f1, zAr T 0 a2_2 28 f2, zAr T 0 a3_3 7 f3, zAr T 0 a4_4 7 f4] := ⟨a1_1, a2_2, a3_3, a4_4, rfl⟩
  have G : zS T A s.heap s [[zO4 h cr inn a1_1 a2_2 a3_3 a4_4, zAr T 0 a1_1 7 f1, zAr T 0 a2_2 28 f2, zAr T 0 a3_3 7 f3, zAr T 0 a4_4 7 f4]] _ _ := G.re rfl
  refine z_lp2 (T := T) 4 (fun (i : Nat) (ui2 : Int32) => [[zO4 h cr inn a1_1 a2_2 a3_3 a4_4, zAr T 0 a1_1 7 f1, zAr T 0 a2_2 28 f2, zAr T 0 a3_3 7 f3, zAr T 0 a4_4 7 f4]]) (fun (i : Nat) (ui2 : Int32) => [(3, .int (nI i)), (2, .int ui2), (0, .ref h), (1, .int x)]) (fun (i : Nat) (ui2 : Int32) => i ≤ cr.toInt.toNat) (fun (i : Nat) (ui2 : Int32) => cr.toInt.toNat - i) ?_ 0 0 (show 0 ≤ cr.toInt.toNat from by omega) G (lv_sub hl [0, 1, 2, 3] rfl)
  intro i ui2 hi ih_4 H locs ls G hl
  replace hi : i ≤ cr.toInt.toNat := hi
  replace G : zS T A s.heap s [[zO4 h cr inn a1_1 a2_2 a3_3 a4_4, zAr T 0 a1_1 7 f1, zAr T 0 a2_2 28 f2, zAr T 0 a3_3 7 f3, zAr T 0 a4_4 7 f4]] _ _ := G
  replace hl : lv_has ls 4 [(3, .int (nI i)), (2, .int ui2), (0, .ref h), (1, .int x)] := hl
  refine lv_iload_n hx hb dX8_howManyLeadTo_4 rfl (lv_at hl 0 rfl) ?_
  refine lv_aload_n hx hb dX8_howManyLeadTo_5 rfl (lv_at hl 2 rfl) ?_
  have G : zS T A s.heap s [[zO4 h cr inn a1_1 a2_2 a3_3 a4_4], [zAr T 0 a1_1 7 f1], [zAr T 0 a2_2 28 f2], [zAr T 0 a3_3 7 f3], [zAr T 0 a4_4 7 f4]] _ _ := G.re rfl
  refine z_get C G clX4 0 rfl 0 (by decide) m_fl_RX8_9 rfl dX8_howManyLeadTo_6 ?_
  refine lv_icmp_ge (tgt := 27) hx hb dX8_howManyLeadTo_9 (by decide) (fun c_6 => ?_) (fun c_6 => ?_)
  · have c_6n : cr.toInt ≤ (i : Int) := by have q := (fa_le _ _).mp c_6; rw [nI_toInt (n := i) (by omega)] at q; exact q
    refine lv_iload_n hx hb dX8_howManyLeadTo_27 rfl (lv_at hl 1 rfl) ?_
    have hw_7 : bLand T h cr inn f1 f2 f3 f4 [zO4 h cr inn a1_1 a2_2 a3_3 a4_4, zAr T 0 a1_1 7 f1, zAr T 0 a2_2 28 f2, zAr T 0 a3_3 7 f3, zAr T 0 a4_4 7 f4] := ⟨a1_1, a2_2, a3_3, a4_4, rfl⟩
    have G : zS T A s.heap s [[zO4 h cr inn a1_1 a2_2 a3_3 a4_4, zAr T 0 a1_1 7 f1, zAr T 0 a2_2 28 f2, zAr T 0 a3_3 7 f3, zAr T 0 a4_4 7 f4]] _ _ := G.re rfl
    exact z_back hQz_ (z_iret C hr hlocks G (Nat.le_of_ble_eq_true rfl) (Nat.le_of_ble_eq_true rfl) dX8_howManyLeadTo_28 rfl)
  · have c_6n : ¬ cr.toInt ≤ (i : Int) := fun q => c_6 ((fa_le _ _).mpr (by rw [nI_toInt (n := i) (by omega)]; exact q))
    refine lv_iload_n hx hb dX8_howManyLeadTo_12 rfl (lv_at hl 1 rfl) ?_
    refine lv_aload_n hx hb dX8_howManyLeadTo_13 rfl (lv_at hl 2 rfl) ?_
    refine lv_iload_n hx hb dX8_howManyLeadTo_14 rfl (lv_at hl 0 rfl) ?_
    refine lv_iload_n hx hb dX8_howManyLeadTo_15 rfl (lv_at hl 3 rfl) ?_
    have hw_8 : bLand T h cr inn f1 f2 f3 f4 [zO4 h cr inn a1_1 a2_2 a3_3 a4_4, zAr T 0 a1_1 7 f1, zAr T 0 a2_2 28 f2, zAr T 0 a3_3 7 f3, zAr T 0 a4_4 7 f4] := ⟨a1_1, a2_2, a3_3, a4_4, rfl⟩
    have G : zS T A s.heap s [[zO4 h cr inn a1_1 a2_2 a3_3 a4_4, zAr T 0 a1_1 7 f1, zAr T 0 a2_2 28 f2, zAr T 0 a3_3 7 f3, zAr T 0 a4_4 7 f4]] _ _ := G.re rfl
    refine z_Si (bc := [[zO4 h cr inn a1_1 a2_2 a3_3 a4_4, zAr T 0 a1_1 7 f1, zAr T 0 a2_2 28 f2, zAr T 0 a3_3 7 f3, zAr T 0 a4_4 7 f4]]) (br := []) (As := [.ref h, .int (nI i), .int x]) (rest := [.int ui2]) C G (c_howManyLead l T h cr inn f1 f2 f3 f4 ([zO4 h cr inn a1_1 a2_2 a3_3 a4_4, zAr T 0 a1_1 7 f1, zAr T 0 a2_2 28 f2, zAr T 0 a3_3 7 f3, zAr T 0 a4_4 7 f4]) (nI i) x hw_8 (by first | with_reducible assumption | with_reducible rfl | omega | assumption | rfl)) (kS_RX8_52 C.2.2.2.2 (Nat.le_of_ble_eq_true rfl) (Nat.le_of_ble_eq_true rfl)) [0] [0] rfl rfl rfl rfl hl.1 dX8_howManyLeadTo_16 (Nat.le_of_ble_eq_true rfl) (Nat.le_of_ble_eq_true rfl) (fun r_9 b1 H locs hw G => ?_)
    obtain rfl := hw
    have G : zS T A s.heap s [[zO4 h cr inn a1_1 a2_2 a3_3 a4_4, zAr T 0 a1_1 7 f1, zAr T 0 a2_2 28 f2, zAr T 0 a3_3 7 f3, zAr T 0 a4_4 7 f4]] _ _ := G
    refine lv_iadd hx hb dX8_howManyLeadTo_19 ?_
    refine lv_istore_n (lv' := [(2, .int (ui2 + r_9)), (3, .int (nI i)), (0, .ref h), (1, .int x)]) hx hb dX8_howManyLeadTo_20 rfl hl (by decide) (zLvf_h rfl) (fun ls hl => ?_)
    refine lv_iinc (v := nI (i + 1)) (lv' := [(3, .int (nI (i + 1))), (2, .int (ui2 + r_9)), (0, .ref h), (1, .int x)]) hx hb dX8_howManyLeadTo_21 hl (k := 1) rfl (z_inc i 1) (by decide) (zLvf_h rfl) (fun ls hl => ?_)
    refine lv_goto (tgt := 4) hx hb dX8_howManyLeadTo_24 (by decide) ?_
    exact ih_4 (i + 1) (ui2 + r_9) (show (i + 1) ≤ cr.toInt.toNat from by omega) (show cr.toInt.toNat - (i + 1) < cr.toInt.toNat - i from by omega) _ _ ls G (lv_sub hl [0, 1, 2, 3] rfl)
set_option maxHeartbeats 4000000 in
set_option maxRecDepth 100000 in
/-- c_heads -/
theorem c_heads (l : Launch) (T : zTy) (h : Nat) (cr : Int32) (inn : Int32) (f1 : Nat → Int32) (f2 : Nat → Int32) (f3 : Nat → Int32) (f4 : Nat → Int32) (w : va_W) (hw : bLand T h cr inn f1 f2 f3 f4 w) (hI : zLI cr f1 f3) : zMi l T yX8_heads cX8_heads 3 (some .int) 4 0 0 [.ref h] [w] (fun (r : Int32) bs => bs = [w]) := by
  refine zMi_of (own := RX8) (by decide) rfl (Nat.le_of_ble_eq_true rfl) ?_
  intro p e s m args below meth c A ls C hr hlocks hnm hAe G hl
  refine zHide (fun Qz_ hQz_ => ?_)
  have hx := C.1
  have hb := C.2.1
  have hl : lv_has ls 3 [(0, .ref h)] := hl
  have hcr := hI.1
  refine lv_iconst (v := 0) hx hb dX8_heads_0 (by decide) ?_
  refine lv_istore_n (lv' := [(1, .int 0), (0, .ref h)]) hx hb dX8_heads_1 rfl hl (by decide) (zLvf_h rfl) (fun ls hl => ?_)
  refine lv_iconst (v := 0) hx hb dX8_heads_2 (by decide) ?_
  refine lv_istore_n (lv' := [(2, .int 0), (1, .int 0), (0, .ref h)]) hx hb dX8_heads_3 rfl hl (by decide) (zLvf_h rfl) (fun ls hl => ?_)
  refine zEx4 hw ?_
  intro a1_1 a2_2 a3_3 a4_4 hbs9
  clear hw
  subst hbs9
  have G : zS T A s.heap s [[zO4 h cr inn a1_1 a2_2 a3_3 a4_4], [zAr T 0 a1_1 7 f1], [zAr T 0 a2_2 28 f2], [zAr T 0 a3_3 7 f3], [zAr T 0 a4_4 7 f4]] _ _ := G.re rfl
  have hw_5 : bLand T h cr inn f1 f2 f3 f4 [zO4 h cr inn a1_1 a2_2 a3_3 a4_4, zAr T 0 a1_1 7 f1, zAr T 0 a2_2 28 f2, zAr T 0 a3_3 7 f3, zAr T 0 a4_4 7 f4] := ⟨a1_1, a2_2, a3_3, a4_4, rfl⟩
  have G : zS T A s.heap s [[zO4 h cr inn a1_1 a2_2 a3_3 a4_4, zAr T 0 a1_1 7 f1, zAr T 0 a2_2 28 f2, zAr T 0 a3_3 7 f3, zAr T 0 a4_4 7 f4]] _ _ := G.re rfl
  refine z_lp2 (T := T) 4 (fun (i : Nat) (ui1 : Int32) => [[zO4 h cr inn a1_1 a2_2 a3_3 a4_4, zAr T 0 a1_1 7 f1, zAr T 0 a2_2 28 f2, zAr T 0 a3_3 7 f3, zAr T 0 a4_4 7 f4]]) (fun (i : Nat) (ui1 : Int32) => [(2, .int (nI i)), (1, .int ui1), (0, .ref h)]) (fun (i : Nat) (ui1 : Int32) => i ≤ cr.toInt.toNat) (fun (i : Nat) (ui1 : Int32) => cr.toInt.toNat - i) ?_ 0 0 (show 0 ≤ cr.toInt.toNat from by omega) G (lv_sub hl [0, 1, 2] rfl)
  intro i ui1 hi ih_4 H locs ls G hl
  replace hi : i ≤ cr.toInt.toNat := hi
  replace G : zS T A s.heap s [[zO4 h cr inn a1_1 a2_2 a3_3 a4_4, zAr T 0 a1_1 7 f1, zAr T 0 a2_2 28 f2, zAr T 0 a3_3 7 f3, zAr T 0 a4_4 7 f4]] _ _ := G
  replace hl : lv_has ls 3 [(2, .int (nI i)), (1, .int ui1), (0, .ref h)] := hl
  refine lv_iload_n hx hb dX8_heads_4 rfl (lv_at hl 0 rfl) ?_
  refine lv_aload_n hx hb dX8_heads_5 rfl (lv_at hl 2 rfl) ?_
  have G : zS T A s.heap s [[zO4 h cr inn a1_1 a2_2 a3_3 a4_4], [zAr T 0 a1_1 7 f1], [zAr T 0 a2_2 28 f2], [zAr T 0 a3_3 7 f3], [zAr T 0 a4_4 7 f4]] _ _ := G.re rfl
  refine z_get C G clX4 0 rfl 0 (by decide) m_fl_RX8_9 rfl dX8_heads_6 ?_
  refine lv_icmp_ge (tgt := 34) hx hb dX8_heads_9 (by decide) (fun c_6 => ?_) (fun c_6 => ?_)
  · have c_6n : cr.toInt ≤ (i : Int) := by have q := (fa_le _ _).mp c_6; rw [nI_toInt (n := i) (by omega)] at q; exact q
    refine lv_iload_n hx hb dX8_heads_34 rfl (lv_at hl 1 rfl) ?_
    refine lv_iconst (v := (-1)) hx hb dX8_heads_35 (by decide) ?_
    refine lv_ixor hx hb dX8_heads_36 ?_
    refine lv_iconst (v := 1) hx hb dX8_heads_37 (by decide) ?_
    refine lv_aload_n hx hb dX8_heads_38 rfl (lv_at hl 2 rfl) ?_
    refine z_get C G clX4 0 rfl 0 (by decide) m_fl_RX8_9 rfl dX8_heads_39 ?_
    refine lv_ishl hx hb dX8_heads_42 ?_
    refine lv_iconst (v := 1) hx hb dX8_heads_43 (by decide) ?_
    refine lv_isub hx hb dX8_heads_44 ?_
    refine lv_iand hx hb dX8_heads_45 ?_
    have hw_7 : bLand T h cr inn f1 f2 f3 f4 [zO4 h cr inn a1_1 a2_2 a3_3 a4_4, zAr T 0 a1_1 7 f1, zAr T 0 a2_2 28 f2, zAr T 0 a3_3 7 f3, zAr T 0 a4_4 7 f4] := ⟨a1_1, a2_2, a3_3, a4_4, rfl⟩
    have G : zS T A s.heap s [[zO4 h cr inn a1_1 a2_2 a3_3 a4_4, zAr T 0 a1_1 7 f1, zAr T 0 a2_2 28 f2, zAr T 0 a3_3 7 f3, zAr T 0 a4_4 7 f4]] _ _ := G.re rfl
    exact z_back hQz_ (z_iret C hr hlocks G (Nat.le_of_ble_eq_true rfl) (Nat.le_of_ble_eq_true rfl) dX8_heads_46 rfl)
  · have c_6n : ¬ cr.toInt ≤ (i : Int) := fun q => c_6 ((fa_le _ _).mpr (by rw [nI_toInt (n := i) (by omega)]; exact q))
    refine lv_iload_n hx hb dX8_heads_12 rfl (lv_at hl 1 rfl) ?_
    refine lv_aload_n hx hb dX8_heads_13 rfl (lv_at hl 2 rfl) ?_
    refine lv_iconst (v := 1) hx hb dX8_heads_14 (by decide) ?_
    refine lv_iload_n hx hb dX8_heads_15 rfl (lv_at hl 0 rfl) ?_
    refine lv_ishl hx hb dX8_heads_16 ?_
    have hw_8 : bLand T h cr inn f1 f2 f3 f4 [zO4 h cr inn a1_1 a2_2 a3_3 a4_4, zAr T 0 a1_1 7 f1, zAr T 0 a2_2 28 f2, zAr T 0 a3_3 7 f3, zAr T 0 a4_4 7 f4] := ⟨a1_1, a2_2, a3_3, a4_4, rfl⟩
    have G : zS T A s.heap s [[zO4 h cr inn a1_1 a2_2 a3_3 a4_4, zAr T 0 a1_1 7 f1, zAr T 0 a2_2 28 f2, zAr T 0 a3_3 7 f3, zAr T 0 a4_4 7 f4]] _ _ := G.re rfl
    refine z_Si (bc := [[zO4 h cr inn a1_1 a2_2 a3_3 a4_4, zAr T 0 a1_1 7 f1, zAr T 0 a2_2 28 f2, zAr T 0 a3_3 7 f3, zAr T 0 a4_4 7 f4]]) (br := []) (As := [.ref h, .int (1 <<< ((nI i) &&& 31))]) (rest := [.int ui1]) C G (c_spread l T h cr inn f1 f2 f3 f4 ([zO4 h cr inn a1_1 a2_2 a3_3 a4_4, zAr T 0 a1_1 7 f1, zAr T 0 a2_2 28 f2, zAr T 0 a3_3 7 f3, zAr T 0 a4_4 7 f4]) (1 <<< ((nI i) &&& 31)) hw_8 (by first | with_reducible assumption | with_reducible rfl | omega | assumption | rfl)) (kS_RX8_23 C.2.2.2.2 (Nat.le_of_ble_eq_true rfl) (Nat.le_of_ble_eq_true rfl)) [0] [0] rfl rfl rfl rfl hl.1 dX8_heads_17 (Nat.le_of_ble_eq_true rfl) (Nat.le_of_ble_eq_true rfl) (fun r_10 b1 H locs hw G => ?_)
    refine zAn2 hw ?_
    intro hbs9 h_9
    clear hw
    subst hbs9
    have G : zS T A s.heap s [[zO4 h cr inn a1_1 a2_2 a3_3 a4_4, zAr T 0 a1_1 7 f1, zAr T 0 a2_2 28 f2, zAr T 0 a3_3 7 f3, zAr T 0 a4_4 7 f4]] _ _ := G
    subst h_9
    refine lv_iconst (v := 1) hx hb dX8_heads_20 (by decide) ?_
    refine lv_iload_n hx hb dX8_heads_21 rfl (lv_at hl 0 rfl) ?_
    refine lv_ishl hx hb dX8_heads_22 ?_
    refine lv_iconst (v := (-1)) hx hb dX8_heads_23 (by decide) ?_
    refine lv_ixor hx hb dX8_heads_24 ?_
    refine lv_iand hx hb dX8_heads_25 ?_
    refine lv_ior hx hb dX8_heads_26 ?_
    refine lv_istore_n (lv' := [(1, .int (ui1 ||| ((zSpread cr inn f1 f2 (1 <<< ((nI i) &&& 31))) &&& ((1 <<< ((nI i) &&& 31)) ^^^ (-1))))), (2, .int (nI i)), (0, .ref h)]) hx hb dX8_heads_27 rfl hl (by decide) (zLvf_h rfl) (fun ls hl => ?_)
    refine lv_iinc (v := nI (i + 1)) (lv' := [(2, .int (nI (i + 1))), (1, .int (ui1 ||| ((zSpread cr inn f1 f2 (1 <<< ((nI i) &&& 31))) &&& ((1 <<< ((nI i) &&& 31)) ^^^ (-1))))), (0, .ref h)]) hx hb dX8_heads_28 hl (k := 1) rfl (z_inc i 1) (by decide) (zLvf_h rfl) (fun ls hl => ?_)
    refine lv_goto (tgt := 4) hx hb dX8_heads_31 (by decide) ?_
    exact ih_4 (i + 1) (ui1 ||| ((zSpread cr inn f1 f2 (1 <<< ((nI i) &&& 31))) &&& ((1 <<< ((nI i) &&& 31)) ^^^ (-1)))) (show (i + 1) ≤ cr.toInt.toNat from by omega) (show cr.toInt.toNat - (i + 1) < cr.toInt.toNat - i from by omega) _ _ ls G (lv_sub hl [0, 1, 2] rfl)
set_option maxHeartbeats 4000000 in
set_option maxRecDepth 100000 in
/-- c_ends -/
theorem c_ends (l : Launch) (T : zTy) (h : Nat) (cr : Int32) (inn : Int32) (f1 : Nat → Int32) (f2 : Nat → Int32) (f3 : Nat → Int32) (f4 : Nat → Int32) (w : va_W) (hw : bLand T h cr inn f1 f2 f3 f4 w) (hI : zLI cr f1 f3) : zMi l T yX8_ends cX8_ends 3 (some .int) 3 0 0 [.ref h] [w] (fun (r : Int32) bs => bs = [w]) := by
  refine zMi_of (own := RX8) (by decide) rfl (Nat.le_of_ble_eq_true rfl) ?_
  intro p e s m args below meth c A ls C hr hlocks hnm hAe G hl
  refine zHide (fun Qz_ hQz_ => ?_)
  have hx := C.1
  have hb := C.2.1
  have hl : lv_has ls 3 [(0, .ref h)] := hl
  have hcr := hI.1
  refine lv_iconst (v := 0) hx hb dX8_ends_0 (by decide) ?_
  refine lv_istore_n (lv' := [(1, .int 0), (0, .ref h)]) hx hb dX8_ends_1 rfl hl (by decide) (zLvf_h rfl) (fun ls hl => ?_)
  refine lv_iconst (v := 0) hx hb dX8_ends_2 (by decide) ?_
  refine lv_istore_n (lv' := [(2, .int 0), (1, .int 0), (0, .ref h)]) hx hb dX8_ends_3 rfl hl (by decide) (zLvf_h rfl) (fun ls hl => ?_)
  refine zEx4 hw ?_
  intro a1_1 a2_2 a3_3 a4_4 hbs9
  clear hw
  subst hbs9
  have G : zS T A s.heap s [[zO4 h cr inn a1_1 a2_2 a3_3 a4_4], [zAr T 0 a1_1 7 f1], [zAr T 0 a2_2 28 f2], [zAr T 0 a3_3 7 f3], [zAr T 0 a4_4 7 f4]] _ _ := G.re rfl
  have hw_5 : bLand T h cr inn f1 f2 f3 f4 [zO4 h cr inn a1_1 a2_2 a3_3 a4_4, zAr T 0 a1_1 7 f1, zAr T 0 a2_2 28 f2, zAr T 0 a3_3 7 f3, zAr T 0 a4_4 7 f4] := ⟨a1_1, a2_2, a3_3, a4_4, rfl⟩
  have G : zS T A s.heap s [[zO4 h cr inn a1_1 a2_2 a3_3 a4_4, zAr T 0 a1_1 7 f1, zAr T 0 a2_2 28 f2, zAr T 0 a3_3 7 f3, zAr T 0 a4_4 7 f4]] _ _ := G.re rfl
  refine z_lp2 (T := T) 4 (fun (i : Nat) (ui1 : Int32) => [[zO4 h cr inn a1_1 a2_2 a3_3 a4_4, zAr T 0 a1_1 7 f1, zAr T 0 a2_2 28 f2, zAr T 0 a3_3 7 f3, zAr T 0 a4_4 7 f4]]) (fun (i : Nat) (ui1 : Int32) => [(2, .int (nI i)), (1, .int ui1), (0, .ref h)]) (fun (i : Nat) (ui1 : Int32) => i ≤ cr.toInt.toNat) (fun (i : Nat) (ui1 : Int32) => cr.toInt.toNat - i) ?_ 0 0 (show 0 ≤ cr.toInt.toNat from by omega) G (lv_sub hl [0, 1, 2] rfl)
  intro i ui1 hi ih_4 H locs ls G hl
  replace hi : i ≤ cr.toInt.toNat := hi
  replace G : zS T A s.heap s [[zO4 h cr inn a1_1 a2_2 a3_3 a4_4, zAr T 0 a1_1 7 f1, zAr T 0 a2_2 28 f2, zAr T 0 a3_3 7 f3, zAr T 0 a4_4 7 f4]] _ _ := G
  replace hl : lv_has ls 3 [(2, .int (nI i)), (1, .int ui1), (0, .ref h)] := hl
  refine lv_iload_n hx hb dX8_ends_4 rfl (lv_at hl 0 rfl) ?_
  refine lv_aload_n hx hb dX8_ends_5 rfl (lv_at hl 2 rfl) ?_
  have G : zS T A s.heap s [[zO4 h cr inn a1_1 a2_2 a3_3 a4_4], [zAr T 0 a1_1 7 f1], [zAr T 0 a2_2 28 f2], [zAr T 0 a3_3 7 f3], [zAr T 0 a4_4 7 f4]] _ _ := G.re rfl
  refine z_get C G clX4 0 rfl 0 (by decide) m_fl_RX8_9 rfl dX8_ends_6 ?_
  refine lv_icmp_ge (tgt := 44) hx hb dX8_ends_9 (by decide) (fun c_6 => ?_) (fun c_6 => ?_)
  · have c_6n : cr.toInt ≤ (i : Int) := by have q := (fa_le _ _).mp c_6; rw [nI_toInt (n := i) (by omega)] at q; exact q
    refine lv_iload_n hx hb dX8_ends_44 rfl (lv_at hl 1 rfl) ?_
    have hw_7 : bLand T h cr inn f1 f2 f3 f4 [zO4 h cr inn a1_1 a2_2 a3_3 a4_4, zAr T 0 a1_1 7 f1, zAr T 0 a2_2 28 f2, zAr T 0 a3_3 7 f3, zAr T 0 a4_4 7 f4] := ⟨a1_1, a2_2, a3_3, a4_4, rfl⟩
    have G : zS T A s.heap s [[zO4 h cr inn a1_1 a2_2 a3_3 a4_4, zAr T 0 a1_1 7 f1, zAr T 0 a2_2 28 f2, zAr T 0 a3_3 7 f3, zAr T 0 a4_4 7 f4]] _ _ := G.re rfl
    exact z_back hQz_ (z_iret C hr hlocks G (Nat.le_of_ble_eq_true rfl) (Nat.le_of_ble_eq_true rfl) dX8_ends_45 rfl)
  · have c_6n : ¬ cr.toInt ≤ (i : Int) := fun q => c_6 ((fa_le _ _).mpr (by rw [nI_toInt (n := i) (by omega)]; exact q))
    refine lv_iload_n hx hb dX8_ends_12 rfl (lv_at hl 1 rfl) ?_
    refine lv_aload_n hx hb dX8_ends_13 rfl (lv_at hl 2 rfl) ?_
    refine lv_iload_n hx hb dX8_ends_14 rfl (lv_at hl 0 rfl) ?_
    have hw_8 : bLand T h cr inn f1 f2 f3 f4 [zO4 h cr inn a1_1 a2_2 a3_3 a4_4, zAr T 0 a1_1 7 f1, zAr T 0 a2_2 28 f2, zAr T 0 a3_3 7 f3, zAr T 0 a4_4 7 f4] := ⟨a1_1, a2_2, a3_3, a4_4, rfl⟩
    have G : zS T A s.heap s [[zO4 h cr inn a1_1 a2_2 a3_3 a4_4, zAr T 0 a1_1 7 f1, zAr T 0 a2_2 28 f2, zAr T 0 a3_3 7 f3, zAr T 0 a4_4 7 f4]] _ _ := G.re rfl
    refine z_Vi (bc := [[zO4 h cr inn a1_1 a2_2 a3_3 a4_4, zAr T 0 a1_1 7 f1, zAr T 0 a2_2 28 f2, zAr T 0 a3_3 7 f3, zAr T 0 a4_4 7 f4]]) (br := []) (As := [.int (nI i)]) (rest := [.int ui1]) C G (c_waysOut l T h cr inn f1 f2 f3 f4 ([zO4 h cr inn a1_1 a2_2 a3_3 a4_4, zAr T 0 a1_1 7 f1, zAr T 0 a2_2 28 f2, zAr T 0 a3_3 7 f3, zAr T 0 a4_4 7 f4]) (nI i) hw_8) (kV_RX8_15 C.2.2.2.2 (Nat.le_of_ble_eq_true rfl) (Nat.le_of_ble_eq_true rfl)) [0] [0] rfl rfl (ci := 4) (qc := (RX4, TX4, 6)) rfl rfl (List.mem_flatten.mpr ⟨_, List.mem_of_getElem? (i := 0) rfl, (bLand_mem hw_8).choose_spec⟩) rfl rfl hl.1 dX8_ends_15 (Nat.le_of_ble_eq_true rfl) (Nat.le_of_ble_eq_true rfl) (fun r_10 b1 H locs hw G => ?_)
    refine zAn2 hw ?_
    intro hbs9 h_9
    clear hw
    subst hbs9
    have G : zS T A s.heap s [[zO4 h cr inn a1_1 a2_2 a3_3 a4_4, zAr T 0 a1_1 7 f1, zAr T 0 a2_2 28 f2, zAr T 0 a3_3 7 f3, zAr T 0 a4_4 7 f4]] _ _ := G
    subst h_9
    refine lv_if_ne (tgt := 35) hx hb dX8_ends_18 (by decide) (fun c_11 => ?_) (fun c_11 => ?_)
    · have c_11n : ¬ (zWays cr inn f1 (nI i)).toInt = (0 : Int) := fun q => c_11 ((fa_eq _ _).mpr q)
      refine lv_iconst (v := 0) hx hb dX8_ends_35 (by decide) ?_
      refine lv_ior hx hb dX8_ends_36 ?_
      refine lv_istore_n (lv' := [(1, .int (ui1 ||| 0)), (2, .int (nI i)), (0, .ref h)]) hx hb dX8_ends_37 rfl hl (by decide) (zLvf_h rfl) (fun ls hl => ?_)
      refine lv_iinc (v := nI (i + 1)) (lv' := [(2, .int (nI (i + 1))), (1, .int (ui1 ||| 0)), (0, .ref h)]) hx hb dX8_ends_38 hl (k := 1) rfl (z_inc i 1) (by decide) (zLvf_h rfl) (fun ls hl => ?_)
      refine lv_goto (tgt := 4) hx hb dX8_ends_41 (by decide) ?_
      exact ih_4 (i + 1) (ui1 ||| 0) (show (i + 1) ≤ cr.toInt.toNat from by omega) (show cr.toInt.toNat - (i + 1) < cr.toInt.toNat - i from by omega) _ _ ls G (lv_sub hl [0, 1, 2] rfl)
    · have c_11n : (zWays cr inn f1 (nI i)).toInt = (0 : Int) := (fa_eq _ _).mp c_11
      refine lv_aload_n hx hb dX8_ends_21 rfl (lv_at hl 2 rfl) ?_
      refine lv_iload_n hx hb dX8_ends_22 rfl (lv_at hl 0 rfl) ?_
      refine z_Vi (bc := [[zO4 h cr inn a1_1 a2_2 a3_3 a4_4, zAr T 0 a1_1 7 f1, zAr T 0 a2_2 28 f2, zAr T 0 a3_3 7 f3, zAr T 0 a4_4 7 f4]]) (br := []) (As := [.int (nI i)]) (rest := [.int ui1]) C G (c_isInn l T h cr inn f1 f2 f3 f4 ([zO4 h cr inn a1_1 a2_2 a3_3 a4_4, zAr T 0 a1_1 7 f1, zAr T 0 a2_2 28 f2, zAr T 0 a3_3 7 f3, zAr T 0 a4_4 7 f4]) (nI i) hw_8) (kV_RX8_48 C.2.2.2.2 (Nat.le_of_ble_eq_true rfl) (Nat.le_of_ble_eq_true rfl)) [0] [0] rfl rfl (ci := 4) (qc := (RX4, TX4, 6)) rfl rfl (List.mem_flatten.mpr ⟨_, List.mem_of_getElem? (i := 0) rfl, (bLand_mem hw_8).choose_spec⟩) rfl rfl hl.1 dX8_ends_23 (Nat.le_of_ble_eq_true rfl) (Nat.le_of_ble_eq_true rfl) (fun r_13 b1 H locs hw G => ?_)
      refine zAn2 hw ?_
      intro hbs9 hc_12
      clear hw
      subst hbs9
      have G : zS T A s.heap s [[zO4 h cr inn a1_1 a2_2 a3_3 a4_4, zAr T 0 a1_1 7 f1, zAr T 0 a2_2 28 f2, zAr T 0 a3_3 7 f3, zAr T 0 a4_4 7 f4]] _ _ := G
      rcases hc_12 with ⟨rfl, h_14, h_15, h_16, h_17⟩ | ⟨rfl, h_18⟩
      · have h_14 : 0 ≤ (nI i).toInt := h_14
        have h_15 : (nI i).toInt < cr.toInt := h_15
        have h_16 : (nI i).toInt < 7 := h_16
        have h_17 : ¬ zBit inn (nI i) = 0 := h_17
        refine lv_if_ne (tgt := 35) hx hb dX8_ends_26 (by decide) (fun _ => ?_) (fun q => absurd q (by decide))
        refine lv_iconst (v := 0) hx hb dX8_ends_35 (by decide) ?_
        refine lv_ior hx hb dX8_ends_36 ?_
        refine lv_istore_n (lv' := [(1, .int (ui1 ||| 0)), (2, .int (nI i)), (0, .ref h)]) hx hb dX8_ends_37 rfl hl (by decide) (zLvf_h rfl) (fun ls hl => ?_)
        refine lv_iinc (v := nI (i + 1)) (lv' := [(2, .int (nI (i + 1))), (1, .int (ui1 ||| 0)), (0, .ref h)]) hx hb dX8_ends_38 hl (k := 1) rfl (z_inc i 1) (by decide) (zLvf_h rfl) (fun ls hl => ?_)
        refine lv_goto (tgt := 4) hx hb dX8_ends_41 (by decide) ?_
        exact ih_4 (i + 1) (ui1 ||| 0) (show (i + 1) ≤ cr.toInt.toNat from by omega) (show cr.toInt.toNat - (i + 1) < cr.toInt.toNat - i from by omega) _ _ ls G (lv_sub hl [0, 1, 2] rfl)
      · have h_18 : ((nI i).toInt < 0 ∨ cr.toInt ≤ (nI i).toInt ∨ 7 ≤ (nI i).toInt ∨ zBit inn (nI i) = 0) := h_18
        refine lv_if_ne (tgt := 35) hx hb dX8_ends_26 (by decide) (fun q => absurd (by decide) q) (fun _ => ?_)
        refine lv_iconst (v := 1) hx hb dX8_ends_29 (by decide) ?_
        refine lv_iload_n hx hb dX8_ends_30 rfl (lv_at hl 0 rfl) ?_
        refine lv_ishl hx hb dX8_ends_31 ?_
        refine lv_goto (tgt := 36) hx hb dX8_ends_32 (by decide) ?_
        refine lv_ior hx hb dX8_ends_36 ?_
        refine lv_istore_n (lv' := [(1, .int (ui1 ||| (1 <<< ((nI i) &&& 31)))), (2, .int (nI i)), (0, .ref h)]) hx hb dX8_ends_37 rfl hl (by decide) (zLvf_h rfl) (fun ls hl => ?_)
        refine lv_iinc (v := nI (i + 1)) (lv' := [(2, .int (nI (i + 1))), (1, .int (ui1 ||| (1 <<< ((nI i) &&& 31)))), (0, .ref h)]) hx hb dX8_ends_38 hl (k := 1) rfl (z_inc i 1) (by decide) (zLvf_h rfl) (fun ls hl => ?_)
        refine lv_goto (tgt := 4) hx hb dX8_ends_41 (by decide) ?_
        exact ih_4 (i + 1) (ui1 ||| (1 <<< ((nI i) &&& 31))) (show (i + 1) ≤ cr.toInt.toNat from by omega) (show cr.toInt.toNat - (i + 1) < cr.toInt.toNat - i from by omega) _ _ ls G (lv_sub hl [0, 1, 2] rfl)
set_option maxHeartbeats 4000000 in
set_option maxRecDepth 100000 in
/-- c_loops -/
theorem c_loops (l : Launch) (T : zTy) (h : Nat) (cr : Int32) (inn : Int32) (f1 : Nat → Int32) (f2 : Nat → Int32) (f3 : Nat → Int32) (f4 : Nat → Int32) (w : va_W) (hw : bLand T h cr inn f1 f2 f3 f4 w) (hI : zLI cr f1 f3) : zMi l T yX8_loops cX8_loops 3 (some .int) 4 0 0 [.ref h] [w] (fun (r : Int32) bs => bs = [w]) := by
  refine zMi_of (own := RX8) (by decide) rfl (Nat.le_of_ble_eq_true rfl) ?_
  intro p e s m args below meth c A ls C hr hlocks hnm hAe G hl
  refine zHide (fun Qz_ hQz_ => ?_)
  have hx := C.1
  have hb := C.2.1
  have hl : lv_has ls 3 [(0, .ref h)] := hl
  have hcr := hI.1
  refine lv_iconst (v := 0) hx hb dX8_loops_0 (by decide) ?_
  refine lv_istore_n (lv' := [(1, .int 0), (0, .ref h)]) hx hb dX8_loops_1 rfl hl (by decide) (zLvf_h rfl) (fun ls hl => ?_)
  refine lv_iconst (v := 0) hx hb dX8_loops_2 (by decide) ?_
  refine lv_istore_n (lv' := [(2, .int 0), (1, .int 0), (0, .ref h)]) hx hb dX8_loops_3 rfl hl (by decide) (zLvf_h rfl) (fun ls hl => ?_)
  refine zEx4 hw ?_
  intro a1_1 a2_2 a3_3 a4_4 hbs9
  clear hw
  subst hbs9
  have G : zS T A s.heap s [[zO4 h cr inn a1_1 a2_2 a3_3 a4_4], [zAr T 0 a1_1 7 f1], [zAr T 0 a2_2 28 f2], [zAr T 0 a3_3 7 f3], [zAr T 0 a4_4 7 f4]] _ _ := G.re rfl
  have hw_5 : bLand T h cr inn f1 f2 f3 f4 [zO4 h cr inn a1_1 a2_2 a3_3 a4_4, zAr T 0 a1_1 7 f1, zAr T 0 a2_2 28 f2, zAr T 0 a3_3 7 f3, zAr T 0 a4_4 7 f4] := ⟨a1_1, a2_2, a3_3, a4_4, rfl⟩
  have G : zS T A s.heap s [[zO4 h cr inn a1_1 a2_2 a3_3 a4_4, zAr T 0 a1_1 7 f1, zAr T 0 a2_2 28 f2, zAr T 0 a3_3 7 f3, zAr T 0 a4_4 7 f4]] _ _ := G.re rfl
  refine z_lp2 (T := T) 4 (fun (i : Nat) (ui1 : Int32) => [[zO4 h cr inn a1_1 a2_2 a3_3 a4_4, zAr T 0 a1_1 7 f1, zAr T 0 a2_2 28 f2, zAr T 0 a3_3 7 f3, zAr T 0 a4_4 7 f4]]) (fun (i : Nat) (ui1 : Int32) => [(2, .int (nI i)), (1, .int ui1), (0, .ref h)]) (fun (i : Nat) (ui1 : Int32) => i ≤ cr.toInt.toNat) (fun (i : Nat) (ui1 : Int32) => cr.toInt.toNat - i) ?_ 0 0 (show 0 ≤ cr.toInt.toNat from by omega) G (lv_sub hl [0, 1, 2] rfl)
  intro i ui1 hi ih_4 H locs ls G hl
  replace hi : i ≤ cr.toInt.toNat := hi
  replace G : zS T A s.heap s [[zO4 h cr inn a1_1 a2_2 a3_3 a4_4, zAr T 0 a1_1 7 f1, zAr T 0 a2_2 28 f2, zAr T 0 a3_3 7 f3, zAr T 0 a4_4 7 f4]] _ _ := G
  replace hl : lv_has ls 3 [(2, .int (nI i)), (1, .int ui1), (0, .ref h)] := hl
  refine lv_iload_n hx hb dX8_loops_4 rfl (lv_at hl 0 rfl) ?_
  refine lv_aload_n hx hb dX8_loops_5 rfl (lv_at hl 2 rfl) ?_
  have G : zS T A s.heap s [[zO4 h cr inn a1_1 a2_2 a3_3 a4_4], [zAr T 0 a1_1 7 f1], [zAr T 0 a2_2 28 f2], [zAr T 0 a3_3 7 f3], [zAr T 0 a4_4 7 f4]] _ _ := G.re rfl
  refine z_get C G clX4 0 rfl 0 (by decide) m_fl_RX8_9 rfl dX8_loops_6 ?_
  refine lv_icmp_ge (tgt := 27) hx hb dX8_loops_9 (by decide) (fun c_6 => ?_) (fun c_6 => ?_)
  · have c_6n : cr.toInt ≤ (i : Int) := by have q := (fa_le _ _).mp c_6; rw [nI_toInt (n := i) (by omega)] at q; exact q
    refine lv_iload_n hx hb dX8_loops_27 rfl (lv_at hl 1 rfl) ?_
    have hw_7 : bLand T h cr inn f1 f2 f3 f4 [zO4 h cr inn a1_1 a2_2 a3_3 a4_4, zAr T 0 a1_1 7 f1, zAr T 0 a2_2 28 f2, zAr T 0 a3_3 7 f3, zAr T 0 a4_4 7 f4] := ⟨a1_1, a2_2, a3_3, a4_4, rfl⟩
    have G : zS T A s.heap s [[zO4 h cr inn a1_1 a2_2 a3_3 a4_4, zAr T 0 a1_1 7 f1, zAr T 0 a2_2 28 f2, zAr T 0 a3_3 7 f3, zAr T 0 a4_4 7 f4]] _ _ := G.re rfl
    exact z_back hQz_ (z_iret C hr hlocks G (Nat.le_of_ble_eq_true rfl) (Nat.le_of_ble_eq_true rfl) dX8_loops_28 rfl)
  · have c_6n : ¬ cr.toInt ≤ (i : Int) := fun q => c_6 ((fa_le _ _).mpr (by rw [nI_toInt (n := i) (by omega)]; exact q))
    refine lv_iload_n hx hb dX8_loops_12 rfl (lv_at hl 1 rfl) ?_
    refine lv_aload_n hx hb dX8_loops_13 rfl (lv_at hl 2 rfl) ?_
    refine lv_iload_n hx hb dX8_loops_14 rfl (lv_at hl 0 rfl) ?_
    refine lv_iload_n hx hb dX8_loops_15 rfl (lv_at hl 0 rfl) ?_
    have hw_8 : bLand T h cr inn f1 f2 f3 f4 [zO4 h cr inn a1_1 a2_2 a3_3 a4_4, zAr T 0 a1_1 7 f1, zAr T 0 a2_2 28 f2, zAr T 0 a3_3 7 f3, zAr T 0 a4_4 7 f4] := ⟨a1_1, a2_2, a3_3, a4_4, rfl⟩
    have G : zS T A s.heap s [[zO4 h cr inn a1_1 a2_2 a3_3 a4_4, zAr T 0 a1_1 7 f1, zAr T 0 a2_2 28 f2, zAr T 0 a3_3 7 f3, zAr T 0 a4_4 7 f4]] _ _ := G.re rfl
    refine z_Si (bc := [[zO4 h cr inn a1_1 a2_2 a3_3 a4_4, zAr T 0 a1_1 7 f1, zAr T 0 a2_2 28 f2, zAr T 0 a3_3 7 f3, zAr T 0 a4_4 7 f4]]) (br := []) (As := [.ref h, .int (nI i), .int (nI i)]) (rest := [.int ui1]) C G (c_howManyLead l T h cr inn f1 f2 f3 f4 ([zO4 h cr inn a1_1 a2_2 a3_3 a4_4, zAr T 0 a1_1 7 f1, zAr T 0 a2_2 28 f2, zAr T 0 a3_3 7 f3, zAr T 0 a4_4 7 f4]) (nI i) (nI i) hw_8 (by first | with_reducible assumption | with_reducible rfl | omega | assumption | rfl)) (kS_RX8_52 C.2.2.2.2 (Nat.le_of_ble_eq_true rfl) (Nat.le_of_ble_eq_true rfl)) [0] [0] rfl rfl rfl rfl hl.1 dX8_loops_16 (Nat.le_of_ble_eq_true rfl) (Nat.le_of_ble_eq_true rfl) (fun r_9 b1 H locs hw G => ?_)
    obtain rfl := hw
    have G : zS T A s.heap s [[zO4 h cr inn a1_1 a2_2 a3_3 a4_4, zAr T 0 a1_1 7 f1, zAr T 0 a2_2 28 f2, zAr T 0 a3_3 7 f3, zAr T 0 a4_4 7 f4]] _ _ := G
    refine lv_iadd hx hb dX8_loops_19 ?_
    refine lv_istore_n (lv' := [(1, .int (ui1 + r_9)), (2, .int (nI i)), (0, .ref h)]) hx hb dX8_loops_20 rfl hl (by decide) (zLvf_h rfl) (fun ls hl => ?_)
    refine lv_iinc (v := nI (i + 1)) (lv' := [(2, .int (nI (i + 1))), (1, .int (ui1 + r_9)), (0, .ref h)]) hx hb dX8_loops_21 hl (k := 1) rfl (z_inc i 1) (by decide) (zLvf_h rfl) (fun ls hl => ?_)
    refine lv_goto (tgt := 4) hx hb dX8_loops_24 (by decide) ?_
    exact ih_4 (i + 1) (ui1 + r_9) (show (i + 1) ≤ cr.toInt.toNat from by omega) (show cr.toInt.toNat - (i + 1) < cr.toInt.toNat - i from by omega) _ _ ls G (lv_sub hl [0, 1, 2] rfl)
set_option maxHeartbeats 4000000 in
set_option maxRecDepth 100000 in
/-- c_doubles -/
theorem c_doubles (l : Launch) (T : zTy) (h : Nat) (cr : Int32) (inn : Int32) (f1 : Nat → Int32) (f2 : Nat → Int32) (f3 : Nat → Int32) (f4 : Nat → Int32) (w : va_W) (hw : bLand T h cr inn f1 f2 f3 f4 w) (hI : zLI cr f1 f3) : zMi l T yX8_doubles cX8_doubles 5 (some .int) 4 0 0 [.ref h] [w] (fun (r : Int32) bs => bs = [w]) := by
  refine zMi_of (own := RX8) (by decide) rfl (Nat.le_of_ble_eq_true rfl) ?_
  intro p e s m args below meth c A ls C hr hlocks hnm hAe G hl
  refine zHide (fun Qz_ hQz_ => ?_)
  have hx := C.1
  have hb := C.2.1
  have hl : lv_has ls 5 [(0, .ref h)] := hl
  have hcr := hI.1
  refine lv_iconst (v := 0) hx hb dX8_doubles_0 (by decide) ?_
  refine lv_istore_n (lv' := [(1, .int 0), (0, .ref h)]) hx hb dX8_doubles_1 rfl hl (by decide) (zLvf_h rfl) (fun ls hl => ?_)
  refine lv_iconst (v := 0) hx hb dX8_doubles_2 (by decide) ?_
  refine lv_istore_n (lv' := [(2, .int 0), (1, .int 0), (0, .ref h)]) hx hb dX8_doubles_3 rfl hl (by decide) (zLvf_h rfl) (fun ls hl => ?_)
  refine zEx4 hw ?_
  intro a1_1 a2_2 a3_3 a4_4 hbs9
  clear hw
  subst hbs9
  have G : zS T A s.heap s [[zO4 h cr inn a1_1 a2_2 a3_3 a4_4], [zAr T 0 a1_1 7 f1], [zAr T 0 a2_2 28 f2], [zAr T 0 a3_3 7 f3], [zAr T 0 a4_4 7 f4]] _ _ := G.re rfl
  have hw_5 : bLand T h cr inn f1 f2 f3 f4 [zO4 h cr inn a1_1 a2_2 a3_3 a4_4, zAr T 0 a1_1 7 f1, zAr T 0 a2_2 28 f2, zAr T 0 a3_3 7 f3, zAr T 0 a4_4 7 f4] := ⟨a1_1, a2_2, a3_3, a4_4, rfl⟩
  have G : zS T A s.heap s [[zO4 h cr inn a1_1 a2_2 a3_3 a4_4, zAr T 0 a1_1 7 f1, zAr T 0 a2_2 28 f2, zAr T 0 a3_3 7 f3, zAr T 0 a4_4 7 f4]] _ _ := G.re rfl
  refine z_lp2 (T := T) 4 (fun (i : Nat) (ui1 : Int32) => [[zO4 h cr inn a1_1 a2_2 a3_3 a4_4, zAr T 0 a1_1 7 f1, zAr T 0 a2_2 28 f2, zAr T 0 a3_3 7 f3, zAr T 0 a4_4 7 f4]]) (fun (i : Nat) (ui1 : Int32) => [(2, .int (nI i)), (1, .int ui1), (0, .ref h)]) (fun (i : Nat) (ui1 : Int32) => i ≤ cr.toInt.toNat) (fun (i : Nat) (ui1 : Int32) => cr.toInt.toNat - i) ?_ 0 0 (show 0 ≤ cr.toInt.toNat from by omega) G (lv_sub hl [0, 1, 2] rfl)
  intro i ui1 hi ih_4 H locs ls G hl
  replace hi : i ≤ cr.toInt.toNat := hi
  replace G : zS T A s.heap s [[zO4 h cr inn a1_1 a2_2 a3_3 a4_4, zAr T 0 a1_1 7 f1, zAr T 0 a2_2 28 f2, zAr T 0 a3_3 7 f3, zAr T 0 a4_4 7 f4]] _ _ := G
  replace hl : lv_has ls 5 [(2, .int (nI i)), (1, .int ui1), (0, .ref h)] := hl
  refine lv_iload_n hx hb dX8_doubles_4 rfl (lv_at hl 0 rfl) ?_
  refine lv_aload_n hx hb dX8_doubles_5 rfl (lv_at hl 2 rfl) ?_
  have G : zS T A s.heap s [[zO4 h cr inn a1_1 a2_2 a3_3 a4_4], [zAr T 0 a1_1 7 f1], [zAr T 0 a2_2 28 f2], [zAr T 0 a3_3 7 f3], [zAr T 0 a4_4 7 f4]] _ _ := G.re rfl
  refine z_get C G clX4 0 rfl 0 (by decide) m_fl_RX8_9 rfl dX8_doubles_6 ?_
  refine lv_icmp_ge (tgt := 54) hx hb dX8_doubles_9 (by decide) (fun c_6 => ?_) (fun c_6 => ?_)
  · have c_6n : cr.toInt ≤ (i : Int) := by have q := (fa_le _ _).mp c_6; rw [nI_toInt (n := i) (by omega)] at q; exact q
    refine lv_iload_n hx hb dX8_doubles_54 rfl (lv_at hl 1 rfl) ?_
    have hw_7 : bLand T h cr inn f1 f2 f3 f4 [zO4 h cr inn a1_1 a2_2 a3_3 a4_4, zAr T 0 a1_1 7 f1, zAr T 0 a2_2 28 f2, zAr T 0 a3_3 7 f3, zAr T 0 a4_4 7 f4] := ⟨a1_1, a2_2, a3_3, a4_4, rfl⟩
    have G : zS T A s.heap s [[zO4 h cr inn a1_1 a2_2 a3_3 a4_4, zAr T 0 a1_1 7 f1, zAr T 0 a2_2 28 f2, zAr T 0 a3_3 7 f3, zAr T 0 a4_4 7 f4]] _ _ := G.re rfl
    exact z_back hQz_ (z_iret C hr hlocks G (Nat.le_of_ble_eq_true rfl) (Nat.le_of_ble_eq_true rfl) dX8_doubles_55 rfl)
  · have c_6n : ¬ cr.toInt ≤ (i : Int) := fun q => c_6 ((fa_le _ _).mpr (by rw [nI_toInt (n := i) (by omega)]; exact q))
    refine lv_iconst (v := 0) hx hb dX8_doubles_12 (by decide) ?_
    refine lv_istore_n (lv' := [(3, .int 0), (2, .int (nI i)), (1, .int ui1), (0, .ref h)]) hx hb dX8_doubles_13 rfl hl (by decide) (zLvf_h rfl) (fun ls hl => ?_)
    have hw_8 : bLand T h cr inn f1 f2 f3 f4 [zO4 h cr inn a1_1 a2_2 a3_3 a4_4, zAr T 0 a1_1 7 f1, zAr T 0 a2_2 28 f2, zAr T 0 a3_3 7 f3, zAr T 0 a4_4 7 f4] := ⟨a1_1, a2_2, a3_3, a4_4, rfl⟩
    have G : zS T A s.heap s [[zO4 h cr inn a1_1 a2_2 a3_3 a4_4, zAr T 0 a1_1 7 f1, zAr T 0 a2_2 28 f2, zAr T 0 a3_3 7 f3, zAr T 0 a4_4 7 f4]] _ _ := G.re rfl
    refine z_lp2 (T := T) 14 (fun (j : Nat) (uj1 : Int32) => [[zO4 h cr inn a1_1 a2_2 a3_3 a4_4, zAr T 0 a1_1 7 f1, zAr T 0 a2_2 28 f2, zAr T 0 a3_3 7 f3, zAr T 0 a4_4 7 f4]]) (fun (j : Nat) (uj1 : Int32) => [(3, .int (nI j)), (2, .int (nI i)), (1, .int uj1), (0, .ref h)]) (fun (j : Nat) (uj1 : Int32) => j ≤ cr.toInt.toNat) (fun (j : Nat) (uj1 : Int32) => cr.toInt.toNat - j) ?_ 0 ui1 (show 0 ≤ cr.toInt.toNat from by omega) G (lv_sub hl [0, 1, 2, 3] rfl)
    intro j uj1 hj ih_14 H locs ls G hl
    replace hj : j ≤ cr.toInt.toNat := hj
    replace G : zS T A s.heap s [[zO4 h cr inn a1_1 a2_2 a3_3 a4_4, zAr T 0 a1_1 7 f1, zAr T 0 a2_2 28 f2, zAr T 0 a3_3 7 f3, zAr T 0 a4_4 7 f4]] _ _ := G
    replace hl : lv_has ls 5 [(3, .int (nI j)), (2, .int (nI i)), (1, .int uj1), (0, .ref h)] := hl
    refine lv_iload_n hx hb dX8_doubles_14 rfl (lv_at hl 0 rfl) ?_
    refine lv_aload_n hx hb dX8_doubles_15 rfl (lv_at hl 3 rfl) ?_
    have G : zS T A s.heap s [[zO4 h cr inn a1_1 a2_2 a3_3 a4_4], [zAr T 0 a1_1 7 f1], [zAr T 0 a2_2 28 f2], [zAr T 0 a3_3 7 f3], [zAr T 0 a4_4 7 f4]] _ _ := G.re rfl
    refine z_get C G clX4 0 rfl 0 (by decide) m_fl_RX8_9 rfl dX8_doubles_16 ?_
    refine lv_icmp_ge (tgt := 48) hx hb dX8_doubles_19 (by decide) (fun c_9 => ?_) (fun c_9 => ?_)
    · have c_9n : cr.toInt ≤ (j : Int) := by have q := (fa_le _ _).mp c_9; rw [nI_toInt (n := j) (by omega)] at q; exact q
      refine lv_iinc (v := nI (i + 1)) (lv' := [(2, .int (nI (i + 1))), (3, .int (nI j)), (1, .int uj1), (0, .ref h)]) hx hb dX8_doubles_48 hl (k := 1) rfl (z_inc i 1) (by decide) (zLvf_h rfl) (fun ls hl => ?_)
      refine lv_goto (tgt := 4) hx hb dX8_doubles_51 (by decide) ?_
      have hw_10 : bLand T h cr inn f1 f2 f3 f4 [zO4 h cr inn a1_1 a2_2 a3_3 a4_4, zAr T 0 a1_1 7 f1, zAr T 0 a2_2 28 f2, zAr T 0 a3_3 7 f3, zAr T 0 a4_4 7 f4] := ⟨a1_1, a2_2, a3_3, a4_4, rfl⟩
      have G : zS T A s.heap s [[zO4 h cr inn a1_1 a2_2 a3_3 a4_4, zAr T 0 a1_1 7 f1, zAr T 0 a2_2 28 f2, zAr T 0 a3_3 7 f3, zAr T 0 a4_4 7 f4]] _ _ := G.re rfl
      exact ih_4 (i + 1) uj1 (show (i + 1) ≤ cr.toInt.toNat from by omega) (show cr.toInt.toNat - (i + 1) < cr.toInt.toNat - i from by omega) _ _ ls G (lv_sub hl [0, 2, 3] rfl)
    · have c_9n : ¬ cr.toInt ≤ (j : Int) := fun q => c_9 ((fa_le _ _).mpr (by rw [nI_toInt (n := j) (by omega)]; exact q))
      refine lv_aload_n hx hb dX8_doubles_22 rfl (lv_at hl 3 rfl) ?_
      refine lv_iload_n hx hb dX8_doubles_23 rfl (lv_at hl 1 rfl) ?_
      refine lv_iload_n hx hb dX8_doubles_24 rfl (lv_at hl 0 rfl) ?_
      have hw_11 : bLand T h cr inn f1 f2 f3 f4 [zO4 h cr inn a1_1 a2_2 a3_3 a4_4, zAr T 0 a1_1 7 f1, zAr T 0 a2_2 28 f2, zAr T 0 a3_3 7 f3, zAr T 0 a4_4 7 f4] := ⟨a1_1, a2_2, a3_3, a4_4, rfl⟩
      have G : zS T A s.heap s [[zO4 h cr inn a1_1 a2_2 a3_3 a4_4, zAr T 0 a1_1 7 f1, zAr T 0 a2_2 28 f2, zAr T 0 a3_3 7 f3, zAr T 0 a4_4 7 f4]] _ _ := G.re rfl
      refine z_Si (bc := [[zO4 h cr inn a1_1 a2_2 a3_3 a4_4, zAr T 0 a1_1 7 f1, zAr T 0 a2_2 28 f2, zAr T 0 a3_3 7 f3, zAr T 0 a4_4 7 f4]]) (br := []) (As := [.ref h, .int (nI i), .int (nI j)]) (rest := []) C G (c_howManyLead l T h cr inn f1 f2 f3 f4 ([zO4 h cr inn a1_1 a2_2 a3_3 a4_4, zAr T 0 a1_1 7 f1, zAr T 0 a2_2 28 f2, zAr T 0 a3_3 7 f3, zAr T 0 a4_4 7 f4]) (nI i) (nI j) hw_11 (by first | with_reducible assumption | with_reducible rfl | omega | assumption | rfl)) (kS_RX8_52 C.2.2.2.2 (Nat.le_of_ble_eq_true rfl) (Nat.le_of_ble_eq_true rfl)) [0] [0] rfl rfl rfl rfl hl.1 dX8_doubles_25 (Nat.le_of_ble_eq_true rfl) (Nat.le_of_ble_eq_true rfl) (fun r_12 b1 H locs hw G => ?_)
      obtain rfl := hw
      have G : zS T A s.heap s [[zO4 h cr inn a1_1 a2_2 a3_3 a4_4, zAr T 0 a1_1 7 f1, zAr T 0 a2_2 28 f2, zAr T 0 a3_3 7 f3, zAr T 0 a4_4 7 f4]] _ _ := G
      refine lv_istore (lv' := [(4, .int r_12), (3, .int (nI j)), (2, .int (nI i)), (1, .int uj1), (0, .ref h)]) hx hb dX8_doubles_28 hl (by decide) (zLvf_h rfl) (fun ls hl => ?_)
      refine lv_iload_n hx hb dX8_doubles_30 rfl (lv_at hl 3 rfl) ?_
      refine lv_iload hx hb dX8_doubles_31 (lv_at hl 0 rfl) ?_
      refine lv_iload hx hb dX8_doubles_33 (lv_at hl 0 rfl) ?_
      refine lv_iconst (v := 1) hx hb dX8_doubles_35 (by decide) ?_
      refine lv_isub hx hb dX8_doubles_36 ?_
      refine lv_imul hx hb dX8_doubles_37 ?_
      refine lv_iconst (v := 2) hx hb dX8_doubles_38 (by decide) ?_
      refine lv_idiv hx hb dX8_doubles_39 (by decide) ?_
      refine lv_iadd hx hb dX8_doubles_40 ?_
      refine lv_istore_n (lv' := [(1, .int (uj1 + ((r_12 * (r_12 - 1)) / 2))), (4, .int r_12), (3, .int (nI j)), (2, .int (nI i)), (0, .ref h)]) hx hb dX8_doubles_41 rfl hl (by decide) (zLvf_h rfl) (fun ls hl => ?_)
      refine lv_iinc (v := nI (j + 1)) (lv' := [(3, .int (nI (j + 1))), (1, .int (uj1 + ((r_12 * (r_12 - 1)) / 2))), (4, .int r_12), (2, .int (nI i)), (0, .ref h)]) hx hb dX8_doubles_42 hl (k := 2) rfl (z_inc j 1) (by decide) (zLvf_h rfl) (fun ls hl => ?_)
      refine lv_goto (tgt := 14) hx hb dX8_doubles_45 (by decide) ?_
      exact ih_14 (j + 1) (uj1 + ((r_12 * (r_12 - 1)) / 2)) (show (j + 1) ≤ cr.toInt.toNat from by omega) (show cr.toInt.toNat - (j + 1) < cr.toInt.toNat - j from by omega) _ _ ls G (lv_sub hl [0, 3, 1, 4] rfl)
set_option maxHeartbeats 4000000 in
set_option maxRecDepth 100000 in
/-- c_even -/
theorem c_even (l : Launch) (T : zTy) (h : Nat) (cr : Int32) (inn : Int32) (f1 : Nat → Int32) (f2 : Nat → Int32) (f3 : Nat → Int32) (f4 : Nat → Int32) (w : va_W) (hw : bLand T h cr inn f1 f2 f3 f4 w) (hI : zLI cr f1 f3) : zMi l T yX8_even cX8_even 3 (some .int) 5 0 0 [.ref h] [w] (fun (r : Int32) bs => bs = [w]) := by
  refine zMi_of (own := RX8) (by decide) rfl (Nat.le_of_ble_eq_true rfl) ?_
  intro p e s m args below meth c A ls C hr hlocks hnm hAe G hl
  refine zHide (fun Qz_ hQz_ => ?_)
  have hx := C.1
  have hb := C.2.1
  have hl : lv_has ls 3 [(0, .ref h)] := hl
  have hcr := hI.1
  refine lv_iconst (v := 0) hx hb dX8_even_0 (by decide) ?_
  refine lv_istore_n (lv' := [(1, .int 0), (0, .ref h)]) hx hb dX8_even_1 rfl hl (by decide) (zLvf_h rfl) (fun ls hl => ?_)
  refine lv_iconst (v := 0) hx hb dX8_even_2 (by decide) ?_
  refine lv_istore_n (lv' := [(2, .int 0), (1, .int 0), (0, .ref h)]) hx hb dX8_even_3 rfl hl (by decide) (zLvf_h rfl) (fun ls hl => ?_)
  refine zEx4 hw ?_
  intro a1_1 a2_2 a3_3 a4_4 hbs9
  clear hw
  subst hbs9
  have G : zS T A s.heap s [[zO4 h cr inn a1_1 a2_2 a3_3 a4_4], [zAr T 0 a1_1 7 f1], [zAr T 0 a2_2 28 f2], [zAr T 0 a3_3 7 f3], [zAr T 0 a4_4 7 f4]] _ _ := G.re rfl
  have hw_5 : bLand T h cr inn f1 f2 f3 f4 [zO4 h cr inn a1_1 a2_2 a3_3 a4_4, zAr T 0 a1_1 7 f1, zAr T 0 a2_2 28 f2, zAr T 0 a3_3 7 f3, zAr T 0 a4_4 7 f4] := ⟨a1_1, a2_2, a3_3, a4_4, rfl⟩
  have G : zS T A s.heap s [[zO4 h cr inn a1_1 a2_2 a3_3 a4_4, zAr T 0 a1_1 7 f1, zAr T 0 a2_2 28 f2, zAr T 0 a3_3 7 f3, zAr T 0 a4_4 7 f4]] _ _ := G.re rfl
  refine z_lp2 (T := T) 4 (fun (i : Nat) (ui1 : Int32) => [[zO4 h cr inn a1_1 a2_2 a3_3 a4_4, zAr T 0 a1_1 7 f1, zAr T 0 a2_2 28 f2, zAr T 0 a3_3 7 f3, zAr T 0 a4_4 7 f4]]) (fun (i : Nat) (ui1 : Int32) => [(2, .int (nI i)), (1, .int ui1), (0, .ref h)]) (fun (i : Nat) (ui1 : Int32) => i ≤ cr.toInt.toNat) (fun (i : Nat) (ui1 : Int32) => cr.toInt.toNat - i) ?_ 0 0 (show 0 ≤ cr.toInt.toNat from by omega) G (lv_sub hl [0, 1, 2] rfl)
  intro i ui1 hi ih_4 H locs ls G hl
  replace hi : i ≤ cr.toInt.toNat := hi
  replace G : zS T A s.heap s [[zO4 h cr inn a1_1 a2_2 a3_3 a4_4, zAr T 0 a1_1 7 f1, zAr T 0 a2_2 28 f2, zAr T 0 a3_3 7 f3, zAr T 0 a4_4 7 f4]] _ _ := G
  replace hl : lv_has ls 3 [(2, .int (nI i)), (1, .int ui1), (0, .ref h)] := hl
  refine lv_iload_n hx hb dX8_even_4 rfl (lv_at hl 0 rfl) ?_
  refine lv_aload_n hx hb dX8_even_5 rfl (lv_at hl 2 rfl) ?_
  have G : zS T A s.heap s [[zO4 h cr inn a1_1 a2_2 a3_3 a4_4], [zAr T 0 a1_1 7 f1], [zAr T 0 a2_2 28 f2], [zAr T 0 a3_3 7 f3], [zAr T 0 a4_4 7 f4]] _ _ := G.re rfl
  refine z_get C G clX4 0 rfl 0 (by decide) m_fl_RX8_9 rfl dX8_even_6 ?_
  refine lv_icmp_ge (tgt := 41) hx hb dX8_even_9 (by decide) (fun c_6 => ?_) (fun c_6 => ?_)
  · have c_6n : cr.toInt ≤ (i : Int) := by have q := (fa_le _ _).mp c_6; rw [nI_toInt (n := i) (by omega)] at q; exact q
    refine lv_iload_n hx hb dX8_even_41 rfl (lv_at hl 1 rfl) ?_
    have hw_7 : bLand T h cr inn f1 f2 f3 f4 [zO4 h cr inn a1_1 a2_2 a3_3 a4_4, zAr T 0 a1_1 7 f1, zAr T 0 a2_2 28 f2, zAr T 0 a3_3 7 f3, zAr T 0 a4_4 7 f4] := ⟨a1_1, a2_2, a3_3, a4_4, rfl⟩
    have G : zS T A s.heap s [[zO4 h cr inn a1_1 a2_2 a3_3 a4_4, zAr T 0 a1_1 7 f1, zAr T 0 a2_2 28 f2, zAr T 0 a3_3 7 f3, zAr T 0 a4_4 7 f4]] _ _ := G.re rfl
    exact z_back hQz_ (z_iret C hr hlocks G (Nat.le_of_ble_eq_true rfl) (Nat.le_of_ble_eq_true rfl) dX8_even_42 rfl)
  · have c_6n : ¬ cr.toInt ≤ (i : Int) := fun q => c_6 ((fa_le _ _).mpr (by rw [nI_toInt (n := i) (by omega)]; exact q))
    refine lv_iload_n hx hb dX8_even_12 rfl (lv_at hl 1 rfl) ?_
    refine lv_aload_n hx hb dX8_even_13 rfl (lv_at hl 2 rfl) ?_
    refine lv_iload_n hx hb dX8_even_14 rfl (lv_at hl 0 rfl) ?_
    have hw_8 : bLand T h cr inn f1 f2 f3 f4 [zO4 h cr inn a1_1 a2_2 a3_3 a4_4, zAr T 0 a1_1 7 f1, zAr T 0 a2_2 28 f2, zAr T 0 a3_3 7 f3, zAr T 0 a4_4 7 f4] := ⟨a1_1, a2_2, a3_3, a4_4, rfl⟩
    have G : zS T A s.heap s [[zO4 h cr inn a1_1 a2_2 a3_3 a4_4, zAr T 0 a1_1 7 f1, zAr T 0 a2_2 28 f2, zAr T 0 a3_3 7 f3, zAr T 0 a4_4 7 f4]] _ _ := G.re rfl
    refine z_Si (bc := [[zO4 h cr inn a1_1 a2_2 a3_3 a4_4, zAr T 0 a1_1 7 f1, zAr T 0 a2_2 28 f2, zAr T 0 a3_3 7 f3, zAr T 0 a4_4 7 f4]]) (br := []) (As := [.ref h, .int (nI i)]) (rest := [.int ui1]) C G (c_howManyLeadTo l T h cr inn f1 f2 f3 f4 ([zO4 h cr inn a1_1 a2_2 a3_3 a4_4, zAr T 0 a1_1 7 f1, zAr T 0 a2_2 28 f2, zAr T 0 a3_3 7 f3, zAr T 0 a4_4 7 f4]) (nI i) hw_8 (by first | with_reducible assumption | with_reducible rfl | omega | assumption | rfl)) (kS_RX8_56 C.2.2.2.2 (Nat.le_of_ble_eq_true rfl) (Nat.le_of_ble_eq_true rfl)) [0] [0] rfl rfl rfl rfl hl.1 dX8_even_15 (Nat.le_of_ble_eq_true rfl) (Nat.le_of_ble_eq_true rfl) (fun r_9 b1 H locs hw G => ?_)
    obtain rfl := hw
    have G : zS T A s.heap s [[zO4 h cr inn a1_1 a2_2 a3_3 a4_4, zAr T 0 a1_1 7 f1, zAr T 0 a2_2 28 f2, zAr T 0 a3_3 7 f3, zAr T 0 a4_4 7 f4]] _ _ := G
    refine lv_aload_n hx hb dX8_even_18 rfl (lv_at hl 2 rfl) ?_
    refine lv_iload_n hx hb dX8_even_19 rfl (lv_at hl 0 rfl) ?_
    refine z_Vi (bc := [[zO4 h cr inn a1_1 a2_2 a3_3 a4_4, zAr T 0 a1_1 7 f1, zAr T 0 a2_2 28 f2, zAr T 0 a3_3 7 f3, zAr T 0 a4_4 7 f4]]) (br := []) (As := [.int (nI i)]) (rest := [.int r_9, .int ui1]) C G (c_waysOut l T h cr inn f1 f2 f3 f4 ([zO4 h cr inn a1_1 a2_2 a3_3 a4_4, zAr T 0 a1_1 7 f1, zAr T 0 a2_2 28 f2, zAr T 0 a3_3 7 f3, zAr T 0 a4_4 7 f4]) (nI i) hw_8) (kV_RX8_15 C.2.2.2.2 (Nat.le_of_ble_eq_true rfl) (Nat.le_of_ble_eq_true rfl)) [0] [0] rfl rfl (ci := 4) (qc := (RX4, TX4, 6)) rfl rfl (List.mem_flatten.mpr ⟨_, List.mem_of_getElem? (i := 0) rfl, (bLand_mem hw_8).choose_spec⟩) rfl rfl hl.1 dX8_even_20 (Nat.le_of_ble_eq_true rfl) (Nat.le_of_ble_eq_true rfl) (fun r_11 b1 H locs hw G => ?_)
    refine zAn2 hw ?_
    intro hbs9 h_10
    clear hw
    subst hbs9
    have G : zS T A s.heap s [[zO4 h cr inn a1_1 a2_2 a3_3 a4_4, zAr T 0 a1_1 7 f1, zAr T 0 a2_2 28 f2, zAr T 0 a3_3 7 f3, zAr T 0 a4_4 7 f4]] _ _ := G
    subst h_10
    refine lv_icmp_ne (tgt := 32) hx hb dX8_even_23 (by decide) (fun c_12 => ?_) (fun c_12 => ?_)
    · have c_12n : ¬ r_9.toInt = (zWays cr inn f1 (nI i)).toInt := fun q => c_12 ((fa_eq _ _).mpr q)
      refine lv_iconst (v := 0) hx hb dX8_even_32 (by decide) ?_
      refine lv_ior hx hb dX8_even_33 ?_
      refine lv_istore_n (lv' := [(1, .int (ui1 ||| 0)), (2, .int (nI i)), (0, .ref h)]) hx hb dX8_even_34 rfl hl (by decide) (zLvf_h rfl) (fun ls hl => ?_)
      refine lv_iinc (v := nI (i + 1)) (lv' := [(2, .int (nI (i + 1))), (1, .int (ui1 ||| 0)), (0, .ref h)]) hx hb dX8_even_35 hl (k := 1) rfl (z_inc i 1) (by decide) (zLvf_h rfl) (fun ls hl => ?_)
      refine lv_goto (tgt := 4) hx hb dX8_even_38 (by decide) ?_
      exact ih_4 (i + 1) (ui1 ||| 0) (show (i + 1) ≤ cr.toInt.toNat from by omega) (show cr.toInt.toNat - (i + 1) < cr.toInt.toNat - i from by omega) _ _ ls G (lv_sub hl [0, 1, 2] rfl)
    · have c_12n : r_9.toInt = (zWays cr inn f1 (nI i)).toInt := (fa_eq _ _).mp c_12
      refine lv_iconst (v := 1) hx hb dX8_even_26 (by decide) ?_
      refine lv_iload_n hx hb dX8_even_27 rfl (lv_at hl 0 rfl) ?_
      refine lv_ishl hx hb dX8_even_28 ?_
      refine lv_goto (tgt := 33) hx hb dX8_even_29 (by decide) ?_
      refine lv_ior hx hb dX8_even_33 ?_
      refine lv_istore_n (lv' := [(1, .int (ui1 ||| (1 <<< ((nI i) &&& 31)))), (2, .int (nI i)), (0, .ref h)]) hx hb dX8_even_34 rfl hl (by decide) (zLvf_h rfl) (fun ls hl => ?_)
      refine lv_iinc (v := nI (i + 1)) (lv' := [(2, .int (nI (i + 1))), (1, .int (ui1 ||| (1 <<< ((nI i) &&& 31)))), (0, .ref h)]) hx hb dX8_even_35 hl (k := 1) rfl (z_inc i 1) (by decide) (zLvf_h rfl) (fun ls hl => ?_)
      refine lv_goto (tgt := 4) hx hb dX8_even_38 (by decide) ?_
      exact ih_4 (i + 1) (ui1 ||| (1 <<< ((nI i) &&& 31))) (show (i + 1) ≤ cr.toInt.toNat from by omega) (show cr.toInt.toNat - (i + 1) < cr.toInt.toNat - i from by omega) _ _ ls G (lv_sub hl [0, 1, 2] rfl)
set_option maxHeartbeats 4000000 in
set_option maxRecDepth 100000 in
/-- c_busy -/
theorem c_busy (l : Launch) (T : zTy) (h : Nat) (cr : Int32) (inn : Int32) (f1 : Nat → Int32) (f2 : Nat → Int32) (f3 : Nat → Int32) (f4 : Nat → Int32) (w : va_W) (hw : bLand T h cr inn f1 f2 f3 f4 w) (hI : zLI cr f1 f3) : zMi l T yX8_busy cX8_busy 5 (some .int) 5 0 0 [.ref h] [w] (fun (r : Int32) bs => bs = [w]) := by
  refine zMi_of (own := RX8) (by decide) rfl (Nat.le_of_ble_eq_true rfl) ?_
  intro p e s m args below meth c A ls C hr hlocks hnm hAe G hl
  refine zHide (fun Qz_ hQz_ => ?_)
  have hx := C.1
  have hb := C.2.1
  have hl : lv_has ls 5 [(0, .ref h)] := hl
  have hcr := hI.1
  refine lv_iconst (v := (-1)) hx hb dX8_busy_0 (by decide) ?_
  refine lv_istore_n (lv' := [(1, .int (-1)), (0, .ref h)]) hx hb dX8_busy_1 rfl hl (by decide) (zLvf_h rfl) (fun ls hl => ?_)
  refine lv_iconst (v := (-1)) hx hb dX8_busy_2 (by decide) ?_
  refine lv_istore_n (lv' := [(2, .int (-1)), (1, .int (-1)), (0, .ref h)]) hx hb dX8_busy_3 rfl hl (by decide) (zLvf_h rfl) (fun ls hl => ?_)
  refine lv_iconst (v := 0) hx hb dX8_busy_4 (by decide) ?_
  refine lv_istore_n (lv' := [(3, .int 0), (2, .int (-1)), (1, .int (-1)), (0, .ref h)]) hx hb dX8_busy_5 rfl hl (by decide) (zLvf_h rfl) (fun ls hl => ?_)
  refine zEx4 hw ?_
  intro a1_1 a2_2 a3_3 a4_4 hbs9
  clear hw
  subst hbs9
  have G : zS T A s.heap s [[zO4 h cr inn a1_1 a2_2 a3_3 a4_4], [zAr T 0 a1_1 7 f1], [zAr T 0 a2_2 28 f2], [zAr T 0 a3_3 7 f3], [zAr T 0 a4_4 7 f4]] _ _ := G.re rfl
  have hw_5 : bLand T h cr inn f1 f2 f3 f4 [zO4 h cr inn a1_1 a2_2 a3_3 a4_4, zAr T 0 a1_1 7 f1, zAr T 0 a2_2 28 f2, zAr T 0 a3_3 7 f3, zAr T 0 a4_4 7 f4] := ⟨a1_1, a2_2, a3_3, a4_4, rfl⟩
  have G : zS T A s.heap s [[zO4 h cr inn a1_1 a2_2 a3_3 a4_4, zAr T 0 a1_1 7 f1, zAr T 0 a2_2 28 f2, zAr T 0 a3_3 7 f3, zAr T 0 a4_4 7 f4]] _ _ := G.re rfl
  refine z_lp3 (T := T) 6 (fun (i : Nat) (ui1 : Int32) (ui2 : Int32) => [[zO4 h cr inn a1_1 a2_2 a3_3 a4_4, zAr T 0 a1_1 7 f1, zAr T 0 a2_2 28 f2, zAr T 0 a3_3 7 f3, zAr T 0 a4_4 7 f4]]) (fun (i : Nat) (ui1 : Int32) (ui2 : Int32) => [(3, .int (nI i)), (2, .int ui2), (1, .int ui1), (0, .ref h)]) (fun (i : Nat) (ui1 : Int32) (ui2 : Int32) => i ≤ cr.toInt.toNat) (fun (i : Nat) (ui1 : Int32) (ui2 : Int32) => cr.toInt.toNat - i) ?_ 0 (-1) (-1) (show 0 ≤ cr.toInt.toNat from by omega) G (lv_sub hl [0, 1, 2, 3] rfl)
  intro i ui1 ui2 hi ih_6 H locs ls G hl
  replace hi : i ≤ cr.toInt.toNat := hi
  replace G : zS T A s.heap s [[zO4 h cr inn a1_1 a2_2 a3_3 a4_4, zAr T 0 a1_1 7 f1, zAr T 0 a2_2 28 f2, zAr T 0 a3_3 7 f3, zAr T 0 a4_4 7 f4]] _ _ := G
  replace hl : lv_has ls 5 [(3, .int (nI i)), (2, .int ui2), (1, .int ui1), (0, .ref h)] := hl
  refine lv_iload_n hx hb dX8_busy_6 rfl (lv_at hl 0 rfl) ?_
  refine lv_aload_n hx hb dX8_busy_7 rfl (lv_at hl 3 rfl) ?_
  have G : zS T A s.heap s [[zO4 h cr inn a1_1 a2_2 a3_3 a4_4], [zAr T 0 a1_1 7 f1], [zAr T 0 a2_2 28 f2], [zAr T 0 a3_3 7 f3], [zAr T 0 a4_4 7 f4]] _ _ := G.re rfl
  refine z_get C G clX4 0 rfl 0 (by decide) m_fl_RX8_9 rfl dX8_busy_8 ?_
  refine lv_icmp_ge (tgt := 38) hx hb dX8_busy_11 (by decide) (fun c_6 => ?_) (fun c_6 => ?_)
  · have c_6n : cr.toInt ≤ (i : Int) := by have q := (fa_le _ _).mp c_6; rw [nI_toInt (n := i) (by omega)] at q; exact q
    refine lv_iload_n hx hb dX8_busy_38 rfl (lv_at hl 2 rfl) ?_
    have hw_7 : bLand T h cr inn f1 f2 f3 f4 [zO4 h cr inn a1_1 a2_2 a3_3 a4_4, zAr T 0 a1_1 7 f1, zAr T 0 a2_2 28 f2, zAr T 0 a3_3 7 f3, zAr T 0 a4_4 7 f4] := ⟨a1_1, a2_2, a3_3, a4_4, rfl⟩
    have G : zS T A s.heap s [[zO4 h cr inn a1_1 a2_2 a3_3 a4_4, zAr T 0 a1_1 7 f1, zAr T 0 a2_2 28 f2, zAr T 0 a3_3 7 f3, zAr T 0 a4_4 7 f4]] _ _ := G.re rfl
    exact z_back hQz_ (z_iret C hr hlocks G (Nat.le_of_ble_eq_true rfl) (Nat.le_of_ble_eq_true rfl) dX8_busy_39 rfl)
  · have c_6n : ¬ cr.toInt ≤ (i : Int) := fun q => c_6 ((fa_le _ _).mpr (by rw [nI_toInt (n := i) (by omega)]; exact q))
    refine lv_aload_n hx hb dX8_busy_14 rfl (lv_at hl 3 rfl) ?_
    refine lv_iload_n hx hb dX8_busy_15 rfl (lv_at hl 0 rfl) ?_
    have hw_8 : bLand T h cr inn f1 f2 f3 f4 [zO4 h cr inn a1_1 a2_2 a3_3 a4_4, zAr T 0 a1_1 7 f1, zAr T 0 a2_2 28 f2, zAr T 0 a3_3 7 f3, zAr T 0 a4_4 7 f4] := ⟨a1_1, a2_2, a3_3, a4_4, rfl⟩
    have G : zS T A s.heap s [[zO4 h cr inn a1_1 a2_2 a3_3 a4_4, zAr T 0 a1_1 7 f1, zAr T 0 a2_2 28 f2, zAr T 0 a3_3 7 f3, zAr T 0 a4_4 7 f4]] _ _ := G.re rfl
    refine z_Si (bc := [[zO4 h cr inn a1_1 a2_2 a3_3 a4_4, zAr T 0 a1_1 7 f1, zAr T 0 a2_2 28 f2, zAr T 0 a3_3 7 f3, zAr T 0 a4_4 7 f4]]) (br := []) (As := [.ref h, .int (nI i)]) (rest := []) C G (c_howManyLeadTo l T h cr inn f1 f2 f3 f4 ([zO4 h cr inn a1_1 a2_2 a3_3 a4_4, zAr T 0 a1_1 7 f1, zAr T 0 a2_2 28 f2, zAr T 0 a3_3 7 f3, zAr T 0 a4_4 7 f4]) (nI i) hw_8 (by first | with_reducible assumption | with_reducible rfl | omega | assumption | rfl)) (kS_RX8_56 C.2.2.2.2 (Nat.le_of_ble_eq_true rfl) (Nat.le_of_ble_eq_true rfl)) [0] [0] rfl rfl rfl rfl hl.1 dX8_busy_16 (Nat.le_of_ble_eq_true rfl) (Nat.le_of_ble_eq_true rfl) (fun r_9 b1 H locs hw G => ?_)
    obtain rfl := hw
    have G : zS T A s.heap s [[zO4 h cr inn a1_1 a2_2 a3_3 a4_4, zAr T 0 a1_1 7 f1, zAr T 0 a2_2 28 f2, zAr T 0 a3_3 7 f3, zAr T 0 a4_4 7 f4]] _ _ := G
    refine lv_istore (lv' := [(4, .int r_9), (3, .int (nI i)), (2, .int ui2), (1, .int ui1), (0, .ref h)]) hx hb dX8_busy_19 hl (by decide) (zLvf_h rfl) (fun ls hl => ?_)
    refine lv_iload hx hb dX8_busy_21 (lv_at hl 0 rfl) ?_
    refine lv_iload_n hx hb dX8_busy_23 rfl (lv_at hl 2 rfl) ?_
    refine lv_icmp_le (tgt := 32) hx hb dX8_busy_24 (by decide) (fun c_10 => ?_) (fun c_10 => ?_)
    · have c_10n : r_9.toInt ≤ ui2.toInt := (fa_le _ _).mp c_10
      refine lv_iinc (v := nI (i + 1)) (lv' := [(3, .int (nI (i + 1))), (4, .int r_9), (2, .int ui2), (1, .int ui1), (0, .ref h)]) hx hb dX8_busy_32 hl (k := 1) rfl (z_inc i 1) (by decide) (zLvf_h rfl) (fun ls hl => ?_)
      refine lv_goto (tgt := 6) hx hb dX8_busy_35 (by decide) ?_
      exact ih_6 (i + 1) ui1 ui2 (show (i + 1) ≤ cr.toInt.toNat from by omega) (show cr.toInt.toNat - (i + 1) < cr.toInt.toNat - i from by omega) _ _ ls G (lv_sub hl [0, 2, 3, 4] rfl)
    · have c_10n : ¬ r_9.toInt ≤ ui2.toInt := fun q => c_10 ((fa_le _ _).mpr q)
      refine lv_iload hx hb dX8_busy_27 (lv_at hl 0 rfl) ?_
      refine lv_istore_n (lv' := [(2, .int r_9), (4, .int r_9), (3, .int (nI i)), (1, .int ui1), (0, .ref h)]) hx hb dX8_busy_29 rfl hl (by decide) (zLvf_h rfl) (fun ls hl => ?_)
      refine lv_iload_n hx hb dX8_busy_30 rfl (lv_at hl 2 rfl) ?_
      refine lv_istore_n (lv' := [(1, .int (nI i)), (2, .int r_9), (4, .int r_9), (3, .int (nI i)), (0, .ref h)]) hx hb dX8_busy_31 rfl hl (by decide) (zLvf_h rfl) (fun ls hl => ?_)
      refine lv_iinc (v := nI (i + 1)) (lv' := [(3, .int (nI (i + 1))), (1, .int (nI i)), (2, .int r_9), (4, .int r_9), (0, .ref h)]) hx hb dX8_busy_32 hl (k := 3) rfl (z_inc i 1) (by decide) (zLvf_h rfl) (fun ls hl => ?_)
      refine lv_goto (tgt := 6) hx hb dX8_busy_35 (by decide) ?_
      exact ih_6 (i + 1) (nI i) r_9 (show (i + 1) ≤ cr.toInt.toNat from by omega) (show cr.toInt.toNat - (i + 1) < cr.toInt.toNat - i from by omega) _ _ ls G (lv_sub hl [0, 2, 1, 4] rfl)
set_option maxHeartbeats 4000000 in
set_option maxRecDepth 100000 in
/-- bitCount -/
theorem c_bitCount (l : Launch) (T : zTy) (x : Int32) : zMi l T yJ6_bitCount_0f7a4 cJ6_bitCount_0f7a4 1 (some .int) 1 0 0 [.int x] [] (fun (r : Int32) bs => bs = []) := by
  refine zMi_of (own := RJ6) (by decide) rfl (Nat.le_of_ble_eq_true rfl) ?_
  intro p e s m args below meth c A ls C hr hlocks hnm hAe G hl
  refine zHide (fun Qz_ hQz_ => ?_)
  have hx := C.1
  have hb := C.2.1
  have hl : lv_has ls 1 [(0, .int x)] := hl
  refine lv_iload_n hx hb dJ6_bitCount_0f7a4_0 rfl (lv_at hl 0 rfl) ?_
  refine lv_iload_n hx hb dJ6_bitCount_0f7a4_1 rfl (lv_at hl 0 rfl) ?_
  refine lv_iconst (v := 1) hx hb dJ6_bitCount_0f7a4_2 (by decide) ?_
  refine lv_iushr hx hb dJ6_bitCount_0f7a4_3 rfl ?_
  refine lv_ldcw (v := 1431655765) hx hb C.2.2.2.1 (C.2.2.2.2 _ m_ko_RJ6_265) dJ6_bitCount_0f7a4_4 ?_
  refine lv_iand hx hb dJ6_bitCount_0f7a4_7 ?_
  refine lv_isub hx hb dJ6_bitCount_0f7a4_8 ?_
  refine lv_istore_n (lv' := [(0, .int (x - (((x.toUInt32 >>> ((1 : Int32).toUInt32 &&& Int32.toUInt32 31)).toInt32) &&& 1431655765)))]) hx hb dJ6_bitCount_0f7a4_9 rfl hl (by decide) (zLvf_h rfl) (fun ls hl => ?_)
  refine lv_iload_n hx hb dJ6_bitCount_0f7a4_10 rfl (lv_at hl 0 rfl) ?_
  refine lv_ldcw (v := 858993459) hx hb C.2.2.2.1 (C.2.2.2.2 _ m_ko_RJ6_266) dJ6_bitCount_0f7a4_11 ?_
  refine lv_iand hx hb dJ6_bitCount_0f7a4_14 ?_
  refine lv_iload_n hx hb dJ6_bitCount_0f7a4_15 rfl (lv_at hl 0 rfl) ?_
  refine lv_iconst (v := 2) hx hb dJ6_bitCount_0f7a4_16 (by decide) ?_
  refine lv_iushr hx hb dJ6_bitCount_0f7a4_17 rfl ?_
  refine lv_ldcw (v := 858993459) hx hb C.2.2.2.1 (C.2.2.2.2 _ m_ko_RJ6_266) dJ6_bitCount_0f7a4_18 ?_
  refine lv_iand hx hb dJ6_bitCount_0f7a4_21 ?_
  refine lv_iadd hx hb dJ6_bitCount_0f7a4_22 ?_
  refine lv_istore_n (lv' := [(0, .int (((x - (((x.toUInt32 >>> ((1 : Int32).toUInt32 &&& Int32.toUInt32 31)).toInt32) &&& 1431655765)) &&& 858993459) + ((((x - (((x.toUInt32 >>> ((1 : Int32).toUInt32 &&& Int32.toUInt32 31)).toInt32) &&& 1431655765)).toUInt32 >>> ((2 : Int32).toUInt32 &&& Int32.toUInt32 31)).toInt32) &&& 858993459)))]) hx hb dJ6_bitCount_0f7a4_23 rfl hl (by decide) (zLvf_h rfl) (fun ls hl => ?_)
  refine lv_iload_n hx hb dJ6_bitCount_0f7a4_24 rfl (lv_at hl 0 rfl) ?_
  refine lv_iload_n hx hb dJ6_bitCount_0f7a4_25 rfl (lv_at hl 0 rfl) ?_
  refine lv_iconst (v := 4) hx hb dJ6_bitCount_0f7a4_26 (by decide) ?_
  refine lv_iushr hx hb dJ6_bitCount_0f7a4_27 rfl ?_
  refine lv_iadd hx hb dJ6_bitCount_0f7a4_28 ?_
  refine lv_ldcw (v := 252645135) hx hb C.2.2.2.1 (C.2.2.2.2 _ m_ko_RJ6_267) dJ6_bitCount_0f7a4_29 ?_
  refine lv_iand hx hb dJ6_bitCount_0f7a4_32 ?_
  refine lv_istore_n (lv' := [(0, .int (((((x - (((x.toUInt32 >>> ((1 : Int32).toUInt32 &&& Int32.toUInt32 31)).toInt32) &&& 1431655765)) &&& 858993459) + ((((x - (((x.toUInt32 >>> ((1 : Int32).toUInt32 &&& Int32.toUInt32 31)).toInt32) &&& 1431655765)).toUInt32 >>> ((2 : Int32).toUInt32 &&& Int32.toUInt32 31)).toInt32) &&& 858993459)) + (((((x - (((x.toUInt32 >>> ((1 : Int32).toUInt32 &&& Int32.toUInt32 31)).toInt32) &&& 1431655765)) &&& 858993459) + ((((x - (((x.toUInt32 >>> ((1 : Int32).toUInt32 &&& Int32.toUInt32 31)).toInt32) &&& 1431655765)).toUInt32 >>> ((2 : Int32).toUInt32 &&& Int32.toUInt32 31)).toInt32) &&& 858993459)).toUInt32 >>> ((4 : Int32).toUInt32 &&& Int32.toUInt32 31)).toInt32)) &&& 252645135))]) hx hb dJ6_bitCount_0f7a4_33 rfl hl (by decide) (zLvf_h rfl) (fun ls hl => ?_)
  refine lv_iload_n hx hb dJ6_bitCount_0f7a4_34 rfl (lv_at hl 0 rfl) ?_
  refine lv_iload_n hx hb dJ6_bitCount_0f7a4_35 rfl (lv_at hl 0 rfl) ?_
  refine lv_bipush (v := 8) hx hb dJ6_bitCount_0f7a4_36 (by decide) ?_
  refine lv_iushr hx hb dJ6_bitCount_0f7a4_38 rfl ?_
  refine lv_iadd hx hb dJ6_bitCount_0f7a4_39 ?_
  refine lv_istore_n (lv' := [(0, .int ((((((x - (((x.toUInt32 >>> ((1 : Int32).toUInt32 &&& Int32.toUInt32 31)).toInt32) &&& 1431655765)) &&& 858993459) + ((((x - (((x.toUInt32 >>> ((1 : Int32).toUInt32 &&& Int32.toUInt32 31)).toInt32) &&& 1431655765)).toUInt32 >>> ((2 : Int32).toUInt32 &&& Int32.toUInt32 31)).toInt32) &&& 858993459)) + (((((x - (((x.toUInt32 >>> ((1 : Int32).toUInt32 &&& Int32.toUInt32 31)).toInt32) &&& 1431655765)) &&& 858993459) + ((((x - (((x.toUInt32 >>> ((1 : Int32).toUInt32 &&& Int32.toUInt32 31)).toInt32) &&& 1431655765)).toUInt32 >>> ((2 : Int32).toUInt32 &&& Int32.toUInt32 31)).toInt32) &&& 858993459)).toUInt32 >>> ((4 : Int32).toUInt32 &&& Int32.toUInt32 31)).toInt32)) &&& 252645135) + (((((((x - (((x.toUInt32 >>> ((1 : Int32).toUInt32 &&& Int32.toUInt32 31)).toInt32) &&& 1431655765)) &&& 858993459) + ((((x - (((x.toUInt32 >>> ((1 : Int32).toUInt32 &&& Int32.toUInt32 31)).toInt32) &&& 1431655765)).toUInt32 >>> ((2 : Int32).toUInt32 &&& Int32.toUInt32 31)).toInt32) &&& 858993459)) + (((((x - (((x.toUInt32 >>> ((1 : Int32).toUInt32 &&& Int32.toUInt32 31)).toInt32) &&& 1431655765)) &&& 858993459) + ((((x - (((x.toUInt32 >>> ((1 : Int32).toUInt32 &&& Int32.toUInt32 31)).toInt32) &&& 1431655765)).toUInt32 >>> ((2 : Int32).toUInt32 &&& Int32.toUInt32 31)).toInt32) &&& 858993459)).toUInt32 >>> ((4 : Int32).toUInt32 &&& Int32.toUInt32 31)).toInt32)) &&& 252645135).toUInt32 >>> ((8 : Int32).toUInt32 &&& Int32.toUInt32 31)).toInt32)))]) hx hb dJ6_bitCount_0f7a4_40 rfl hl (by decide) (zLvf_h rfl) (fun ls hl => ?_)
  refine lv_iload_n hx hb dJ6_bitCount_0f7a4_41 rfl (lv_at hl 0 rfl) ?_
  refine lv_iload_n hx hb dJ6_bitCount_0f7a4_42 rfl (lv_at hl 0 rfl) ?_
  refine lv_bipush (v := 16) hx hb dJ6_bitCount_0f7a4_43 (by decide) ?_
  refine lv_iushr hx hb dJ6_bitCount_0f7a4_45 rfl ?_
  refine lv_iadd hx hb dJ6_bitCount_0f7a4_46 ?_
  refine lv_istore_n (lv' := [(0, .int (((((((x - (((x.toUInt32 >>> ((1 : Int32).toUInt32 &&& Int32.toUInt32 31)).toInt32) &&& 1431655765)) &&& 858993459) + ((((x - (((x.toUInt32 >>> ((1 : Int32).toUInt32 &&& Int32.toUInt32 31)).toInt32) &&& 1431655765)).toUInt32 >>> ((2 : Int32).toUInt32 &&& Int32.toUInt32 31)).toInt32) &&& 858993459)) + (((((x - (((x.toUInt32 >>> ((1 : Int32).toUInt32 &&& Int32.toUInt32 31)).toInt32) &&& 1431655765)) &&& 858993459) + ((((x - (((x.toUInt32 >>> ((1 : Int32).toUInt32 &&& Int32.toUInt32 31)).toInt32) &&& 1431655765)).toUInt32 >>> ((2 : Int32).toUInt32 &&& Int32.toUInt32 31)).toInt32) &&& 858993459)).toUInt32 >>> ((4 : Int32).toUInt32 &&& Int32.toUInt32 31)).toInt32)) &&& 252645135) + (((((((x - (((x.toUInt32 >>> ((1 : Int32).toUInt32 &&& Int32.toUInt32 31)).toInt32) &&& 1431655765)) &&& 858993459) + ((((x - (((x.toUInt32 >>> ((1 : Int32).toUInt32 &&& Int32.toUInt32 31)).toInt32) &&& 1431655765)).toUInt32 >>> ((2 : Int32).toUInt32 &&& Int32.toUInt32 31)).toInt32) &&& 858993459)) + (((((x - (((x.toUInt32 >>> ((1 : Int32).toUInt32 &&& Int32.toUInt32 31)).toInt32) &&& 1431655765)) &&& 858993459) + ((((x - (((x.toUInt32 >>> ((1 : Int32).toUInt32 &&& Int32.toUInt32 31)).toInt32) &&& 1431655765)).toUInt32 >>> ((2 : Int32).toUInt32 &&& Int32.toUInt32 31)).toInt32) &&& 858993459)).toUInt32 >>> ((4 : Int32).toUInt32 &&& Int32.toUInt32 31)).toInt32)) &&& 252645135).toUInt32 >>> ((8 : Int32).toUInt32 &&& Int32.toUInt32 31)).toInt32)) + ((((((((x - (((x.toUInt32 >>> ((1 : Int32).toUInt32 &&& Int32.toUInt32 31)).toInt32) &&& 1431655765)) &&& 858993459) + ((((x - (((x.toUInt32 >>> ((1 : Int32).toUInt32 &&& Int32.toUInt32 31)).toInt32) &&& 1431655765)).toUInt32 >>> ((2 : Int32).toUInt32 &&& Int32.toUInt32 31)).toInt32) &&& 858993459)) + (((((x - (((x.toUInt32 >>> ((1 : Int32).toUInt32 &&& Int32.toUInt32 31)).toInt32) &&& 1431655765)) &&& 858993459) + ((((x - (((x.toUInt32 >>> ((1 : Int32).toUInt32 &&& Int32.toUInt32 31)).toInt32) &&& 1431655765)).toUInt32 >>> ((2 : Int32).toUInt32 &&& Int32.toUInt32 31)).toInt32) &&& 858993459)).toUInt32 >>> ((4 : Int32).toUInt32 &&& Int32.toUInt32 31)).toInt32)) &&& 252645135) + (((((((x - (((x.toUInt32 >>> ((1 : Int32).toUInt32 &&& Int32.toUInt32 31)).toInt32) &&& 1431655765)) &&& 858993459) + ((((x - (((x.toUInt32 >>> ((1 : Int32).toUInt32 &&& Int32.toUInt32 31)).toInt32) &&& 1431655765)).toUInt32 >>> ((2 : Int32).toUInt32 &&& Int32.toUInt32 31)).toInt32) &&& 858993459)) + (((((x - (((x.toUInt32 >>> ((1 : Int32).toUInt32 &&& Int32.toUInt32 31)).toInt32) &&& 1431655765)) &&& 858993459) + ((((x - (((x.toUInt32 >>> ((1 : Int32).toUInt32 &&& Int32.toUInt32 31)).toInt32) &&& 1431655765)).toUInt32 >>> ((2 : Int32).toUInt32 &&& Int32.toUInt32 31)).toInt32) &&& 858993459)).toUInt32 >>> ((4 : Int32).toUInt32 &&& Int32.toUInt32 31)).toInt32)) &&& 252645135).toUInt32 >>> ((8 : Int32).toUInt32 &&& Int32.toUInt32 31)).toInt32)).toUInt32 >>> ((16 : Int32).toUInt32 &&& Int32.toUInt32 31)).toInt32)))]) hx hb dJ6_bitCount_0f7a4_47 rfl hl (by decide) (zLvf_h rfl) (fun ls hl => ?_)
  refine lv_iload_n hx hb dJ6_bitCount_0f7a4_48 rfl (lv_at hl 0 rfl) ?_
  refine lv_bipush (v := 63) hx hb dJ6_bitCount_0f7a4_49 (by decide) ?_
  refine lv_iand hx hb dJ6_bitCount_0f7a4_51 ?_
  exact z_back hQz_ (z_iret C hr hlocks G (Nat.le_of_ble_eq_true rfl) (Nat.le_of_ble_eq_true rfl) dJ6_bitCount_0f7a4_52 rfl)
set_option maxHeartbeats 4000000 in
set_option maxRecDepth 100000 in
/-- c_parts -/
theorem c_parts (l : Launch) (T : zTy) (h : Nat) (cr : Int32) (inn : Int32) (f1 : Nat → Int32) (f2 : Nat → Int32) (f3 : Nat → Int32) (f4 : Nat → Int32) (w : va_W) (x : Int32) (hw : bLand T h cr inn f1 f2 f3 f4 w) (hI : zLI cr f1 f3) : zMi l T yX8_parts cX8_parts 6 (some .int) 6 0 0 [.ref h, .int x] [w] (fun (r : Int32) bs => bs = [w]) := by
  refine zMi_of (own := RX8) (by decide) rfl (Nat.le_of_ble_eq_true rfl) ?_
  intro p e s m args below meth c A ls C hr hlocks hnm hAe G hl
  refine zHide (fun Qz_ hQz_ => ?_)
  have hx := C.1
  have hb := C.2.1
  have hl : lv_has ls 6 [(0, .ref h), (1, .int x)] := hl
  have hcr := hI.1
  refine lv_iconst (v := 0) hx hb dX8_parts_0 (by decide) ?_
  refine lv_istore_n (lv' := [(2, .int 0), (0, .ref h), (1, .int x)]) hx hb dX8_parts_1 rfl hl (by decide) (zLvf_h rfl) (fun ls hl => ?_)
  refine lv_iconst (v := 0) hx hb dX8_parts_2 (by decide) ?_
  refine lv_istore_n (lv' := [(3, .int 0), (2, .int 0), (0, .ref h), (1, .int x)]) hx hb dX8_parts_3 rfl hl (by decide) (zLvf_h rfl) (fun ls hl => ?_)
  refine lv_iconst (v := 0) hx hb dX8_parts_4 (by decide) ?_
  refine lv_istore (lv' := [(4, .int 0), (3, .int 0), (2, .int 0), (0, .ref h), (1, .int x)]) hx hb dX8_parts_5 hl (by decide) (zLvf_h rfl) (fun ls hl => ?_)
  refine zEx4 hw ?_
  intro a1_1 a2_2 a3_3 a4_4 hbs9
  clear hw
  subst hbs9
  have G : zS T A s.heap s [[zO4 h cr inn a1_1 a2_2 a3_3 a4_4], [zAr T 0 a1_1 7 f1], [zAr T 0 a2_2 28 f2], [zAr T 0 a3_3 7 f3], [zAr T 0 a4_4 7 f4]] _ _ := G.re rfl
  have hw_5 : bLand T h cr inn f1 f2 f3 f4 [zO4 h cr inn a1_1 a2_2 a3_3 a4_4, zAr T 0 a1_1 7 f1, zAr T 0 a2_2 28 f2, zAr T 0 a3_3 7 f3, zAr T 0 a4_4 7 f4] := ⟨a1_1, a2_2, a3_3, a4_4, rfl⟩
  have G : zS T A s.heap s [[zO4 h cr inn a1_1 a2_2 a3_3 a4_4, zAr T 0 a1_1 7 f1, zAr T 0 a2_2 28 f2, zAr T 0 a3_3 7 f3, zAr T 0 a4_4 7 f4]] _ _ := G.re rfl
  refine z_lp3 (T := T) 7 (fun (i : Nat) (ui2 : Int32) (ui3 : Int32) => [[zO4 h cr inn a1_1 a2_2 a3_3 a4_4, zAr T 0 a1_1 7 f1, zAr T 0 a2_2 28 f2, zAr T 0 a3_3 7 f3, zAr T 0 a4_4 7 f4]]) (fun (i : Nat) (ui2 : Int32) (ui3 : Int32) => [(4, .int (nI i)), (3, .int ui3), (2, .int ui2), (0, .ref h), (1, .int x)]) (fun (i : Nat) (ui2 : Int32) (ui3 : Int32) => i ≤ cr.toInt.toNat) (fun (i : Nat) (ui2 : Int32) (ui3 : Int32) => cr.toInt.toNat - i) ?_ 0 0 0 (show 0 ≤ cr.toInt.toNat from by omega) G (lv_sub hl [0, 1, 2, 3, 4] rfl)
  intro i ui2 ui3 hi ih_7 H locs ls G hl
  replace hi : i ≤ cr.toInt.toNat := hi
  replace G : zS T A s.heap s [[zO4 h cr inn a1_1 a2_2 a3_3 a4_4, zAr T 0 a1_1 7 f1, zAr T 0 a2_2 28 f2, zAr T 0 a3_3 7 f3, zAr T 0 a4_4 7 f4]] _ _ := G
  replace hl : lv_has ls 6 [(4, .int (nI i)), (3, .int ui3), (2, .int ui2), (0, .ref h), (1, .int x)] := hl
  refine lv_iload hx hb dX8_parts_7 (lv_at hl 0 rfl) ?_
  refine lv_aload_n hx hb dX8_parts_9 rfl (lv_at hl 3 rfl) ?_
  have G : zS T A s.heap s [[zO4 h cr inn a1_1 a2_2 a3_3 a4_4], [zAr T 0 a1_1 7 f1], [zAr T 0 a2_2 28 f2], [zAr T 0 a3_3 7 f3], [zAr T 0 a4_4 7 f4]] _ _ := G.re rfl
  refine z_get C G clX4 0 rfl 0 (by decide) m_fl_RX8_9 rfl dX8_parts_10 ?_
  refine lv_icmp_ge (tgt := 55) hx hb dX8_parts_13 (by decide) (fun c_6 => ?_) (fun c_6 => ?_)
  · have c_6n : cr.toInt ≤ (i : Int) := by have q := (fa_le _ _).mp c_6; rw [nI_toInt (n := i) (by omega)] at q; exact q
    refine lv_iload_n hx hb dX8_parts_55 rfl (lv_at hl 4 rfl) ?_
    refine lv_if_eq (tgt := 63) hx hb dX8_parts_56 (by decide) (fun c_7 => ?_) (fun c_7 => ?_)
    · have c_7n : x.toInt = (0 : Int) := (fa_eq _ _).mp c_7
      refine lv_iload_n hx hb dX8_parts_63 rfl (lv_at hl 2 rfl) ?_
      have hw_8 : bLand T h cr inn f1 f2 f3 f4 [zO4 h cr inn a1_1 a2_2 a3_3 a4_4, zAr T 0 a1_1 7 f1, zAr T 0 a2_2 28 f2, zAr T 0 a3_3 7 f3, zAr T 0 a4_4 7 f4] := ⟨a1_1, a2_2, a3_3, a4_4, rfl⟩
      have G : zS T A s.heap s [[zO4 h cr inn a1_1 a2_2 a3_3 a4_4, zAr T 0 a1_1 7 f1, zAr T 0 a2_2 28 f2, zAr T 0 a3_3 7 f3, zAr T 0 a4_4 7 f4]] _ _ := G.re rfl
      exact z_back hQz_ (z_iret C hr hlocks G (Nat.le_of_ble_eq_true rfl) (Nat.le_of_ble_eq_true rfl) dX8_parts_64 rfl)
    · have c_7n : ¬ x.toInt = (0 : Int) := fun q => c_7 ((fa_eq _ _).mpr q)
      refine lv_iload_n hx hb dX8_parts_59 rfl (lv_at hl 1 rfl) ?_
      refine lv_goto (tgt := 64) hx hb dX8_parts_60 (by decide) ?_
      have hw_9 : bLand T h cr inn f1 f2 f3 f4 [zO4 h cr inn a1_1 a2_2 a3_3 a4_4, zAr T 0 a1_1 7 f1, zAr T 0 a2_2 28 f2, zAr T 0 a3_3 7 f3, zAr T 0 a4_4 7 f4] := ⟨a1_1, a2_2, a3_3, a4_4, rfl⟩
      have G : zS T A s.heap s [[zO4 h cr inn a1_1 a2_2 a3_3 a4_4, zAr T 0 a1_1 7 f1, zAr T 0 a2_2 28 f2, zAr T 0 a3_3 7 f3, zAr T 0 a4_4 7 f4]] _ _ := G.re rfl
      exact z_back hQz_ (z_iret C hr hlocks G (Nat.le_of_ble_eq_true rfl) (Nat.le_of_ble_eq_true rfl) dX8_parts_64 rfl)
  · have c_6n : ¬ cr.toInt ≤ (i : Int) := fun q => c_6 ((fa_le _ _).mpr (by rw [nI_toInt (n := i) (by omega)]; exact q))
    refine lv_aload_n hx hb dX8_parts_16 rfl (lv_at hl 3 rfl) ?_
    refine lv_iload hx hb dX8_parts_17 (lv_at hl 0 rfl) ?_
    have hw_10 : bLand T h cr inn f1 f2 f3 f4 [zO4 h cr inn a1_1 a2_2 a3_3 a4_4, zAr T 0 a1_1 7 f1, zAr T 0 a2_2 28 f2, zAr T 0 a3_3 7 f3, zAr T 0 a4_4 7 f4] := ⟨a1_1, a2_2, a3_3, a4_4, rfl⟩
    have G : zS T A s.heap s [[zO4 h cr inn a1_1 a2_2 a3_3 a4_4, zAr T 0 a1_1 7 f1, zAr T 0 a2_2 28 f2, zAr T 0 a3_3 7 f3, zAr T 0 a4_4 7 f4]] _ _ := G.re rfl
    refine z_Si (bc := [[zO4 h cr inn a1_1 a2_2 a3_3 a4_4, zAr T 0 a1_1 7 f1, zAr T 0 a2_2 28 f2, zAr T 0 a3_3 7 f3, zAr T 0 a4_4 7 f4]]) (br := []) (As := [.ref h, .int (nI i)]) (rest := []) C G (c_inOneClass l T h cr inn f1 f2 f3 f4 ([zO4 h cr inn a1_1 a2_2 a3_3 a4_4, zAr T 0 a1_1 7 f1, zAr T 0 a2_2 28 f2, zAr T 0 a3_3 7 f3, zAr T 0 a4_4 7 f4]) (nI i) hw_10 (by first | with_reducible assumption | with_reducible rfl | omega | assumption | rfl)) (kS_RX8_32 C.2.2.2.2 (Nat.le_of_ble_eq_true rfl) (Nat.le_of_ble_eq_true rfl)) [0] [0] rfl rfl rfl rfl hl.1 dX8_parts_19 (Nat.le_of_ble_eq_true rfl) (Nat.le_of_ble_eq_true rfl) (fun r_11 b1 H locs hw G => ?_)
    obtain rfl := hw
    have G : zS T A s.heap s [[zO4 h cr inn a1_1 a2_2 a3_3 a4_4, zAr T 0 a1_1 7 f1, zAr T 0 a2_2 28 f2, zAr T 0 a3_3 7 f3, zAr T 0 a4_4 7 f4]] _ _ := G
    refine lv_istore (lv' := [(5, .int r_11), (4, .int (nI i)), (3, .int ui3), (2, .int ui2), (0, .ref h), (1, .int x)]) hx hb dX8_parts_22 hl (by decide) (zLvf_h rfl) (fun ls hl => ?_)
    refine lv_iload hx hb dX8_parts_24 (lv_at hl 0 rfl) ?_
    refine lv_iconst (v := 1) hx hb dX8_parts_26 (by decide) ?_
    refine lv_iload hx hb dX8_parts_27 (lv_at hl 1 rfl) ?_
    refine lv_ishl hx hb dX8_parts_29 ?_
    refine lv_iconst (v := 1) hx hb dX8_parts_30 (by decide) ?_
    refine lv_isub hx hb dX8_parts_31 ?_
    refine lv_iand hx hb dX8_parts_32 ?_
    refine lv_if_ne (tgt := 39) hx hb dX8_parts_33 (by decide) (fun c_12 => ?_) (fun c_12 => ?_)
    · have c_12n : ¬ (r_11 &&& ((1 <<< ((nI i) &&& 31)) - 1)).toInt = (0 : Int) := fun q => c_12 ((fa_eq _ _).mpr q)
      refine lv_iload_n hx hb dX8_parts_39 rfl (lv_at hl 2 rfl) ?_
      refine lv_iload hx hb dX8_parts_40 (lv_at hl 0 rfl) ?_
      refine z_Si (bc := []) (br := [[zO4 h cr inn a1_1 a2_2 a3_3 a4_4, zAr T 0 a1_1 7 f1, zAr T 0 a2_2 28 f2, zAr T 0 a3_3 7 f3, zAr T 0 a4_4 7 f4]]) (As := [.int r_11]) (rest := [.int ui3]) C G (c_bitCount l T r_11) (kS_RX8_35 C.2.2.2.2 (Nat.le_of_ble_eq_true rfl) (Nat.le_of_ble_eq_true rfl)) [] [] rfl rfl rfl rfl hl.1 dX8_parts_42 (Nat.le_of_ble_eq_true rfl) (Nat.le_of_ble_eq_true rfl) (fun r_13 b1 H locs hw G => ?_)
      obtain rfl := hw
      have G : zS T A s.heap s [[zO4 h cr inn a1_1 a2_2 a3_3 a4_4, zAr T 0 a1_1 7 f1, zAr T 0 a2_2 28 f2, zAr T 0 a3_3 7 f3, zAr T 0 a4_4 7 f4]] _ _ := G
      refine va_mmax hx hb (C.2.2.1.trans hl.1.symm) C.2.2.2.1 (C.2.2.2.2 _ m_ml_RX8_40) (C.2.2.2.2 _ m_st_math_max) (C.2.2.2.2 _ m_ii_math) (C.2.2.2.2 _ m_co_math_max) (Nat.le_of_ble_eq_true rfl) (Nat.le_of_ble_eq_true rfl) (Nat.le_of_ble_eq_true rfl) (Nat.le_of_ble_eq_true rfl) dX8_parts_45 ?_
      refine lv_topi (fun v_14 ev_14 => ?_)
      subst ev_14
      refine lv_istore_n (lv' := [(3, .int (if ui3 < r_13 then r_13 else ui3)), (5, .int r_11), (4, .int (nI i)), (2, .int ui2), (0, .ref h), (1, .int x)]) hx hb dX8_parts_48 rfl hl (by decide) (zLvf_h rfl) (fun ls hl => ?_)
      refine lv_iinc (v := nI (i + 1)) (lv' := [(4, .int (nI (i + 1))), (3, .int (if ui3 < r_13 then r_13 else ui3)), (5, .int r_11), (2, .int ui2), (0, .ref h), (1, .int x)]) hx hb dX8_parts_49 hl (k := 2) rfl (z_inc i 1) (by decide) (zLvf_h rfl) (fun ls hl => ?_)
      refine lv_goto (tgt := 7) hx hb dX8_parts_52 (by decide) ?_
      exact ih_7 (i + 1) ui2 (if ui3 < r_13 then r_13 else ui3) (show (i + 1) ≤ cr.toInt.toNat from by omega) (show cr.toInt.toNat - (i + 1) < cr.toInt.toNat - i from by omega) _ _ ls G (lv_sub hl [0, 1, 3, 4, 5] rfl)
    · have c_12n : (r_11 &&& ((1 <<< ((nI i) &&& 31)) - 1)).toInt = (0 : Int) := (fa_eq _ _).mp c_12
      refine lv_iinc (v := ui2 + 1) (lv' := [(2, .int (ui2 + 1)), (5, .int r_11), (4, .int (nI i)), (3, .int ui3), (0, .ref h), (1, .int x)]) hx hb dX8_parts_36 hl (k := 3) rfl rfl (by decide) (zLvf_h rfl) (fun ls hl => ?_)
      refine lv_iload_n hx hb dX8_parts_39 rfl (lv_at hl 3 rfl) ?_
      refine lv_iload hx hb dX8_parts_40 (lv_at hl 1 rfl) ?_
      refine z_Si (bc := []) (br := [[zO4 h cr inn a1_1 a2_2 a3_3 a4_4, zAr T 0 a1_1 7 f1, zAr T 0 a2_2 28 f2, zAr T 0 a3_3 7 f3, zAr T 0 a4_4 7 f4]]) (As := [.int r_11]) (rest := [.int ui3]) C G (c_bitCount l T r_11) (kS_RX8_35 C.2.2.2.2 (Nat.le_of_ble_eq_true rfl) (Nat.le_of_ble_eq_true rfl)) [] [] rfl rfl rfl rfl hl.1 dX8_parts_42 (Nat.le_of_ble_eq_true rfl) (Nat.le_of_ble_eq_true rfl) (fun r_15 b1 H locs hw G => ?_)
      obtain rfl := hw
      have G : zS T A s.heap s [[zO4 h cr inn a1_1 a2_2 a3_3 a4_4, zAr T 0 a1_1 7 f1, zAr T 0 a2_2 28 f2, zAr T 0 a3_3 7 f3, zAr T 0 a4_4 7 f4]] _ _ := G
      refine va_mmax hx hb (C.2.2.1.trans hl.1.symm) C.2.2.2.1 (C.2.2.2.2 _ m_ml_RX8_40) (C.2.2.2.2 _ m_st_math_max) (C.2.2.2.2 _ m_ii_math) (C.2.2.2.2 _ m_co_math_max) (Nat.le_of_ble_eq_true rfl) (Nat.le_of_ble_eq_true rfl) (Nat.le_of_ble_eq_true rfl) (Nat.le_of_ble_eq_true rfl) dX8_parts_45 ?_
      refine lv_topi (fun v_16 ev_16 => ?_)
      subst ev_16
      refine lv_istore_n (lv' := [(3, .int (if ui3 < r_15 then r_15 else ui3)), (2, .int (ui2 + 1)), (5, .int r_11), (4, .int (nI i)), (0, .ref h), (1, .int x)]) hx hb dX8_parts_48 rfl hl (by decide) (zLvf_h rfl) (fun ls hl => ?_)
      refine lv_iinc (v := nI (i + 1)) (lv' := [(4, .int (nI (i + 1))), (3, .int (if ui3 < r_15 then r_15 else ui3)), (2, .int (ui2 + 1)), (5, .int r_11), (0, .ref h), (1, .int x)]) hx hb dX8_parts_49 hl (k := 3) rfl (z_inc i 1) (by decide) (zLvf_h rfl) (fun ls hl => ?_)
      refine lv_goto (tgt := 7) hx hb dX8_parts_52 (by decide) ?_
      exact ih_7 (i + 1) (ui2 + 1) (if ui3 < r_15 then r_15 else ui3) (show (i + 1) ≤ cr.toInt.toNat from by omega) (show cr.toInt.toNat - (i + 1) < cr.toInt.toNat - i from by omega) _ _ ls G (lv_sub hl [0, 1, 2, 4, 5] rfl)
set_option maxHeartbeats 4000000 in
set_option maxRecDepth 100000 in
/-- c_ring -/
theorem c_ring (l : Launch) (T : zTy) (h : Nat) (cr : Int32) (inn : Int32) (f1 : Nat → Int32) (f2 : Nat → Int32) (f3 : Nat → Int32) (f4 : Nat → Int32) (w : va_W) (x : Int32) (hw : bLand T h cr inn f1 f2 f3 f4 w) (hI : zLI cr f1 f3) : zMi l T yX8_ring cX8_ring 4 (some .int) 3 0 0 [.ref h, .int x] [w] (fun (r : Int32) bs => bs = [w]) := by
  refine zMi_of (own := RX8) (by decide) rfl (Nat.le_of_ble_eq_true rfl) ?_
  intro p e s m args below meth c A ls C hr hlocks hnm hAe G hl
  refine zHide (fun Qz_ hQz_ => ?_)
  have hx := C.1
  have hb := C.2.1
  have hl : lv_has ls 4 [(0, .ref h), (1, .int x)] := hl
  have hcr := hI.1
  refine lv_iload_n hx hb dX8_ring_0 rfl (lv_at hl 1 rfl) ?_
  refine lv_istore_n (lv' := [(2, .int x), (0, .ref h), (1, .int x)]) hx hb dX8_ring_1 rfl hl (by decide) (zLvf_h rfl) (fun ls hl => ?_)
  refine lv_iconst (v := 1) hx hb dX8_ring_2 (by decide) ?_
  refine lv_istore_n (lv' := [(3, .int 1), (2, .int x), (0, .ref h), (1, .int x)]) hx hb dX8_ring_3 rfl hl (by decide) (zLvf_h rfl) (fun ls hl => ?_)
  refine zEx4 hw ?_
  intro a1_1 a2_2 a3_3 a4_4 hbs9
  clear hw
  subst hbs9
  have G : zS T A s.heap s [[zO4 h cr inn a1_1 a2_2 a3_3 a4_4], [zAr T 0 a1_1 7 f1], [zAr T 0 a2_2 28 f2], [zAr T 0 a3_3 7 f3], [zAr T 0 a4_4 7 f4]] _ _ := G.re rfl
  have hw_5 : bLand T h cr inn f1 f2 f3 f4 [zO4 h cr inn a1_1 a2_2 a3_3 a4_4, zAr T 0 a1_1 7 f1, zAr T 0 a2_2 28 f2, zAr T 0 a3_3 7 f3, zAr T 0 a4_4 7 f4] := ⟨a1_1, a2_2, a3_3, a4_4, rfl⟩
  have G : zS T A s.heap s [[zO4 h cr inn a1_1 a2_2 a3_3 a4_4, zAr T 0 a1_1 7 f1, zAr T 0 a2_2 28 f2, zAr T 0 a3_3 7 f3, zAr T 0 a4_4 7 f4]] _ _ := G.re rfl
  refine z_lp2 (T := T) 4 (fun (i : Nat) (ui2 : Int32) => [[zO4 h cr inn a1_1 a2_2 a3_3 a4_4, zAr T 0 a1_1 7 f1, zAr T 0 a2_2 28 f2, zAr T 0 a3_3 7 f3, zAr T 0 a4_4 7 f4]]) (fun (i : Nat) (ui2 : Int32) => [(3, .int (nI i)), (2, .int ui2), (0, .ref h), (1, .int x)]) (fun (i : Nat) (ui2 : Int32) => i ≤ 8) (fun (i : Nat) (ui2 : Int32) => 8 - i) ?_ 1 x (show 1 ≤ 8 from by omega) G (lv_sub hl [0, 1, 2, 3] rfl)
  intro i ui2 hi ih_4 H locs ls G hl
  replace hi : i ≤ 8 := hi
  replace G : zS T A s.heap s [[zO4 h cr inn a1_1 a2_2 a3_3 a4_4, zAr T 0 a1_1 7 f1, zAr T 0 a2_2 28 f2, zAr T 0 a3_3 7 f3, zAr T 0 a4_4 7 f4]] _ _ := G
  replace hl : lv_has ls 4 [(3, .int (nI i)), (2, .int ui2), (0, .ref h), (1, .int x)] := hl
  refine lv_iload_n hx hb dX8_ring_4 rfl (lv_at hl 0 rfl) ?_
  refine lv_bipush (v := 7) hx hb dX8_ring_5 (by decide) ?_
  refine lv_icmp_gt (tgt := 47) hx hb dX8_ring_7 (by decide) (fun c_6 => ?_) (fun c_6 => ?_)
  · have c_6n : 7 < i := (nI_ltI (a := 7) (b := i) (by omega) (by omega)).mp c_6
    refine lv_iconst (v := 0) hx hb dX8_ring_47 (by decide) ?_
    exact z_back hQz_ (z_iret C hr hlocks G (Nat.le_of_ble_eq_true rfl) (Nat.le_of_ble_eq_true rfl) dX8_ring_48 rfl)
  · have c_6n : ¬ 7 < i := fun q => c_6 ((nI_ltI (a := 7) (b := i) (by omega) (by omega)).mpr q)
    refine lv_aload_n hx hb dX8_ring_10 rfl (lv_at hl 2 rfl) ?_
    refine lv_iload_n hx hb dX8_ring_11 rfl (lv_at hl 1 rfl) ?_
    refine z_Vi (bc := [[zO4 h cr inn a1_1 a2_2 a3_3 a4_4, zAr T 0 a1_1 7 f1, zAr T 0 a2_2 28 f2, zAr T 0 a3_3 7 f3, zAr T 0 a4_4 7 f4]]) (br := []) (As := [.int ui2]) (rest := []) C G (c_has l T h cr inn f1 f2 f3 f4 ([zO4 h cr inn a1_1 a2_2 a3_3 a4_4, zAr T 0 a1_1 7 f1, zAr T 0 a2_2 28 f2, zAr T 0 a3_3 7 f3, zAr T 0 a4_4 7 f4]) ui2 hw_5) (kV_RX8_59 C.2.2.2.2 (Nat.le_of_ble_eq_true rfl) (Nat.le_of_ble_eq_true rfl)) [0] [0] rfl rfl (ci := 4) (qc := (RX4, TX4, 6)) rfl rfl (List.mem_flatten.mpr ⟨_, List.mem_of_getElem? (i := 0) rfl, (bLand_mem hw_5).choose_spec⟩) rfl rfl hl.1 dX8_ring_12 (Nat.le_of_ble_eq_true rfl) (Nat.le_of_ble_eq_true rfl) (fun r_8 b1 H locs hw G => ?_)
    refine zAn2 hw ?_
    intro hbs9 hc_7
    clear hw
    subst hbs9
    have G : zS T A s.heap s [[zO4 h cr inn a1_1 a2_2 a3_3 a4_4, zAr T 0 a1_1 7 f1, zAr T 0 a2_2 28 f2, zAr T 0 a3_3 7 f3, zAr T 0 a4_4 7 f4]] _ _ := G
    rcases hc_7 with ⟨rfl, h_9, h_10, h_11⟩ | ⟨rfl, h_12⟩
    · have h_9 : 0 ≤ ui2.toInt := h_9
      have h_10 : ui2.toInt < cr.toInt := h_10
      have h_11 : ui2.toInt < 7 := h_11
      refine lv_if_eq (tgt := 32) hx hb dX8_ring_15 (by decide) (fun q => absurd q (by decide)) (fun _ => ?_)
      refine lv_aload_n hx hb dX8_ring_18 rfl (lv_at hl 2 rfl) ?_
      refine lv_iload_n hx hb dX8_ring_19 rfl (lv_at hl 1 rfl) ?_
      refine lv_aload_n hx hb dX8_ring_20 rfl (lv_at hl 2 rfl) ?_
      have G : zS T A s.heap s [[zO4 h cr inn a1_1 a2_2 a3_3 a4_4], [zAr T 0 a1_1 7 f1], [zAr T 0 a2_2 28 f2], [zAr T 0 a3_3 7 f3], [zAr T 0 a4_4 7 f4]] _ _ := G.re rfl
      refine z_get C G clX4 0 rfl 4 (by decide) m_fl_RX8_62 rfl dX8_ring_21 ?_
      refine lv_iload_n hx hb dX8_ring_24 rfl (lv_at hl 1 rfl) ?_
      refine z_ild C G 3 rfl (vp_in_iff.mpr ⟨by omega, by omega⟩) dX8_ring_25 ?_
      refine lv_topi (fun v_13 ev_13 => ?_)
      subst ev_13
      have hw_14 : bLand T h cr inn f1 f2 f3 f4 [zO4 h cr inn a1_1 a2_2 a3_3 a4_4, zAr T 0 a1_1 7 f1, zAr T 0 a2_2 28 f2, zAr T 0 a3_3 7 f3, zAr T 0 a4_4 7 f4] := ⟨a1_1, a2_2, a3_3, a4_4, rfl⟩
      have G : zS T A s.heap s [[zO4 h cr inn a1_1 a2_2 a3_3 a4_4, zAr T 0 a1_1 7 f1, zAr T 0 a2_2 28 f2, zAr T 0 a3_3 7 f3, zAr T 0 a4_4 7 f4]] _ _ := G.re rfl
      refine z_Vi (bc := [[zO4 h cr inn a1_1 a2_2 a3_3 a4_4, zAr T 0 a1_1 7 f1, zAr T 0 a2_2 28 f2, zAr T 0 a3_3 7 f3, zAr T 0 a4_4 7 f4]]) (br := []) (As := [.int ui2, .int (f3 ui2.toNatClampNeg)]) (rest := []) C G (c_target l T h cr inn f1 f2 f3 f4 ([zO4 h cr inn a1_1 a2_2 a3_3 a4_4, zAr T 0 a1_1 7 f1, zAr T 0 a2_2 28 f2, zAr T 0 a3_3 7 f3, zAr T 0 a4_4 7 f4]) ui2 (f3 ui2.toNatClampNeg) hw_14) (kV_RX8_19 C.2.2.2.2 (Nat.le_of_ble_eq_true rfl) (Nat.le_of_ble_eq_true rfl)) [0] [0] rfl rfl (ci := 4) (qc := (RX4, TX4, 6)) rfl rfl (List.mem_flatten.mpr ⟨_, List.mem_of_getElem? (i := 0) rfl, (bLand_mem hw_14).choose_spec⟩) rfl rfl hl.1 dX8_ring_26 (Nat.le_of_ble_eq_true rfl) (Nat.le_of_ble_eq_true rfl) (fun r_16 b1 H locs hw G => ?_)
      refine zAn2 hw ?_
      intro hbs9 h_15
      clear hw
      subst hbs9
      have G : zS T A s.heap s [[zO4 h cr inn a1_1 a2_2 a3_3 a4_4, zAr T 0 a1_1 7 f1, zAr T 0 a2_2 28 f2, zAr T 0 a3_3 7 f3, zAr T 0 a4_4 7 f4]] _ _ := G
      subst h_15
      refine lv_goto (tgt := 33) hx hb dX8_ring_29 (by decide) ?_
      refine lv_istore_n (lv' := [(2, .int (zTarget cr f1 f2 ui2 (f3 ui2.toNatClampNeg))), (3, .int (nI i)), (0, .ref h), (1, .int x)]) hx hb dX8_ring_33 rfl hl (by decide) (zLvf_h rfl) (fun ls hl => ?_)
      refine lv_iload_n hx hb dX8_ring_34 rfl (lv_at hl 0 rfl) ?_
      refine lv_iload_n hx hb dX8_ring_35 rfl (lv_at hl 3 rfl) ?_
      refine lv_icmp_ne (tgt := 41) hx hb dX8_ring_36 (by decide) (fun c_17 => ?_) (fun c_17 => ?_)
      · have c_17n : ¬ (zTarget cr f1 f2 ui2 (f3 ui2.toNatClampNeg)).toInt = x.toInt := fun q => c_17 ((fa_eq _ _).mpr q)
        refine lv_iinc (v := nI (i + 1)) (lv' := [(3, .int (nI (i + 1))), (2, .int (zTarget cr f1 f2 ui2 (f3 ui2.toNatClampNeg))), (0, .ref h), (1, .int x)]) hx hb dX8_ring_41 hl (k := 1) rfl (z_inc i 1) (by decide) (zLvf_h rfl) (fun ls hl => ?_)
        refine lv_goto (tgt := 4) hx hb dX8_ring_44 (by decide) ?_
        exact ih_4 (i + 1) (zTarget cr f1 f2 ui2 (f3 ui2.toNatClampNeg)) (show (i + 1) ≤ 8 from by omega) (show 8 - (i + 1) < 8 - i from by omega) _ _ ls G (lv_sub hl [0, 1, 2, 3] rfl)
      · have c_17n : (zTarget cr f1 f2 ui2 (f3 ui2.toNatClampNeg)).toInt = x.toInt := (fa_eq _ _).mp c_17
        refine lv_iload_n hx hb dX8_ring_39 rfl (lv_at hl 1 rfl) ?_
        exact z_back hQz_ (z_iret C hr hlocks G (Nat.le_of_ble_eq_true rfl) (Nat.le_of_ble_eq_true rfl) dX8_ring_40 rfl)
    · have h_12 : (ui2.toInt < 0 ∨ cr.toInt ≤ ui2.toInt ∨ 7 ≤ ui2.toInt) := h_12
      refine lv_if_eq (tgt := 32) hx hb dX8_ring_15 (by decide) (fun _ => ?_) (fun q => absurd (by decide) q)
      refine lv_iconst (v := (-1)) hx hb dX8_ring_32 (by decide) ?_
      refine lv_istore_n (lv' := [(2, .int (-1)), (3, .int (nI i)), (0, .ref h), (1, .int x)]) hx hb dX8_ring_33 rfl hl (by decide) (zLvf_h rfl) (fun ls hl => ?_)
      refine lv_iload_n hx hb dX8_ring_34 rfl (lv_at hl 0 rfl) ?_
      refine lv_iload_n hx hb dX8_ring_35 rfl (lv_at hl 3 rfl) ?_
      refine lv_icmp_ne (tgt := 41) hx hb dX8_ring_36 (by decide) (fun c_18 => ?_) (fun c_18 => ?_)
      · have c_18n : ¬ (-1 : Int) = x.toInt := fun q => c_18 ((fa_eq _ _).mpr q)
        refine lv_iinc (v := nI (i + 1)) (lv' := [(3, .int (nI (i + 1))), (2, .int (-1)), (0, .ref h), (1, .int x)]) hx hb dX8_ring_41 hl (k := 1) rfl (z_inc i 1) (by decide) (zLvf_h rfl) (fun ls hl => ?_)
        refine lv_goto (tgt := 4) hx hb dX8_ring_44 (by decide) ?_
        exact ih_4 (i + 1) (-1) (show (i + 1) ≤ 8 from by omega) (show 8 - (i + 1) < 8 - i from by omega) _ _ ls G (lv_sub hl [0, 1, 2, 3] rfl)
      · have c_18n : (-1 : Int) = x.toInt := (fa_eq _ _).mp c_18
        refine lv_iload_n hx hb dX8_ring_39 rfl (lv_at hl 1 rfl) ?_
        exact z_back hQz_ (z_iret C hr hlocks G (Nat.le_of_ble_eq_true rfl) (Nat.le_of_ble_eq_true rfl) dX8_ring_40 rfl)
theorem m_fl_RX10_51 : Cond.fieldLink RX10 51 (TX10 5).1 (TX10 5).2.1 (TX10 5).2.2.1 ∈ zT := zmem1 zsub_2 74 rfl rfl
theorem m_fl_RX10_44 : Cond.fieldLink RX10 44 (TX10 6).1 (TX10 6).2.1 (TX10 6).2.2.1 ∈ zT := zmem1 zsub_2 76 rfl rfl
theorem m_fl_RX10_35 : Cond.fieldLink RX10 35 (TX10 3).1 (TX10 3).2.1 (TX10 3).2.2.1 ∈ zT := zmem1 zsub_2 71 rfl rfl
theorem m_fl_RX10_38 : Cond.fieldLink RX10 38 (TX10 4).1 (TX10 4).2.1 (TX10 4).2.2.1 ∈ zT := zmem1 zsub_2 72 rfl rfl
theorem m_co_X6_begin : Cond.code yX6_begin cX6_begin 3 none ∈ zT := zmem1 zsub_4 8 rfl rfl
theorem m_ml_RX10_25 : Cond.methodLink RX10 25 yX6_begin ∈ zT := zmem1 zsub_4 127 rfl rfl
theorem m_im_X6_begin : Cond.instanceMethod yX6_begin ∈ zT := zmem1 zsub_4 6 rfl rfl
theorem m_se_X6_begin : Cond.selects RX6 yX6_begin yX6_begin ∈ zT := zmem1 zsub_4 7 rfl rfl
theorem m_ml_RX10_29 : Cond.methodLink RX10 29 yX8_reached ∈ zT := zmem1 zsub_4 128 rfl rfl
theorem m_fl_RX10_41 : Cond.fieldLink RX10 41 (TX10 7).1 (TX10 7).2.1 (TX10 7).2.2.1 ∈ zT := zmem1 zsub_2 78 rfl rfl
theorem m_co_X10_arrive : Cond.code yX10_arrive cX10_arrive 4 (some .int) ∈ zT := zmem1 zsub_4 139 rfl rfl
theorem m_ml_RX10_47 : Cond.methodLink RX10 47 yX10_arrive ∈ zT := zmem1 zsub_4 136 rfl rfl
theorem m_im_X10_arrive : Cond.instanceMethod yX10_arrive ∈ zT := zmem1 zsub_4 138 rfl rfl
theorem m_se_X10_arrive : Cond.selects RX10 yX10_arrive yX10_arrive ∈ zT := zmem 28 rfl rfl
theorem m_ii_RX10 : Cond.initialized RX10 ∈ zT := zmem1 zsub_1 9 rfl rfl
theorem m_ml_RX10_54 : Cond.methodLink RX10 54 yX6_step ∈ zT := zmem1 zsub_4 140 rfl rfl
theorem m_fl_RX10_58 : Cond.fieldLink RX10 58 (TX6 1).1 (TX6 1).2.1 (TX6 1).2.2.1 ∈ zT := zmem1 zsub_1 228 rfl rfl
theorem m_fl_RX10_61 : Cond.fieldLink RX10 61 (TX6 0).1 (TX6 0).2.1 (TX6 0).2.2.1 ∈ zT := zmem1 zsub_1 226 rfl rfl
theorem m_fl_RX10_65 : Cond.fieldLink RX10 65 (TX4 0).1 (TX4 0).2.1 (TX4 0).2.2.1 ∈ zT := zmem1 zsub_1 43 rfl rfl
theorem m_ml_RX10_70 : Cond.methodLink RX10 70 yX4_waysOut ∈ zT := zmem1 zsub_4 150 rfl rfl
theorem m_ml_RX10_73 : Cond.methodLink RX10 73 yJ6_bitCount_0f7a4 ∈ zT := zmem1 zsub_4 151 rfl rfl
theorem m_ml_RX10_78 : Cond.methodLink RX10 78 yX4_isInn ∈ zT := zmem1 zsub_4 161 rfl rfl
theorem m_co_X6_code : Cond.code yX6_code cX6_code 3 (some .int) ∈ zT := zmem1 zsub_4 165 rfl rfl
theorem m_ml_RX10_82 : Cond.methodLink RX10 82 yX6_code ∈ zT := zmem1 zsub_4 162 rfl rfl
theorem m_im_X6_code : Cond.instanceMethod yX6_code ∈ zT := zmem1 zsub_4 163 rfl rfl
theorem m_se_X6_code : Cond.selects RX6 yX6_code yX6_code ∈ zT := zmem1 zsub_4 164 rfl rfl
theorem m_fl_RX1_88 : Cond.fieldLink RX1 88 (TX4 0).1 (TX4 0).2.1 (TX4 0).2.2.1 ∈ zT := zmem1 zsub_1 44 rfl rfl
theorem m_ml_RX1_135 : Cond.methodLink RX1 135 yX4_isInn ∈ zT := zmem1 zsub_4 17 rfl rfl
theorem m_fl_RX1_53 : Cond.fieldLink RX1 53 (TX1 9).1 (TX1 9).2.1 (TX1 9).2.2.1 ∈ zT := zmem1 zsub_2 34 rfl rfl
theorem m_ml_RX1_126 : Cond.methodLink RX1 126 Lib.Math.max.name ∈ zT := zmem1 zsub_4 21 rfl rfl
theorem m_fl_RX1_154 : Cond.fieldLink RX1 154 (TX6 1).1 (TX6 1).2.1 (TX6 1).2.2.1 ∈ zT := zmem1 zsub_1 229 rfl rfl
theorem m_fl_RX1_163 : Cond.fieldLink RX1 163 (TX4 4).1 (TX4 4).2.1 (TX4 4).2.2.1 ∈ zT := zmem1 zsub_1 61 rfl rfl
theorem m_fl_RX1_44 : Cond.fieldLink RX1 44 (TX1 6).1 (TX1 6).2.1 (TX1 6).2.2.1 ∈ zT := zmem1 zsub_2 31 rfl rfl
theorem m_fl_RX1_47 : Cond.fieldLink RX1 47 (TX1 7).1 (TX1 7).2.1 (TX1 7).2.2.1 ∈ zT := zmem1 zsub_2 32 rfl rfl
theorem m_fl_RX1_50 : Cond.fieldLink RX1 50 (TX1 8).1 (TX1 8).2.1 (TX1 8).2.2.1 ∈ zT := zmem1 zsub_2 33 rfl rfl
theorem m_co_X1_unlikeTold : Cond.code yX1_unlikeTold cX1_unlikeTold 3 (some .int) ∈ zT := zmem1 zsub_4 102 rfl rfl
theorem m_ml_RX1_159 : Cond.methodLink RX1 159 yX1_unlikeTold ∈ zT := zmem1 zsub_4 99 rfl rfl
theorem m_im_X1_unlikeTold : Cond.instanceMethod yX1_unlikeTold ∈ zT := zmem1 zsub_4 101 rfl rfl
theorem m_se_X1_unlikeTold : Cond.selects RX1 yX1_unlikeTold yX1_unlikeTold ∈ zT := zmem 26 rfl rfl
theorem m_ii_RX1 : Cond.initialized RX1 ∈ zT := zmem1 zsub_1 8 rfl rfl
theorem m_ml_RX1_112 : Cond.methodLink RX1 112 yX4_has ∈ zT := zmem1 zsub_4 30 rfl rfl
theorem m_fl_RX1_157 : Cond.fieldLink RX1 157 (TX6 2).1 (TX6 2).2.1 (TX6 2).2.2.1 ∈ zT := zmem1 zsub_1 232 rfl rfl
theorem m_fl_RX1_34 : Cond.fieldLink RX1 34 (TX1 2).1 (TX1 2).2.1 (TX1 2).2.2.1 ∈ zT := zmem1 zsub_2 26 rfl rfl
theorem m_co_X1_walkersInAll : Cond.code yX1_walkersInAll cX1_walkersInAll 4 (some .int) ∈ zT := zmem1 zsub_4 90 rfl rfl
theorem m_ml_RX1_150 : Cond.methodLink RX1 150 yX1_walkersInAll ∈ zT := zmem1 zsub_4 87 rfl rfl
theorem m_im_X1_walkersInAll : Cond.instanceMethod yX1_walkersInAll ∈ zT := zmem1 zsub_4 89 rfl rfl
theorem m_se_X1_walkersInAll : Cond.selects RX1 yX1_walkersInAll yX1_walkersInAll ∈ zT := zmem 25 rfl rfl
theorem m_fl_RX1_38 : Cond.fieldLink RX1 38 (TX1 4).1 (TX1 4).2.1 (TX1 4).2.2.1 ∈ zT := zmem1 zsub_2 29 rfl rfl
theorem m_fl_RX1_41 : Cond.fieldLink RX1 41 (TX1 5).1 (TX1 5).2.1 (TX1 5).2.2.1 ∈ zT := zmem1 zsub_2 30 rfl rfl
theorem m_ml_RX1_115 : Cond.methodLink RX1 115 yX6_step ∈ zT := zmem1 zsub_4 31 rfl rfl
theorem m_co_X1_move : Cond.code yX1_move cX1_move 3 none ∈ zT := zmem1 zsub_4 42 rfl rfl
theorem m_ml_RX1_118 : Cond.methodLink RX1 118 yX1_move ∈ zT := zmem1 zsub_4 39 rfl rfl
theorem m_im_X1_move : Cond.instanceMethod yX1_move ∈ zT := zmem1 zsub_4 41 rfl rfl
theorem m_se_X1_move : Cond.selects RX1 yX1_move yX1_move ∈ zT := zmem 20 rfl rfl
theorem m_co_X6_run : Cond.code yX6_run cX6_run 4 none ∈ zT := zmem1 zsub_4 50 rfl rfl
theorem m_ml_RX1_122 : Cond.methodLink RX1 122 yX6_run ∈ zT := zmem1 zsub_4 47 rfl rfl
theorem m_im_X6_run : Cond.instanceMethod yX6_run ∈ zT := zmem1 zsub_4 48 rfl rfl
theorem m_se_X6_run : Cond.selects RX6 yX6_run yX6_run ∈ zT := zmem1 zsub_4 49 rfl rfl
theorem m_fl_RX1_125 : Cond.fieldLink RX1 125 (TX6 3).1 (TX6 3).2.1 (TX6 3).2.2.1 ∈ zT := zmem1 zsub_1 234 rfl rfl
theorem m_fl_RX1_132 : Cond.fieldLink RX1 132 (TX6 4).1 (TX6 4).2.1 (TX6 4).2.2.1 ∈ zT := zmem1 zsub_1 236 rfl rfl
theorem m_ml_RX1_138 : Cond.methodLink RX1 138 yX4_hasRoad ∈ zT := zmem1 zsub_4 61 rfl rfl
theorem m_co_X6_isShut : Cond.code yX6_isShut cX6_isShut 3 (some .boolean) ∈ zT := zmem1 zsub_4 65 rfl rfl
theorem m_ml_RX1_141 : Cond.methodLink RX1 141 yX6_isShut ∈ zT := zmem1 zsub_4 62 rfl rfl
theorem m_im_X6_isShut : Cond.instanceMethod yX6_isShut ∈ zT := zmem1 zsub_4 63 rfl rfl
theorem m_se_X6_isShut : Cond.selects RX6 yX6_isShut yX6_isShut ∈ zT := zmem1 zsub_4 64 rfl rfl
theorem m_co_X6_shutRoad : Cond.code yX6_shutRoad cX6_shutRoad 3 none ∈ zT := zmem1 zsub_4 70 rfl rfl
theorem m_ml_RX1_144 : Cond.methodLink RX1 144 yX6_shutRoad ∈ zT := zmem1 zsub_4 67 rfl rfl
theorem m_im_X6_shutRoad : Cond.instanceMethod yX6_shutRoad ∈ zT := zmem1 zsub_4 68 rfl rfl
theorem m_se_X6_shutRoad : Cond.selects RX6 yX6_shutRoad yX6_shutRoad ∈ zT := zmem1 zsub_4 69 rfl rfl
theorem m_co_X6_openRoad : Cond.code yX6_openRoad cX6_openRoad 3 none ∈ zT := zmem1 zsub_4 78 rfl rfl
theorem m_ml_RX1_147 : Cond.methodLink RX1 147 yX6_openRoad ∈ zT := zmem1 zsub_4 75 rfl rfl
theorem m_im_X6_openRoad : Cond.instanceMethod yX6_openRoad ∈ zT := zmem1 zsub_4 76 rfl rfl
theorem m_se_X6_openRoad : Cond.selects RX6 yX6_openRoad yX6_openRoad ∈ zT := zmem1 zsub_4 77 rfl rfl
theorem kV_RX10_25 {R : Room} {s : State} {args : Array Value} {d mc ms : Nat} (hts : ∀ w ∈ zT, w.before args s = true) (h1 : d + 1 ≤ R.frames) (h2 : 8 + (3 + 11) + 40 * d ≤ R.locals) : CallW R s args RX10 RX6 25 yX6_begin cX6_begin 3 none (zW yX6_begin cX6_begin 3 none) (zR d mc ms) mc ms 1 := z_cwV hts m_co_X6_begin m_ml_RX10_25 m_im_X6_begin m_se_X6_begin m_ii_RX6 (by decide +kernel) h1 h2
theorem kS_RX10_29 {R : Room} {s : State} {args : Array Value} {d mc ms : Nat} (hts : ∀ w ∈ zT, w.before args s = true) (h1 : d + 1 ≤ R.frames) (h2 : 8 + (4 + 11) + 40 * d ≤ R.locals) : CallB R s args RX10 29 yX8_reached cX8_reached 4 (some .int) (zW yX8_reached cX8_reached 4 (some .int)) (zR d mc ms) mc ms 2 ∧ (Cond.static yX8_reached).before args s = true := z_cwS hts m_co_X8_reached m_ml_RX10_29 m_st_X8_reached m_ii_RX8 (by decide +kernel) h1 h2
theorem kV_RX10_47 {R : Room} {s : State} {args : Array Value} {d mc ms : Nat} (hts : ∀ w ∈ zT, w.before args s = true) (h1 : d + 1 ≤ R.frames) (h2 : 8 + (4 + 11) + 40 * d ≤ R.locals) : CallW R s args RX10 RX10 47 yX10_arrive cX10_arrive 4 (some .int) (zW yX10_arrive cX10_arrive 4 (some .int)) (zR d mc ms) mc ms 2 := z_cwV hts m_co_X10_arrive m_ml_RX10_47 m_im_X10_arrive m_se_X10_arrive m_ii_RX10 (by decide +kernel) h1 h2
theorem kV_RX10_54 {R : Room} {s : State} {args : Array Value} {d mc ms : Nat} (hts : ∀ w ∈ zT, w.before args s = true) (h1 : d + 1 ≤ R.frames) (h2 : 8 + (4 + 11) + 40 * d ≤ R.locals) : CallW R s args RX10 RX6 54 yX6_step cX6_step 4 (some .int) (zW yX6_step cX6_step 4 (some .int)) (zR d mc ms) mc ms 1 := z_cwV hts m_co_X6_step m_ml_RX10_54 m_im_X6_step m_se_X6_step m_ii_RX6 (by decide +kernel) h1 h2
theorem kV_RX10_70 {R : Room} {s : State} {args : Array Value} {d mc ms : Nat} (hts : ∀ w ∈ zT, w.before args s = true) (h1 : d + 1 ≤ R.frames) (h2 : 8 + (2 + 11) + 40 * d ≤ R.locals) : CallW R s args RX10 RX4 70 yX4_waysOut cX4_waysOut 2 (some .int) (zW yX4_waysOut cX4_waysOut 2 (some .int)) (zR d mc ms) mc ms 1 := z_cwV hts m_co_X4_waysOut m_ml_RX10_70 m_im_X4_waysOut m_se_X4_waysOut m_ii_RX4 (by decide +kernel) h1 h2
theorem kS_RX10_73 {R : Room} {s : State} {args : Array Value} {d mc ms : Nat} (hts : ∀ w ∈ zT, w.before args s = true) (h1 : d + 1 ≤ R.frames) (h2 : 8 + (1 + 11) + 40 * d ≤ R.locals) : CallB R s args RX10 73 yJ6_bitCount_0f7a4 cJ6_bitCount_0f7a4 1 (some .int) (zW yJ6_bitCount_0f7a4 cJ6_bitCount_0f7a4 1 (some .int)) (zR d mc ms) mc ms 1 ∧ (Cond.static yJ6_bitCount_0f7a4).before args s = true := z_cwS hts m_co_J6_bitCount_0f7a4 m_ml_RX10_73 m_st_J6_bitCount_0f7a4 m_ii_RJ6 (by decide +kernel) h1 h2
theorem kV_RX10_78 {R : Room} {s : State} {args : Array Value} {d mc ms : Nat} (hts : ∀ w ∈ zT, w.before args s = true) (h1 : d + 1 ≤ R.frames) (h2 : 8 + (2 + 11) + 40 * d ≤ R.locals) : CallW R s args RX10 RX4 78 yX4_isInn cX4_isInn 2 (some .boolean) (zW yX4_isInn cX4_isInn 2 (some .boolean)) (zR d mc ms) mc ms 1 := z_cwV hts m_co_X4_isInn m_ml_RX10_78 m_im_X4_isInn m_se_X4_isInn m_ii_RX4 (by decide +kernel) h1 h2
theorem kV_RX10_82 {R : Room} {s : State} {args : Array Value} {d mc ms : Nat} (hts : ∀ w ∈ zT, w.before args s = true) (h1 : d + 1 ≤ R.frames) (h2 : 8 + (3 + 11) + 40 * d ≤ R.locals) : CallW R s args RX10 RX6 82 yX6_code cX6_code 3 (some .int) (zW yX6_code cX6_code 3 (some .int)) (zR d mc ms) mc ms 0 := z_cwV hts m_co_X6_code m_ml_RX10_82 m_im_X6_code m_se_X6_code m_ii_RX6 (by decide +kernel) h1 h2
theorem kV_RX1_135 {R : Room} {s : State} {args : Array Value} {d mc ms : Nat} (hts : ∀ w ∈ zT, w.before args s = true) (h1 : d + 1 ≤ R.frames) (h2 : 8 + (2 + 11) + 40 * d ≤ R.locals) : CallW R s args RX1 RX4 135 yX4_isInn cX4_isInn 2 (some .boolean) (zW yX4_isInn cX4_isInn 2 (some .boolean)) (zR d mc ms) mc ms 1 := z_cwV hts m_co_X4_isInn m_ml_RX1_135 m_im_X4_isInn m_se_X4_isInn m_ii_RX4 (by decide +kernel) h1 h2
theorem kV_RX1_159 {R : Room} {s : State} {args : Array Value} {d mc ms : Nat} (hts : ∀ w ∈ zT, w.before args s = true) (h1 : d + 1 ≤ R.frames) (h2 : 8 + (3 + 11) + 40 * d ≤ R.locals) : CallW R s args RX1 RX1 159 yX1_unlikeTold cX1_unlikeTold 3 (some .int) (zW yX1_unlikeTold cX1_unlikeTold 3 (some .int)) (zR d mc ms) mc ms 0 := z_cwV hts m_co_X1_unlikeTold m_ml_RX1_159 m_im_X1_unlikeTold m_se_X1_unlikeTold m_ii_RX1 (by decide +kernel) h1 h2
theorem kV_RX1_112 {R : Room} {s : State} {args : Array Value} {d mc ms : Nat} (hts : ∀ w ∈ zT, w.before args s = true) (h1 : d + 1 ≤ R.frames) (h2 : 8 + (2 + 11) + 40 * d ≤ R.locals) : CallW R s args RX1 RX4 112 yX4_has cX4_has 2 (some .boolean) (zW yX4_has cX4_has 2 (some .boolean)) (zR d mc ms) mc ms 1 := z_cwV hts m_co_X4_has m_ml_RX1_112 m_im_X4_has m_se_X4_has m_ii_RX4 (by decide +kernel) h1 h2
theorem kV_RX1_150 {R : Room} {s : State} {args : Array Value} {d mc ms : Nat} (hts : ∀ w ∈ zT, w.before args s = true) (h1 : d + 1 ≤ R.frames) (h2 : 8 + (4 + 11) + 40 * d ≤ R.locals) : CallW R s args RX1 RX1 150 yX1_walkersInAll cX1_walkersInAll 4 (some .int) (zW yX1_walkersInAll cX1_walkersInAll 4 (some .int)) (zR d mc ms) mc ms 1 := z_cwV hts m_co_X1_walkersInAll m_ml_RX1_150 m_im_X1_walkersInAll m_se_X1_walkersInAll m_ii_RX1 (by decide +kernel) h1 h2
theorem kV_RX1_115 {R : Room} {s : State} {args : Array Value} {d mc ms : Nat} (hts : ∀ w ∈ zT, w.before args s = true) (h1 : d + 1 ≤ R.frames) (h2 : 8 + (4 + 11) + 40 * d ≤ R.locals) : CallW R s args RX1 RX6 115 yX6_step cX6_step 4 (some .int) (zW yX6_step cX6_step 4 (some .int)) (zR d mc ms) mc ms 1 := z_cwV hts m_co_X6_step m_ml_RX1_115 m_im_X6_step m_se_X6_step m_ii_RX6 (by decide +kernel) h1 h2
theorem kV_RX1_118 {R : Room} {s : State} {args : Array Value} {d mc ms : Nat} (hts : ∀ w ∈ zT, w.before args s = true) (h1 : d + 1 ≤ R.frames) (h2 : 8 + (3 + 11) + 40 * d ≤ R.locals) : CallW R s args RX1 RX1 118 yX1_move cX1_move 3 none (zW yX1_move cX1_move 3 none) (zR d mc ms) mc ms 2 := z_cwV hts m_co_X1_move m_ml_RX1_118 m_im_X1_move m_se_X1_move m_ii_RX1 (by decide +kernel) h1 h2
theorem kV_RX1_122 {R : Room} {s : State} {args : Array Value} {d mc ms : Nat} (hts : ∀ w ∈ zT, w.before args s = true) (h1 : d + 1 ≤ R.frames) (h2 : 8 + (4 + 11) + 40 * d ≤ R.locals) : CallW R s args RX1 RX6 122 yX6_run cX6_run 4 none (zW yX6_run cX6_run 4 none) (zR d mc ms) mc ms 1 := z_cwV hts m_co_X6_run m_ml_RX1_122 m_im_X6_run m_se_X6_run m_ii_RX6 (by decide +kernel) h1 h2
theorem kV_RX1_138 {R : Room} {s : State} {args : Array Value} {d mc ms : Nat} (hts : ∀ w ∈ zT, w.before args s = true) (h1 : d + 1 ≤ R.frames) (h2 : 8 + (3 + 11) + 40 * d ≤ R.locals) : CallW R s args RX1 RX4 138 yX4_hasRoad cX4_hasRoad 3 (some .boolean) (zW yX4_hasRoad cX4_hasRoad 3 (some .boolean)) (zR d mc ms) mc ms 2 := z_cwV hts m_co_X4_hasRoad m_ml_RX1_138 m_im_X4_hasRoad m_se_X4_hasRoad m_ii_RX4 (by decide +kernel) h1 h2
theorem kV_RX1_141 {R : Room} {s : State} {args : Array Value} {d mc ms : Nat} (hts : ∀ w ∈ zT, w.before args s = true) (h1 : d + 1 ≤ R.frames) (h2 : 8 + (3 + 11) + 40 * d ≤ R.locals) : CallW R s args RX1 RX6 141 yX6_isShut cX6_isShut 3 (some .boolean) (zW yX6_isShut cX6_isShut 3 (some .boolean)) (zR d mc ms) mc ms 2 := z_cwV hts m_co_X6_isShut m_ml_RX1_141 m_im_X6_isShut m_se_X6_isShut m_ii_RX6 (by decide +kernel) h1 h2
theorem kV_RX1_144 {R : Room} {s : State} {args : Array Value} {d mc ms : Nat} (hts : ∀ w ∈ zT, w.before args s = true) (h1 : d + 1 ≤ R.frames) (h2 : 8 + (3 + 11) + 40 * d ≤ R.locals) : CallW R s args RX1 RX6 144 yX6_shutRoad cX6_shutRoad 3 none (zW yX6_shutRoad cX6_shutRoad 3 none) (zR d mc ms) mc ms 2 := z_cwV hts m_co_X6_shutRoad m_ml_RX1_144 m_im_X6_shutRoad m_se_X6_shutRoad m_ii_RX6 (by decide +kernel) h1 h2
theorem kV_RX1_147 {R : Room} {s : State} {args : Array Value} {d mc ms : Nat} (hts : ∀ w ∈ zT, w.before args s = true) (h1 : d + 1 ≤ R.frames) (h2 : 8 + (3 + 11) + 40 * d ≤ R.locals) : CallW R s args RX1 RX6 147 yX6_openRoad cX6_openRoad 3 none (zW yX6_openRoad cX6_openRoad 3 none) (zR d mc ms) mc ms 2 := z_cwV hts m_co_X6_openRoad m_ml_RX1_147 m_im_X6_openRoad m_se_X6_openRoad m_ii_RX6 (by decide +kernel) h1 h2
theorem dX10_arrive_0 : decode cX10_arrive 0 = .ok (.aload_n 0, 1) := zo_42 (by decide +kernel)
theorem dX10_arrive_1 : decode cX10_arrive 1 = .ok (.iload_n 1, 1) := zo_27 (by decide +kernel)
theorem dX10_arrive_2 : decode cX10_arrive 2 = .ok (.putfield 51, 3) := zo_181 (by decide +kernel)
theorem dX10_arrive_5 : decode cX10_arrive 5 = .ok (.iload_n 1, 1) := zo_27 (by decide +kernel)
theorem dX10_arrive_6 : decode cX10_arrive 6 = .ok (.ifCond .lt 9, 3) := zo_155 (by decide +kernel)
theorem dX10_arrive_9 : decode cX10_arrive 9 = .ok (.iload_n 1, 1) := zo_27 (by decide +kernel)
theorem dX10_arrive_10 : decode cX10_arrive 10 = .ok (.bipush 7, 2) := zo_16 (by decide +kernel)
theorem dX10_arrive_12 : decode cX10_arrive 12 = .ok (.if_icmp .lt 5, 3) := zo_161 (by decide +kernel)
theorem dX10_arrive_15 : decode cX10_arrive 15 = .ok (.iload_n 2, 1) := zo_28 (by decide +kernel)
theorem dX10_arrive_16 : decode cX10_arrive 16 = .ok (.ireturn, 1) := zo_172 (by decide +kernel)
theorem dX10_arrive_17 : decode cX10_arrive 17 = .ok (.aload_n 0, 1) := zo_42 (by decide +kernel)
theorem dX10_arrive_18 : decode cX10_arrive 18 = .ok (.getfield 18, 3) := zo_180 (by decide +kernel)
theorem dX10_arrive_21 : decode cX10_arrive 21 = .ok (.iload_n 1, 1) := zo_27 (by decide +kernel)
theorem dX10_arrive_22 : decode cX10_arrive 22 = .ok (.dup2, 1) := zo_92 (by decide +kernel)
theorem dX10_arrive_23 : decode cX10_arrive 23 = .ok (.iaload, 1) := zo_46 (by decide +kernel)
theorem dX10_arrive_24 : decode cX10_arrive 24 = .ok (.iconst 1, 1) := zo_4 (by decide +kernel)
theorem dX10_arrive_25 : decode cX10_arrive 25 = .ok (.iadd, 1) := zo_96 (by decide +kernel)
theorem dX10_arrive_26 : decode cX10_arrive 26 = .ok (.iastore, 1) := zo_79 (by decide +kernel)
theorem dX10_arrive_27 : decode cX10_arrive 27 = .ok (.iload_n 2, 1) := zo_28 (by decide +kernel)
theorem dX10_arrive_28 : decode cX10_arrive 28 = .ok (.iconst 1, 1) := zo_4 (by decide +kernel)
theorem dX10_arrive_29 : decode cX10_arrive 29 = .ok (.iload_n 1, 1) := zo_27 (by decide +kernel)
theorem dX10_arrive_30 : decode cX10_arrive 30 = .ok (.ishl, 1) := zo_120 (by decide +kernel)
theorem dX10_arrive_31 : decode cX10_arrive 31 = .ok (.ior, 1) := zo_128 (by decide +kernel)
theorem dX10_arrive_32 : decode cX10_arrive 32 = .ok (.istore_n 3, 1) := zo_62 (by decide +kernel)
theorem dX10_arrive_33 : decode cX10_arrive 33 = .ok (.aload_n 0, 1) := zo_42 (by decide +kernel)
theorem dX10_arrive_34 : decode cX10_arrive 34 = .ok (.aload_n 0, 1) := zo_42 (by decide +kernel)
theorem dX10_arrive_35 : decode cX10_arrive 35 = .ok (.getfield 44, 3) := zo_180 (by decide +kernel)
theorem dX10_arrive_38 : decode cX10_arrive 38 = .ok (.iconst (-1), 1) := zo_2 (by decide +kernel)
theorem dX10_arrive_39 : decode cX10_arrive 39 = .ok (.if_icmp .ne 18, 3) := zo_160 (by decide +kernel)
theorem dX10_arrive_42 : decode cX10_arrive 42 = .ok (.iload_n 3, 1) := zo_29 (by decide +kernel)
theorem dX10_arrive_43 : decode cX10_arrive 43 = .ok (.aload_n 0, 1) := zo_42 (by decide +kernel)
theorem dX10_arrive_44 : decode cX10_arrive 44 = .ok (.getfield 35, 3) := zo_180 (by decide +kernel)
theorem dX10_arrive_47 : decode cX10_arrive 47 = .ok (.if_icmp .ne 10, 3) := zo_160 (by decide +kernel)
theorem dX10_arrive_50 : decode cX10_arrive 50 = .ok (.aload_n 0, 1) := zo_42 (by decide +kernel)
theorem dX10_arrive_51 : decode cX10_arrive 51 = .ok (.getfield 38, 3) := zo_180 (by decide +kernel)
theorem dX10_arrive_54 : decode cX10_arrive 54 = .ok (.goto 7, 3) := zo_167 (by decide +kernel)
theorem dX10_arrive_57 : decode cX10_arrive 57 = .ok (.aload_n 0, 1) := zo_42 (by decide +kernel)
theorem dX10_arrive_58 : decode cX10_arrive 58 = .ok (.getfield 44, 3) := zo_180 (by decide +kernel)
theorem dX10_arrive_61 : decode cX10_arrive 61 = .ok (.putfield 44, 3) := zo_181 (by decide +kernel)
theorem dX10_arrive_64 : decode cX10_arrive 64 = .ok (.iload_n 3, 1) := zo_29 (by decide +kernel)
theorem dX10_arrive_65 : decode cX10_arrive 65 = .ok (.ireturn, 1) := zo_172 (by decide +kernel)
theorem dX10_follow_0 : decode cX10_follow 0 = .ok (.aload_n 0, 1) := zo_42 (by decide +kernel)
theorem dX10_follow_1 : decode cX10_follow 1 = .ok (.getfield 12, 3) := zo_180 (by decide +kernel)
theorem dX10_follow_4 : decode cX10_follow 4 = .ok (.aload_n 1, 1) := zo_43 (by decide +kernel)
theorem dX10_follow_5 : decode cX10_follow 5 = .ok (.invokevirtual 25, 3) := zo_182 (by decide +kernel)
theorem dX10_follow_8 : decode cX10_follow 8 = .ok (.iconst 0, 1) := zo_3 (by decide +kernel)
theorem dX10_follow_9 : decode cX10_follow 9 = .ok (.istore_n 3, 1) := zo_62 (by decide +kernel)
theorem dX10_follow_10 : decode cX10_follow 10 = .ok (.iload_n 3, 1) := zo_29 (by decide +kernel)
theorem dX10_follow_11 : decode cX10_follow 11 = .ok (.bipush 7, 2) := zo_16 (by decide +kernel)
theorem dX10_follow_13 : decode cX10_follow 13 = .ok (.if_icmp .ge 23, 3) := zo_162 (by decide +kernel)
theorem dX10_follow_16 : decode cX10_follow 16 = .ok (.aload_n 0, 1) := zo_42 (by decide +kernel)
theorem dX10_follow_17 : decode cX10_follow 17 = .ok (.getfield 18, 3) := zo_180 (by decide +kernel)
theorem dX10_follow_20 : decode cX10_follow 20 = .ok (.iload_n 3, 1) := zo_29 (by decide +kernel)
theorem dX10_follow_21 : decode cX10_follow 21 = .ok (.iconst 0, 1) := zo_3 (by decide +kernel)
theorem dX10_follow_22 : decode cX10_follow 22 = .ok (.iastore, 1) := zo_79 (by decide +kernel)
theorem dX10_follow_23 : decode cX10_follow 23 = .ok (.aload_n 0, 1) := zo_42 (by decide +kernel)
theorem dX10_follow_24 : decode cX10_follow 24 = .ok (.getfield 22, 3) := zo_180 (by decide +kernel)
theorem dX10_follow_27 : decode cX10_follow 27 = .ok (.iload_n 3, 1) := zo_29 (by decide +kernel)
theorem dX10_follow_28 : decode cX10_follow 28 = .ok (.iconst 0, 1) := zo_3 (by decide +kernel)
theorem dX10_follow_29 : decode cX10_follow 29 = .ok (.iastore, 1) := zo_79 (by decide +kernel)
theorem dX10_follow_30 : decode cX10_follow 30 = .ok (.iinc 3 1, 3) := zo_132 (by decide +kernel)
theorem dX10_follow_33 : decode cX10_follow 33 = .ok (.goto (-23), 3) := zo_167 (by decide +kernel)
theorem dX10_follow_36 : decode cX10_follow 36 = .ok (.aload_n 0, 1) := zo_42 (by decide +kernel)
theorem dX10_follow_37 : decode cX10_follow 37 = .ok (.aload_n 1, 1) := zo_43 (by decide +kernel)
theorem dX10_follow_38 : decode cX10_follow 38 = .ok (.iload_n 2, 1) := zo_28 (by decide +kernel)
theorem dX10_follow_39 : decode cX10_follow 39 = .ok (.invokestatic 29, 3) := zo_184 (by decide +kernel)
theorem dX10_follow_42 : decode cX10_follow 42 = .ok (.putfield 35, 3) := zo_181 (by decide +kernel)
theorem dX10_follow_45 : decode cX10_follow 45 = .ok (.aload_n 0, 1) := zo_42 (by decide +kernel)
theorem dX10_follow_46 : decode cX10_follow 46 = .ok (.iconst 0, 1) := zo_3 (by decide +kernel)
theorem dX10_follow_47 : decode cX10_follow 47 = .ok (.putfield 38, 3) := zo_181 (by decide +kernel)
theorem dX10_follow_50 : decode cX10_follow 50 = .ok (.aload_n 0, 1) := zo_42 (by decide +kernel)
theorem dX10_follow_51 : decode cX10_follow 51 = .ok (.iconst (-1), 1) := zo_2 (by decide +kernel)
theorem dX10_follow_52 : decode cX10_follow 52 = .ok (.putfield 41, 3) := zo_181 (by decide +kernel)
theorem dX10_follow_55 : decode cX10_follow 55 = .ok (.aload_n 0, 1) := zo_42 (by decide +kernel)
theorem dX10_follow_56 : decode cX10_follow 56 = .ok (.iconst (-1), 1) := zo_2 (by decide +kernel)
theorem dX10_follow_57 : decode cX10_follow 57 = .ok (.putfield 44, 3) := zo_181 (by decide +kernel)
theorem dX10_follow_60 : decode cX10_follow 60 = .ok (.aload_n 0, 1) := zo_42 (by decide +kernel)
theorem dX10_follow_61 : decode cX10_follow 61 = .ok (.iload_n 2, 1) := zo_28 (by decide +kernel)
theorem dX10_follow_62 : decode cX10_follow 62 = .ok (.iconst 0, 1) := zo_3 (by decide +kernel)
theorem dX10_follow_63 : decode cX10_follow 63 = .ok (.invokevirtual 47, 3) := zo_182 (by decide +kernel)
theorem dX10_follow_66 : decode cX10_follow 66 = .ok (.istore_n 3, 1) := zo_62 (by decide +kernel)
theorem dX10_follow_67 : decode cX10_follow 67 = .ok (.iconst 0, 1) := zo_3 (by decide +kernel)
theorem dX10_follow_68 : decode cX10_follow 68 = .ok (.istore 4, 2) := zo_54 (by decide +kernel)
theorem dX10_follow_70 : decode cX10_follow 70 = .ok (.iload 4, 2) := zo_21 (by decide +kernel)
theorem dX10_follow_72 : decode cX10_follow 72 = .ok (.sipush 499, 3) := zo_17 (by decide +kernel)
theorem dX10_follow_75 : decode cX10_follow 75 = .ok (.if_icmp .ge 102, 3) := zo_162 (by decide +kernel)
theorem dX10_follow_78 : decode cX10_follow 78 = .ok (.aload_n 0, 1) := zo_42 (by decide +kernel)
theorem dX10_follow_79 : decode cX10_follow 79 = .ok (.getfield 12, 3) := zo_180 (by decide +kernel)
theorem dX10_follow_82 : decode cX10_follow 82 = .ok (.aload_n 0, 1) := zo_42 (by decide +kernel)
theorem dX10_follow_83 : decode cX10_follow 83 = .ok (.getfield 51, 3) := zo_180 (by decide +kernel)
theorem dX10_follow_86 : decode cX10_follow 86 = .ok (.invokevirtual 54, 3) := zo_182 (by decide +kernel)
theorem dX10_follow_89 : decode cX10_follow 89 = .ok (.istore 5, 2) := zo_54 (by decide +kernel)
theorem dX10_follow_91 : decode cX10_follow 91 = .ok (.iload 5, 2) := zo_21 (by decide +kernel)
theorem dX10_follow_93 : decode cX10_follow 93 = .ok (.iconst (-1), 1) := zo_2 (by decide +kernel)
theorem dX10_follow_94 : decode cX10_follow 94 = .ok (.if_icmp .ne 4, 3) := zo_160 (by decide +kernel)
theorem dX10_follow_97 : decode cX10_follow 97 = .ok (.return_, 1) := zo_177 (by decide +kernel)
theorem dX10_follow_98 : decode cX10_follow 98 = .ok (.aload_n 0, 1) := zo_42 (by decide +kernel)
theorem dX10_follow_99 : decode cX10_follow 99 = .ok (.getfield 22, 3) := zo_180 (by decide +kernel)
theorem dX10_follow_102 : decode cX10_follow 102 = .ok (.aload_n 0, 1) := zo_42 (by decide +kernel)
theorem dX10_follow_103 : decode cX10_follow 103 = .ok (.getfield 51, 3) := zo_180 (by decide +kernel)
theorem dX10_follow_106 : decode cX10_follow 106 = .ok (.dup2, 1) := zo_92 (by decide +kernel)
theorem dX10_follow_107 : decode cX10_follow 107 = .ok (.iaload, 1) := zo_46 (by decide +kernel)
theorem dX10_follow_108 : decode cX10_follow 108 = .ok (.iconst 1, 1) := zo_4 (by decide +kernel)
theorem dX10_follow_109 : decode cX10_follow 109 = .ok (.aload_n 0, 1) := zo_42 (by decide +kernel)
theorem dX10_follow_110 : decode cX10_follow 110 = .ok (.getfield 12, 3) := zo_180 (by decide +kernel)
theorem dX10_follow_113 : decode cX10_follow 113 = .ok (.getfield 58, 3) := zo_180 (by decide +kernel)
theorem dX10_follow_116 : decode cX10_follow 116 = .ok (.aload_n 0, 1) := zo_42 (by decide +kernel)
theorem dX10_follow_117 : decode cX10_follow 117 = .ok (.getfield 51, 3) := zo_180 (by decide +kernel)
theorem dX10_follow_120 : decode cX10_follow 120 = .ok (.iaload, 1) := zo_46 (by decide +kernel)
theorem dX10_follow_121 : decode cX10_follow 121 = .ok (.ishl, 1) := zo_120 (by decide +kernel)
theorem dX10_follow_122 : decode cX10_follow 122 = .ok (.ior, 1) := zo_128 (by decide +kernel)
theorem dX10_follow_123 : decode cX10_follow 123 = .ok (.iastore, 1) := zo_79 (by decide +kernel)
theorem dX10_follow_124 : decode cX10_follow 124 = .ok (.aload_n 0, 1) := zo_42 (by decide +kernel)
theorem dX10_follow_125 : decode cX10_follow 125 = .ok (.dup, 1) := zo_89 (by decide +kernel)
theorem dX10_follow_126 : decode cX10_follow 126 = .ok (.getfield 38, 3) := zo_180 (by decide +kernel)
theorem dX10_follow_129 : decode cX10_follow 129 = .ok (.iconst 1, 1) := zo_4 (by decide +kernel)
theorem dX10_follow_130 : decode cX10_follow 130 = .ok (.iadd, 1) := zo_96 (by decide +kernel)
theorem dX10_follow_131 : decode cX10_follow 131 = .ok (.putfield 38, 3) := zo_181 (by decide +kernel)
theorem dX10_follow_134 : decode cX10_follow 134 = .ok (.aload_n 0, 1) := zo_42 (by decide +kernel)
theorem dX10_follow_135 : decode cX10_follow 135 = .ok (.iload 5, 2) := zo_21 (by decide +kernel)
theorem dX10_follow_137 : decode cX10_follow 137 = .ok (.iload_n 2, 1) := zo_28 (by decide +kernel)
theorem dX10_follow_138 : decode cX10_follow 138 = .ok (.if_icmp .ne 18, 3) := zo_160 (by decide +kernel)
theorem dX10_follow_141 : decode cX10_follow 141 = .ok (.aload_n 0, 1) := zo_42 (by decide +kernel)
theorem dX10_follow_142 : decode cX10_follow 142 = .ok (.getfield 41, 3) := zo_180 (by decide +kernel)
theorem dX10_follow_145 : decode cX10_follow 145 = .ok (.iconst (-1), 1) := zo_2 (by decide +kernel)
theorem dX10_follow_146 : decode cX10_follow 146 = .ok (.if_icmp .ne 10, 3) := zo_160 (by decide +kernel)
theorem dX10_follow_149 : decode cX10_follow 149 = .ok (.aload_n 0, 1) := zo_42 (by decide +kernel)
theorem dX10_follow_150 : decode cX10_follow 150 = .ok (.getfield 38, 3) := zo_180 (by decide +kernel)
theorem dX10_follow_153 : decode cX10_follow 153 = .ok (.goto 7, 3) := zo_167 (by decide +kernel)
theorem dX10_follow_156 : decode cX10_follow 156 = .ok (.aload_n 0, 1) := zo_42 (by decide +kernel)
theorem dX10_follow_157 : decode cX10_follow 157 = .ok (.getfield 41, 3) := zo_180 (by decide +kernel)
theorem dX10_follow_160 : decode cX10_follow 160 = .ok (.putfield 41, 3) := zo_181 (by decide +kernel)
theorem dX10_follow_163 : decode cX10_follow 163 = .ok (.aload_n 0, 1) := zo_42 (by decide +kernel)
theorem dX10_follow_164 : decode cX10_follow 164 = .ok (.iload 5, 2) := zo_21 (by decide +kernel)
theorem dX10_follow_166 : decode cX10_follow 166 = .ok (.iload_n 3, 1) := zo_29 (by decide +kernel)
theorem dX10_follow_167 : decode cX10_follow 167 = .ok (.invokevirtual 47, 3) := zo_182 (by decide +kernel)
theorem dX10_follow_170 : decode cX10_follow 170 = .ok (.istore_n 3, 1) := zo_62 (by decide +kernel)
theorem dX10_follow_171 : decode cX10_follow 171 = .ok (.iinc 4 1, 3) := zo_132 (by decide +kernel)
theorem dX10_follow_174 : decode cX10_follow 174 = .ok (.goto (-104), 3) := zo_167 (by decide +kernel)
theorem dX10_follow_177 : decode cX10_follow 177 = .ok (.return_, 1) := zo_177 (by decide +kernel)
theorem dX10_unused_0 : decode cX10_unused 0 = .ok (.iconst 0, 1) := zo_3 (by decide +kernel)
theorem dX10_unused_1 : decode cX10_unused 1 = .ok (.istore_n 1, 1) := zo_60 (by decide +kernel)
theorem dX10_unused_2 : decode cX10_unused 2 = .ok (.iconst 0, 1) := zo_3 (by decide +kernel)
theorem dX10_unused_3 : decode cX10_unused 3 = .ok (.istore_n 2, 1) := zo_61 (by decide +kernel)
theorem dX10_unused_4 : decode cX10_unused 4 = .ok (.iload_n 2, 1) := zo_28 (by decide +kernel)
theorem dX10_unused_5 : decode cX10_unused 5 = .ok (.aload_n 0, 1) := zo_42 (by decide +kernel)
theorem dX10_unused_6 : decode cX10_unused 6 = .ok (.getfield 12, 3) := zo_180 (by decide +kernel)
theorem dX10_unused_9 : decode cX10_unused 9 = .ok (.getfield 61, 3) := zo_180 (by decide +kernel)
theorem dX10_unused_12 : decode cX10_unused 12 = .ok (.getfield 65, 3) := zo_180 (by decide +kernel)
theorem dX10_unused_15 : decode cX10_unused 15 = .ok (.if_icmp .ge 44, 3) := zo_162 (by decide +kernel)
theorem dX10_unused_18 : decode cX10_unused 18 = .ok (.aload_n 0, 1) := zo_42 (by decide +kernel)
theorem dX10_unused_19 : decode cX10_unused 19 = .ok (.getfield 35, 3) := zo_180 (by decide +kernel)
theorem dX10_unused_22 : decode cX10_unused 22 = .ok (.iload_n 2, 1) := zo_28 (by decide +kernel)
theorem dX10_unused_23 : decode cX10_unused 23 = .ok (.ishr, 1) := zo_122 (by decide +kernel)
theorem dX10_unused_24 : decode cX10_unused 24 = .ok (.iconst 1, 1) := zo_4 (by decide +kernel)
theorem dX10_unused_25 : decode cX10_unused 25 = .ok (.iand, 1) := zo_126 (by decide +kernel)
theorem dX10_unused_26 : decode cX10_unused 26 = .ok (.ifCond .eq 27, 3) := zo_153 (by decide +kernel)
theorem dX10_unused_29 : decode cX10_unused 29 = .ok (.iload_n 1, 1) := zo_27 (by decide +kernel)
theorem dX10_unused_30 : decode cX10_unused 30 = .ok (.aload_n 0, 1) := zo_42 (by decide +kernel)
theorem dX10_unused_31 : decode cX10_unused 31 = .ok (.getfield 12, 3) := zo_180 (by decide +kernel)
theorem dX10_unused_34 : decode cX10_unused 34 = .ok (.getfield 61, 3) := zo_180 (by decide +kernel)
theorem dX10_unused_37 : decode cX10_unused 37 = .ok (.iload_n 2, 1) := zo_28 (by decide +kernel)
theorem dX10_unused_38 : decode cX10_unused 38 = .ok (.invokevirtual 70, 3) := zo_182 (by decide +kernel)
theorem dX10_unused_41 : decode cX10_unused 41 = .ok (.aload_n 0, 1) := zo_42 (by decide +kernel)
theorem dX10_unused_42 : decode cX10_unused 42 = .ok (.getfield 22, 3) := zo_180 (by decide +kernel)
theorem dX10_unused_45 : decode cX10_unused 45 = .ok (.iload_n 2, 1) := zo_28 (by decide +kernel)
theorem dX10_unused_46 : decode cX10_unused 46 = .ok (.iaload, 1) := zo_46 (by decide +kernel)
theorem dX10_unused_47 : decode cX10_unused 47 = .ok (.invokestatic 73, 3) := zo_184 (by decide +kernel)
theorem dX10_unused_50 : decode cX10_unused 50 = .ok (.isub, 1) := zo_100 (by decide +kernel)
theorem dX10_unused_51 : decode cX10_unused 51 = .ok (.iadd, 1) := zo_96 (by decide +kernel)
theorem dX10_unused_52 : decode cX10_unused 52 = .ok (.istore_n 1, 1) := zo_60 (by decide +kernel)
theorem dX10_unused_53 : decode cX10_unused 53 = .ok (.iinc 2 1, 3) := zo_132 (by decide +kernel)
theorem dX10_unused_56 : decode cX10_unused 56 = .ok (.goto (-52), 3) := zo_167 (by decide +kernel)
theorem dX10_unused_59 : decode cX10_unused 59 = .ok (.iload_n 1, 1) := zo_27 (by decide +kernel)
theorem dX10_unused_60 : decode cX10_unused 60 = .ok (.ireturn, 1) := zo_172 (by decide +kernel)
theorem dX10_round_0 : decode cX10_round 0 = .ok (.aload_n 0, 1) := zo_42 (by decide +kernel)
theorem dX10_round_1 : decode cX10_round 1 = .ok (.getfield 38, 3) := zo_180 (by decide +kernel)
theorem dX10_round_4 : decode cX10_round 4 = .ok (.sipush 499, 3) := zo_17 (by decide +kernel)
theorem dX10_round_7 : decode cX10_round 7 = .ok (.if_icmp .lt 20, 3) := zo_161 (by decide +kernel)
theorem dX10_round_10 : decode cX10_round 10 = .ok (.aload_n 0, 1) := zo_42 (by decide +kernel)
theorem dX10_round_11 : decode cX10_round 11 = .ok (.getfield 12, 3) := zo_180 (by decide +kernel)
theorem dX10_round_14 : decode cX10_round 14 = .ok (.getfield 61, 3) := zo_180 (by decide +kernel)
theorem dX10_round_17 : decode cX10_round 17 = .ok (.aload_n 0, 1) := zo_42 (by decide +kernel)
theorem dX10_round_18 : decode cX10_round 18 = .ok (.getfield 51, 3) := zo_180 (by decide +kernel)
theorem dX10_round_21 : decode cX10_round 21 = .ok (.invokevirtual 78, 3) := zo_182 (by decide +kernel)
theorem dX10_round_24 : decode cX10_round 24 = .ok (.ifCond .eq 5, 3) := zo_153 (by decide +kernel)
theorem dX10_round_27 : decode cX10_round 27 = .ok (.iconst (-1), 1) := zo_2 (by decide +kernel)
theorem dX10_round_28 : decode cX10_round 28 = .ok (.ireturn, 1) := zo_172 (by decide +kernel)
theorem dX10_round_29 : decode cX10_round 29 = .ok (.aload_n 0, 1) := zo_42 (by decide +kernel)
theorem dX10_round_30 : decode cX10_round 30 = .ok (.getfield 12, 3) := zo_180 (by decide +kernel)
theorem dX10_round_33 : decode cX10_round 33 = .ok (.invokevirtual 82, 3) := zo_182 (by decide +kernel)
theorem dX10_round_36 : decode cX10_round 36 = .ok (.istore_n 1, 1) := zo_60 (by decide +kernel)
theorem dX10_round_37 : decode cX10_round 37 = .ok (.aload_n 0, 1) := zo_42 (by decide +kernel)
theorem dX10_round_38 : decode cX10_round 38 = .ok (.getfield 51, 3) := zo_180 (by decide +kernel)
theorem dX10_round_41 : decode cX10_round 41 = .ok (.istore_n 2, 1) := zo_61 (by decide +kernel)
theorem dX10_round_42 : decode cX10_round 42 = .ok (.iconst 1, 1) := zo_4 (by decide +kernel)
theorem dX10_round_43 : decode cX10_round 43 = .ok (.istore_n 3, 1) := zo_62 (by decide +kernel)
theorem dX10_round_44 : decode cX10_round 44 = .ok (.iload_n 3, 1) := zo_29 (by decide +kernel)
theorem dX10_round_45 : decode cX10_round 45 = .ok (.sipush 999, 3) := zo_17 (by decide +kernel)
theorem dX10_round_48 : decode cX10_round 48 = .ok (.if_icmp .gt 46, 3) := zo_163 (by decide +kernel)
theorem dX10_round_51 : decode cX10_round 51 = .ok (.aload_n 0, 1) := zo_42 (by decide +kernel)
theorem dX10_round_52 : decode cX10_round 52 = .ok (.getfield 12, 3) := zo_180 (by decide +kernel)
theorem dX10_round_55 : decode cX10_round 55 = .ok (.iload_n 2, 1) := zo_28 (by decide +kernel)
theorem dX10_round_56 : decode cX10_round 56 = .ok (.invokevirtual 54, 3) := zo_182 (by decide +kernel)
theorem dX10_round_59 : decode cX10_round 59 = .ok (.istore_n 2, 1) := zo_61 (by decide +kernel)
theorem dX10_round_60 : decode cX10_round 60 = .ok (.iload_n 2, 1) := zo_28 (by decide +kernel)
theorem dX10_round_61 : decode cX10_round 61 = .ok (.iconst (-1), 1) := zo_2 (by decide +kernel)
theorem dX10_round_62 : decode cX10_round 62 = .ok (.if_icmp .ne 5, 3) := zo_160 (by decide +kernel)
theorem dX10_round_65 : decode cX10_round 65 = .ok (.iconst (-1), 1) := zo_2 (by decide +kernel)
theorem dX10_round_66 : decode cX10_round 66 = .ok (.ireturn, 1) := zo_172 (by decide +kernel)
theorem dX10_round_67 : decode cX10_round 67 = .ok (.iload_n 2, 1) := zo_28 (by decide +kernel)
theorem dX10_round_68 : decode cX10_round 68 = .ok (.aload_n 0, 1) := zo_42 (by decide +kernel)
theorem dX10_round_69 : decode cX10_round 69 = .ok (.getfield 51, 3) := zo_180 (by decide +kernel)
theorem dX10_round_72 : decode cX10_round 72 = .ok (.if_icmp .ne 16, 3) := zo_160 (by decide +kernel)
theorem dX10_round_75 : decode cX10_round 75 = .ok (.aload_n 0, 1) := zo_42 (by decide +kernel)
theorem dX10_round_76 : decode cX10_round 76 = .ok (.getfield 12, 3) := zo_180 (by decide +kernel)
theorem dX10_round_79 : decode cX10_round 79 = .ok (.invokevirtual 82, 3) := zo_182 (by decide +kernel)
theorem dX10_round_82 : decode cX10_round 82 = .ok (.iload_n 1, 1) := zo_27 (by decide +kernel)
theorem dX10_round_83 : decode cX10_round 83 = .ok (.if_icmp .ne 5, 3) := zo_160 (by decide +kernel)
theorem dX10_round_86 : decode cX10_round 86 = .ok (.iload_n 3, 1) := zo_29 (by decide +kernel)
theorem dX10_round_87 : decode cX10_round 87 = .ok (.ireturn, 1) := zo_172 (by decide +kernel)
theorem dX10_round_88 : decode cX10_round 88 = .ok (.iinc 3 1, 3) := zo_132 (by decide +kernel)
theorem dX10_round_91 : decode cX10_round 91 = .ok (.goto (-47), 3) := zo_167 (by decide +kernel)
theorem dX10_round_94 : decode cX10_round 94 = .ok (.iconst (-1), 1) := zo_2 (by decide +kernel)
theorem dX10_round_95 : decode cX10_round 95 = .ok (.ireturn, 1) := zo_172 (by decide +kernel)
theorem dX1_lookAtCrowd_0 : decode cX1_lookAtCrowd 0 = .ok (.iconst 0, 1) := zo_3 (by decide +kernel)
theorem dX1_lookAtCrowd_1 : decode cX1_lookAtCrowd 1 = .ok (.istore_n 1, 1) := zo_60 (by decide +kernel)
theorem dX1_lookAtCrowd_2 : decode cX1_lookAtCrowd 2 = .ok (.iload_n 1, 1) := zo_27 (by decide +kernel)
theorem dX1_lookAtCrowd_3 : decode cX1_lookAtCrowd 3 = .ok (.aload_n 0, 1) := zo_42 (by decide +kernel)
theorem dX1_lookAtCrowd_4 : decode cX1_lookAtCrowd 4 = .ok (.getfield 25, 3) := zo_180 (by decide +kernel)
theorem dX1_lookAtCrowd_7 : decode cX1_lookAtCrowd 7 = .ok (.getfield 88, 3) := zo_180 (by decide +kernel)
theorem dX1_lookAtCrowd_10 : decode cX1_lookAtCrowd 10 = .ok (.if_icmp .ge 43, 3) := zo_162 (by decide +kernel)
theorem dX1_lookAtCrowd_13 : decode cX1_lookAtCrowd 13 = .ok (.iload_n 1, 1) := zo_27 (by decide +kernel)
theorem dX1_lookAtCrowd_14 : decode cX1_lookAtCrowd 14 = .ok (.bipush 7, 2) := zo_16 (by decide +kernel)
theorem dX1_lookAtCrowd_16 : decode cX1_lookAtCrowd 16 = .ok (.if_icmp .ge 37, 3) := zo_162 (by decide +kernel)
theorem dX1_lookAtCrowd_19 : decode cX1_lookAtCrowd 19 = .ok (.aload_n 0, 1) := zo_42 (by decide +kernel)
theorem dX1_lookAtCrowd_20 : decode cX1_lookAtCrowd 20 = .ok (.getfield 25, 3) := zo_180 (by decide +kernel)
theorem dX1_lookAtCrowd_23 : decode cX1_lookAtCrowd 23 = .ok (.iload_n 1, 1) := zo_27 (by decide +kernel)
theorem dX1_lookAtCrowd_24 : decode cX1_lookAtCrowd 24 = .ok (.invokevirtual 135, 3) := zo_182 (by decide +kernel)
theorem dX1_lookAtCrowd_27 : decode cX1_lookAtCrowd 27 = .ok (.ifCond .ne 20, 3) := zo_154 (by decide +kernel)
theorem dX1_lookAtCrowd_30 : decode cX1_lookAtCrowd 30 = .ok (.aload_n 0, 1) := zo_42 (by decide +kernel)
theorem dX1_lookAtCrowd_31 : decode cX1_lookAtCrowd 31 = .ok (.aload_n 0, 1) := zo_42 (by decide +kernel)
theorem dX1_lookAtCrowd_32 : decode cX1_lookAtCrowd 32 = .ok (.getfield 53, 3) := zo_180 (by decide +kernel)
theorem dX1_lookAtCrowd_35 : decode cX1_lookAtCrowd 35 = .ok (.aload_n 0, 1) := zo_42 (by decide +kernel)
theorem dX1_lookAtCrowd_36 : decode cX1_lookAtCrowd 36 = .ok (.getfield 18, 3) := zo_180 (by decide +kernel)
theorem dX1_lookAtCrowd_39 : decode cX1_lookAtCrowd 39 = .ok (.iload_n 1, 1) := zo_27 (by decide +kernel)
theorem dX1_lookAtCrowd_40 : decode cX1_lookAtCrowd 40 = .ok (.iaload, 1) := zo_46 (by decide +kernel)
theorem dX1_lookAtCrowd_41 : decode cX1_lookAtCrowd 41 = .ok (.invokestatic 126, 3) := zo_184 (by decide +kernel)
theorem dX1_lookAtCrowd_44 : decode cX1_lookAtCrowd 44 = .ok (.putfield 53, 3) := zo_181 (by decide +kernel)
theorem dX1_lookAtCrowd_47 : decode cX1_lookAtCrowd 47 = .ok (.iinc 1 1, 3) := zo_132 (by decide +kernel)
theorem dX1_lookAtCrowd_50 : decode cX1_lookAtCrowd 50 = .ok (.goto (-48), 3) := zo_167 (by decide +kernel)
theorem dX1_lookAtCrowd_53 : decode cX1_lookAtCrowd 53 = .ok (.return_, 1) := zo_177 (by decide +kernel)
theorem dX1_walkersInAll_0 : decode cX1_walkersInAll 0 = .ok (.iconst 0, 1) := zo_3 (by decide +kernel)
theorem dX1_walkersInAll_1 : decode cX1_walkersInAll 1 = .ok (.istore_n 2, 1) := zo_61 (by decide +kernel)
theorem dX1_walkersInAll_2 : decode cX1_walkersInAll 2 = .ok (.iconst 0, 1) := zo_3 (by decide +kernel)
theorem dX1_walkersInAll_3 : decode cX1_walkersInAll 3 = .ok (.istore_n 3, 1) := zo_62 (by decide +kernel)
theorem dX1_walkersInAll_4 : decode cX1_walkersInAll 4 = .ok (.iload_n 3, 1) := zo_29 (by decide +kernel)
theorem dX1_walkersInAll_5 : decode cX1_walkersInAll 5 = .ok (.aload_n 0, 1) := zo_42 (by decide +kernel)
theorem dX1_walkersInAll_6 : decode cX1_walkersInAll 6 = .ok (.getfield 25, 3) := zo_180 (by decide +kernel)
theorem dX1_walkersInAll_9 : decode cX1_walkersInAll 9 = .ok (.getfield 88, 3) := zo_180 (by decide +kernel)
theorem dX1_walkersInAll_12 : decode cX1_walkersInAll 12 = .ok (.if_icmp .ge 43, 3) := zo_162 (by decide +kernel)
theorem dX1_walkersInAll_15 : decode cX1_walkersInAll 15 = .ok (.iload_n 3, 1) := zo_29 (by decide +kernel)
theorem dX1_walkersInAll_16 : decode cX1_walkersInAll 16 = .ok (.bipush 7, 2) := zo_16 (by decide +kernel)
theorem dX1_walkersInAll_18 : decode cX1_walkersInAll 18 = .ok (.if_icmp .ge 37, 3) := zo_162 (by decide +kernel)
theorem dX1_walkersInAll_21 : decode cX1_walkersInAll 21 = .ok (.iload_n 2, 1) := zo_28 (by decide +kernel)
theorem dX1_walkersInAll_22 : decode cX1_walkersInAll 22 = .ok (.iload_n 1, 1) := zo_27 (by decide +kernel)
theorem dX1_walkersInAll_23 : decode cX1_walkersInAll 23 = .ok (.ifCond .eq 14, 3) := zo_153 (by decide +kernel)
theorem dX1_walkersInAll_26 : decode cX1_walkersInAll 26 = .ok (.aload_n 0, 1) := zo_42 (by decide +kernel)
theorem dX1_walkersInAll_27 : decode cX1_walkersInAll 27 = .ok (.getfield 25, 3) := zo_180 (by decide +kernel)
theorem dX1_walkersInAll_30 : decode cX1_walkersInAll 30 = .ok (.iload_n 3, 1) := zo_29 (by decide +kernel)
theorem dX1_walkersInAll_31 : decode cX1_walkersInAll 31 = .ok (.invokevirtual 135, 3) := zo_182 (by decide +kernel)
theorem dX1_walkersInAll_34 : decode cX1_walkersInAll 34 = .ok (.ifCond .eq 12, 3) := zo_153 (by decide +kernel)
theorem dX1_walkersInAll_37 : decode cX1_walkersInAll 37 = .ok (.aload_n 0, 1) := zo_42 (by decide +kernel)
theorem dX1_walkersInAll_38 : decode cX1_walkersInAll 38 = .ok (.getfield 18, 3) := zo_180 (by decide +kernel)
theorem dX1_walkersInAll_41 : decode cX1_walkersInAll 41 = .ok (.iload_n 3, 1) := zo_29 (by decide +kernel)
theorem dX1_walkersInAll_42 : decode cX1_walkersInAll 42 = .ok (.iaload, 1) := zo_46 (by decide +kernel)
theorem dX1_walkersInAll_43 : decode cX1_walkersInAll 43 = .ok (.goto 4, 3) := zo_167 (by decide +kernel)
theorem dX1_walkersInAll_46 : decode cX1_walkersInAll 46 = .ok (.iconst 0, 1) := zo_3 (by decide +kernel)
theorem dX1_walkersInAll_47 : decode cX1_walkersInAll 47 = .ok (.iadd, 1) := zo_96 (by decide +kernel)
theorem dX1_walkersInAll_48 : decode cX1_walkersInAll 48 = .ok (.istore_n 2, 1) := zo_61 (by decide +kernel)
theorem dX1_walkersInAll_49 : decode cX1_walkersInAll 49 = .ok (.iinc 3 1, 3) := zo_132 (by decide +kernel)
theorem dX1_walkersInAll_52 : decode cX1_walkersInAll 52 = .ok (.goto (-48), 3) := zo_167 (by decide +kernel)
theorem dX1_walkersInAll_55 : decode cX1_walkersInAll 55 = .ok (.iload_n 2, 1) := zo_28 (by decide +kernel)
theorem dX1_walkersInAll_56 : decode cX1_walkersInAll 56 = .ok (.ireturn, 1) := zo_172 (by decide +kernel)
theorem dX1_unlikeTold_0 : decode cX1_unlikeTold 0 = .ok (.iconst 0, 1) := zo_3 (by decide +kernel)
theorem dX1_unlikeTold_1 : decode cX1_unlikeTold 1 = .ok (.istore_n 1, 1) := zo_60 (by decide +kernel)
theorem dX1_unlikeTold_2 : decode cX1_unlikeTold 2 = .ok (.iconst 0, 1) := zo_3 (by decide +kernel)
theorem dX1_unlikeTold_3 : decode cX1_unlikeTold 3 = .ok (.istore_n 2, 1) := zo_61 (by decide +kernel)
theorem dX1_unlikeTold_4 : decode cX1_unlikeTold 4 = .ok (.iload_n 2, 1) := zo_28 (by decide +kernel)
theorem dX1_unlikeTold_5 : decode cX1_unlikeTold 5 = .ok (.aload_n 0, 1) := zo_42 (by decide +kernel)
theorem dX1_unlikeTold_6 : decode cX1_unlikeTold 6 = .ok (.getfield 25, 3) := zo_180 (by decide +kernel)
theorem dX1_unlikeTold_9 : decode cX1_unlikeTold 9 = .ok (.getfield 88, 3) := zo_180 (by decide +kernel)
theorem dX1_unlikeTold_12 : decode cX1_unlikeTold 12 = .ok (.if_icmp .ge 46, 3) := zo_162 (by decide +kernel)
theorem dX1_unlikeTold_15 : decode cX1_unlikeTold 15 = .ok (.iload_n 2, 1) := zo_28 (by decide +kernel)
theorem dX1_unlikeTold_16 : decode cX1_unlikeTold 16 = .ok (.bipush 7, 2) := zo_16 (by decide +kernel)
theorem dX1_unlikeTold_18 : decode cX1_unlikeTold 18 = .ok (.if_icmp .ge 40, 3) := zo_162 (by decide +kernel)
theorem dX1_unlikeTold_21 : decode cX1_unlikeTold 21 = .ok (.iload_n 1, 1) := zo_27 (by decide +kernel)
theorem dX1_unlikeTold_22 : decode cX1_unlikeTold 22 = .ok (.aload_n 0, 1) := zo_42 (by decide +kernel)
theorem dX1_unlikeTold_23 : decode cX1_unlikeTold 23 = .ok (.getfield 12, 3) := zo_180 (by decide +kernel)
theorem dX1_unlikeTold_26 : decode cX1_unlikeTold 26 = .ok (.getfield 154, 3) := zo_180 (by decide +kernel)
theorem dX1_unlikeTold_29 : decode cX1_unlikeTold 29 = .ok (.iload_n 2, 1) := zo_28 (by decide +kernel)
theorem dX1_unlikeTold_30 : decode cX1_unlikeTold 30 = .ok (.iaload, 1) := zo_46 (by decide +kernel)
theorem dX1_unlikeTold_31 : decode cX1_unlikeTold 31 = .ok (.aload_n 0, 1) := zo_42 (by decide +kernel)
theorem dX1_unlikeTold_32 : decode cX1_unlikeTold 32 = .ok (.getfield 25, 3) := zo_180 (by decide +kernel)
theorem dX1_unlikeTold_35 : decode cX1_unlikeTold 35 = .ok (.getfield 163, 3) := zo_180 (by decide +kernel)
theorem dX1_unlikeTold_38 : decode cX1_unlikeTold 38 = .ok (.iload_n 2, 1) := zo_28 (by decide +kernel)
theorem dX1_unlikeTold_39 : decode cX1_unlikeTold 39 = .ok (.iaload, 1) := zo_46 (by decide +kernel)
theorem dX1_unlikeTold_40 : decode cX1_unlikeTold 40 = .ok (.if_icmp .eq 9, 3) := zo_159 (by decide +kernel)
theorem dX1_unlikeTold_43 : decode cX1_unlikeTold 43 = .ok (.iconst 1, 1) := zo_4 (by decide +kernel)
theorem dX1_unlikeTold_44 : decode cX1_unlikeTold 44 = .ok (.iload_n 2, 1) := zo_28 (by decide +kernel)
theorem dX1_unlikeTold_45 : decode cX1_unlikeTold 45 = .ok (.ishl, 1) := zo_120 (by decide +kernel)
theorem dX1_unlikeTold_46 : decode cX1_unlikeTold 46 = .ok (.goto 4, 3) := zo_167 (by decide +kernel)
theorem dX1_unlikeTold_49 : decode cX1_unlikeTold 49 = .ok (.iconst 0, 1) := zo_3 (by decide +kernel)
theorem dX1_unlikeTold_50 : decode cX1_unlikeTold 50 = .ok (.ior, 1) := zo_128 (by decide +kernel)
theorem dX1_unlikeTold_51 : decode cX1_unlikeTold 51 = .ok (.istore_n 1, 1) := zo_60 (by decide +kernel)
theorem dX1_unlikeTold_52 : decode cX1_unlikeTold 52 = .ok (.iinc 2 1, 3) := zo_132 (by decide +kernel)
theorem dX1_unlikeTold_55 : decode cX1_unlikeTold 55 = .ok (.goto (-51), 3) := zo_167 (by decide +kernel)
theorem dX1_unlikeTold_58 : decode cX1_unlikeTold 58 = .ok (.iload_n 1, 1) := zo_27 (by decide +kernel)
theorem dX1_unlikeTold_59 : decode cX1_unlikeTold 59 = .ok (.ireturn, 1) := zo_172 (by decide +kernel)
theorem dX1_toldAfter_0 : decode cX1_toldAfter 0 = .ok (.iload_n 1, 1) := zo_27 (by decide +kernel)
theorem dX1_toldAfter_1 : decode cX1_toldAfter 1 = .ok (.tableswitch 60 0 4 #[35, 40, 45, 50, 55], 35) := by decide +kernel
theorem dX1_toldAfter_36 : decode cX1_toldAfter 36 = .ok (.aload_n 0, 1) := zo_42 (by decide +kernel)
theorem dX1_toldAfter_37 : decode cX1_toldAfter 37 = .ok (.getfield 44, 3) := zo_180 (by decide +kernel)
theorem dX1_toldAfter_40 : decode cX1_toldAfter 40 = .ok (.ireturn, 1) := zo_172 (by decide +kernel)
theorem dX1_toldAfter_41 : decode cX1_toldAfter 41 = .ok (.aload_n 0, 1) := zo_42 (by decide +kernel)
theorem dX1_toldAfter_42 : decode cX1_toldAfter 42 = .ok (.getfield 47, 3) := zo_180 (by decide +kernel)
theorem dX1_toldAfter_45 : decode cX1_toldAfter 45 = .ok (.ireturn, 1) := zo_172 (by decide +kernel)
theorem dX1_toldAfter_46 : decode cX1_toldAfter 46 = .ok (.aload_n 0, 1) := zo_42 (by decide +kernel)
theorem dX1_toldAfter_47 : decode cX1_toldAfter 47 = .ok (.getfield 50, 3) := zo_180 (by decide +kernel)
theorem dX1_toldAfter_50 : decode cX1_toldAfter 50 = .ok (.ireturn, 1) := zo_172 (by decide +kernel)
theorem dX1_toldAfter_51 : decode cX1_toldAfter 51 = .ok (.aload_n 0, 1) := zo_42 (by decide +kernel)
theorem dX1_toldAfter_52 : decode cX1_toldAfter 52 = .ok (.getfield 53, 3) := zo_180 (by decide +kernel)
theorem dX1_toldAfter_55 : decode cX1_toldAfter 55 = .ok (.ireturn, 1) := zo_172 (by decide +kernel)
theorem dX1_toldAfter_56 : decode cX1_toldAfter 56 = .ok (.aload_n 0, 1) := zo_42 (by decide +kernel)
theorem dX1_toldAfter_57 : decode cX1_toldAfter 57 = .ok (.invokevirtual 159, 3) := zo_182 (by decide +kernel)
theorem dX1_toldAfter_60 : decode cX1_toldAfter 60 = .ok (.ireturn, 1) := zo_172 (by decide +kernel)
theorem dX1_toldAfter_61 : decode cX1_toldAfter 61 = .ok (.bipush (-2), 2) := zo_16 (by decide +kernel)
theorem dX1_toldAfter_63 : decode cX1_toldAfter 63 = .ok (.ireturn, 1) := zo_172 (by decide +kernel)
theorem dX1_told_0 : decode cX1_told 0 = .ok (.iload_n 1, 1) := zo_27 (by decide +kernel)
theorem dX1_told_1 : decode cX1_told 1 = .ok (.tableswitch 53 0 3 #[31, 36, 42, 48], 31) := by decide +kernel
theorem dX1_told_32 : decode cX1_told 32 = .ok (.aload_n 0, 1) := zo_42 (by decide +kernel)
theorem dX1_told_33 : decode cX1_told 33 = .ok (.getfield 34, 3) := zo_180 (by decide +kernel)
theorem dX1_told_36 : decode cX1_told 36 = .ok (.ireturn, 1) := zo_172 (by decide +kernel)
theorem dX1_told_37 : decode cX1_told 37 = .ok (.aload_n 0, 1) := zo_42 (by decide +kernel)
theorem dX1_told_38 : decode cX1_told 38 = .ok (.iconst 1, 1) := zo_4 (by decide +kernel)
theorem dX1_told_39 : decode cX1_told 39 = .ok (.invokevirtual 150, 3) := zo_182 (by decide +kernel)
theorem dX1_told_42 : decode cX1_told 42 = .ok (.ireturn, 1) := zo_172 (by decide +kernel)
theorem dX1_told_43 : decode cX1_told 43 = .ok (.aload_n 0, 1) := zo_42 (by decide +kernel)
theorem dX1_told_44 : decode cX1_told 44 = .ok (.iconst 0, 1) := zo_3 (by decide +kernel)
theorem dX1_told_45 : decode cX1_told 45 = .ok (.invokevirtual 150, 3) := zo_182 (by decide +kernel)
theorem dX1_told_48 : decode cX1_told 48 = .ok (.ireturn, 1) := zo_172 (by decide +kernel)
theorem dX1_told_49 : decode cX1_told 49 = .ok (.aload_n 0, 1) := zo_42 (by decide +kernel)
theorem dX1_told_50 : decode cX1_told 50 = .ok (.getfield 38, 3) := zo_180 (by decide +kernel)
theorem dX1_told_53 : decode cX1_told 53 = .ok (.ireturn, 1) := zo_172 (by decide +kernel)
theorem dX1_told_54 : decode cX1_told 54 = .ok (.iload_n 1, 1) := zo_27 (by decide +kernel)
theorem dX1_told_55 : decode cX1_told 55 = .ok (.bipush 10, 2) := zo_16 (by decide +kernel)
theorem dX1_told_57 : decode cX1_told 57 = .ok (.irem, 1) := zo_112 (by decide +kernel)
theorem dX1_told_58 : decode cX1_told 58 = .ok (.istore_n 2, 1) := zo_61 (by decide +kernel)
theorem dX1_told_59 : decode cX1_told 59 = .ok (.aload_n 0, 1) := zo_42 (by decide +kernel)
theorem dX1_told_60 : decode cX1_told 60 = .ok (.getfield 25, 3) := zo_180 (by decide +kernel)
theorem dX1_told_63 : decode cX1_told 63 = .ok (.iload_n 2, 1) := zo_28 (by decide +kernel)
theorem dX1_told_64 : decode cX1_told 64 = .ok (.invokevirtual 112, 3) := zo_182 (by decide +kernel)
theorem dX1_told_67 : decode cX1_told 67 = .ok (.ifCond .ne 6, 3) := zo_154 (by decide +kernel)
theorem dX1_told_70 : decode cX1_told 70 = .ok (.bipush (-2), 2) := zo_16 (by decide +kernel)
theorem dX1_told_72 : decode cX1_told 72 = .ok (.ireturn, 1) := zo_172 (by decide +kernel)
theorem dX1_told_73 : decode cX1_told 73 = .ok (.iload_n 1, 1) := zo_27 (by decide +kernel)
theorem dX1_told_74 : decode cX1_told 74 = .ok (.bipush 10, 2) := zo_16 (by decide +kernel)
theorem dX1_told_76 : decode cX1_told 76 = .ok (.idiv, 1) := zo_108 (by decide +kernel)
theorem dX1_told_77 : decode cX1_told 77 = .ok (.tableswitch 54 1 3 #[27, 37, 44], 27) := by decide +kernel
theorem dX1_told_104 : decode cX1_told 104 = .ok (.aload_n 0, 1) := zo_42 (by decide +kernel)
theorem dX1_told_105 : decode cX1_told 105 = .ok (.getfield 12, 3) := zo_180 (by decide +kernel)
theorem dX1_told_108 : decode cX1_told 108 = .ok (.getfield 154, 3) := zo_180 (by decide +kernel)
theorem dX1_told_111 : decode cX1_told 111 = .ok (.iload_n 2, 1) := zo_28 (by decide +kernel)
theorem dX1_told_112 : decode cX1_told 112 = .ok (.iaload, 1) := zo_46 (by decide +kernel)
theorem dX1_told_113 : decode cX1_told 113 = .ok (.ireturn, 1) := zo_172 (by decide +kernel)
theorem dX1_told_114 : decode cX1_told 114 = .ok (.aload_n 0, 1) := zo_42 (by decide +kernel)
theorem dX1_told_115 : decode cX1_told 115 = .ok (.getfield 18, 3) := zo_180 (by decide +kernel)
theorem dX1_told_118 : decode cX1_told 118 = .ok (.iload_n 2, 1) := zo_28 (by decide +kernel)
theorem dX1_told_119 : decode cX1_told 119 = .ok (.iaload, 1) := zo_46 (by decide +kernel)
theorem dX1_told_120 : decode cX1_told 120 = .ok (.ireturn, 1) := zo_172 (by decide +kernel)
theorem dX1_told_121 : decode cX1_told 121 = .ok (.aload_n 0, 1) := zo_42 (by decide +kernel)
theorem dX1_told_122 : decode cX1_told 122 = .ok (.getfield 12, 3) := zo_180 (by decide +kernel)
theorem dX1_told_125 : decode cX1_told 125 = .ok (.getfield 157, 3) := zo_180 (by decide +kernel)
theorem dX1_told_128 : decode cX1_told 128 = .ok (.iload_n 2, 1) := zo_28 (by decide +kernel)
theorem dX1_told_129 : decode cX1_told 129 = .ok (.iaload, 1) := zo_46 (by decide +kernel)
theorem dX1_told_130 : decode cX1_told 130 = .ok (.ireturn, 1) := zo_172 (by decide +kernel)
theorem dX1_told_131 : decode cX1_told 131 = .ok (.bipush (-2), 2) := zo_16 (by decide +kernel)
theorem dX1_told_133 : decode cX1_told 133 = .ok (.ireturn, 1) := zo_172 (by decide +kernel)
theorem dX1_move_0 : decode cX1_move 0 = .ok (.aload_n 0, 1) := zo_42 (by decide +kernel)
theorem dX1_move_1 : decode cX1_move 1 = .ok (.getfield 25, 3) := zo_180 (by decide +kernel)
theorem dX1_move_4 : decode cX1_move 4 = .ok (.iload_n 1, 1) := zo_27 (by decide +kernel)
theorem dX1_move_5 : decode cX1_move 5 = .ok (.invokevirtual 112, 3) := zo_182 (by decide +kernel)
theorem dX1_move_8 : decode cX1_move 8 = .ok (.ifCond .eq 14, 3) := zo_153 (by decide +kernel)
theorem dX1_move_11 : decode cX1_move 11 = .ok (.aload_n 0, 1) := zo_42 (by decide +kernel)
theorem dX1_move_12 : decode cX1_move 12 = .ok (.getfield 25, 3) := zo_180 (by decide +kernel)
theorem dX1_move_15 : decode cX1_move 15 = .ok (.iload_n 2, 1) := zo_28 (by decide +kernel)
theorem dX1_move_16 : decode cX1_move 16 = .ok (.invokevirtual 112, 3) := zo_182 (by decide +kernel)
theorem dX1_move_19 : decode cX1_move 19 = .ok (.ifCond .ne 4, 3) := zo_154 (by decide +kernel)
theorem dX1_move_22 : decode cX1_move 22 = .ok (.return_, 1) := zo_177 (by decide +kernel)
theorem dX1_move_23 : decode cX1_move 23 = .ok (.aload_n 0, 1) := zo_42 (by decide +kernel)
theorem dX1_move_24 : decode cX1_move 24 = .ok (.getfield 18, 3) := zo_180 (by decide +kernel)
theorem dX1_move_27 : decode cX1_move 27 = .ok (.iload_n 1, 1) := zo_27 (by decide +kernel)
theorem dX1_move_28 : decode cX1_move 28 = .ok (.dup2, 1) := zo_92 (by decide +kernel)
theorem dX1_move_29 : decode cX1_move 29 = .ok (.iaload, 1) := zo_46 (by decide +kernel)
theorem dX1_move_30 : decode cX1_move 30 = .ok (.iconst 1, 1) := zo_4 (by decide +kernel)
theorem dX1_move_31 : decode cX1_move 31 = .ok (.isub, 1) := zo_100 (by decide +kernel)
theorem dX1_move_32 : decode cX1_move 32 = .ok (.iastore, 1) := zo_79 (by decide +kernel)
theorem dX1_move_33 : decode cX1_move 33 = .ok (.aload_n 0, 1) := zo_42 (by decide +kernel)
theorem dX1_move_34 : decode cX1_move 34 = .ok (.getfield 18, 3) := zo_180 (by decide +kernel)
theorem dX1_move_37 : decode cX1_move 37 = .ok (.iload_n 2, 1) := zo_28 (by decide +kernel)
theorem dX1_move_38 : decode cX1_move 38 = .ok (.dup2, 1) := zo_92 (by decide +kernel)
theorem dX1_move_39 : decode cX1_move 39 = .ok (.iaload, 1) := zo_46 (by decide +kernel)
theorem dX1_move_40 : decode cX1_move 40 = .ok (.iconst 1, 1) := zo_4 (by decide +kernel)
theorem dX1_move_41 : decode cX1_move 41 = .ok (.iadd, 1) := zo_96 (by decide +kernel)
theorem dX1_move_42 : decode cX1_move 42 = .ok (.iastore, 1) := zo_79 (by decide +kernel)
theorem dX1_move_43 : decode cX1_move 43 = .ok (.iload_n 1, 1) := zo_27 (by decide +kernel)
theorem dX1_move_44 : decode cX1_move 44 = .ok (.iload_n 2, 1) := zo_28 (by decide +kernel)
theorem dX1_move_45 : decode cX1_move 45 = .ok (.if_icmp .eq 13, 3) := zo_159 (by decide +kernel)
theorem dX1_move_48 : decode cX1_move 48 = .ok (.aload_n 0, 1) := zo_42 (by decide +kernel)
theorem dX1_move_49 : decode cX1_move 49 = .ok (.dup, 1) := zo_89 (by decide +kernel)
theorem dX1_move_50 : decode cX1_move 50 = .ok (.getfield 50, 3) := zo_180 (by decide +kernel)
theorem dX1_move_53 : decode cX1_move 53 = .ok (.iconst 1, 1) := zo_4 (by decide +kernel)
theorem dX1_move_54 : decode cX1_move 54 = .ok (.iadd, 1) := zo_96 (by decide +kernel)
theorem dX1_move_55 : decode cX1_move 55 = .ok (.putfield 50, 3) := zo_181 (by decide +kernel)
theorem dX1_move_58 : decode cX1_move 58 = .ok (.aload_n 0, 1) := zo_42 (by decide +kernel)
theorem dX1_move_59 : decode cX1_move 59 = .ok (.getfield 44, 3) := zo_180 (by decide +kernel)
theorem dX1_move_62 : decode cX1_move 62 = .ok (.iconst (-1), 1) := zo_2 (by decide +kernel)
theorem dX1_move_63 : decode cX1_move 63 = .ok (.if_icmp .ne 33, 3) := zo_160 (by decide +kernel)
theorem dX1_move_66 : decode cX1_move 66 = .ok (.aload_n 0, 1) := zo_42 (by decide +kernel)
theorem dX1_move_67 : decode cX1_move 67 = .ok (.getfield 25, 3) := zo_180 (by decide +kernel)
theorem dX1_move_70 : decode cX1_move 70 = .ok (.iload_n 2, 1) := zo_28 (by decide +kernel)
theorem dX1_move_71 : decode cX1_move 71 = .ok (.invokevirtual 135, 3) := zo_182 (by decide +kernel)
theorem dX1_move_74 : decode cX1_move 74 = .ok (.ifCond .eq 22, 3) := zo_153 (by decide +kernel)
theorem dX1_move_77 : decode cX1_move 77 = .ok (.aload_n 0, 1) := zo_42 (by decide +kernel)
theorem dX1_move_78 : decode cX1_move 78 = .ok (.getfield 25, 3) := zo_180 (by decide +kernel)
theorem dX1_move_81 : decode cX1_move 81 = .ok (.iload_n 1, 1) := zo_27 (by decide +kernel)
theorem dX1_move_82 : decode cX1_move 82 = .ok (.invokevirtual 135, 3) := zo_182 (by decide +kernel)
theorem dX1_move_85 : decode cX1_move 85 = .ok (.ifCond .ne 11, 3) := zo_154 (by decide +kernel)
theorem dX1_move_88 : decode cX1_move 88 = .ok (.aload_n 0, 1) := zo_42 (by decide +kernel)
theorem dX1_move_89 : decode cX1_move 89 = .ok (.aload_n 0, 1) := zo_42 (by decide +kernel)
theorem dX1_move_90 : decode cX1_move 90 = .ok (.getfield 41, 3) := zo_180 (by decide +kernel)
theorem dX1_move_93 : decode cX1_move 93 = .ok (.putfield 44, 3) := zo_181 (by decide +kernel)
theorem dX1_move_96 : decode cX1_move 96 = .ok (.return_, 1) := zo_177 (by decide +kernel)
theorem dX1_add_0 : decode cX1_add 0 = .ok (.aload_n 0, 1) := zo_42 (by decide +kernel)
theorem dX1_add_1 : decode cX1_add 1 = .ok (.getfield 25, 3) := zo_180 (by decide +kernel)
theorem dX1_add_4 : decode cX1_add 4 = .ok (.iload_n 1, 1) := zo_27 (by decide +kernel)
theorem dX1_add_5 : decode cX1_add 5 = .ok (.invokevirtual 112, 3) := zo_182 (by decide +kernel)
theorem dX1_add_8 : decode cX1_add 8 = .ok (.ifCond .eq 14, 3) := zo_153 (by decide +kernel)
theorem dX1_add_11 : decode cX1_add 11 = .ok (.aload_n 0, 1) := zo_42 (by decide +kernel)
theorem dX1_add_12 : decode cX1_add 12 = .ok (.getfield 18, 3) := zo_180 (by decide +kernel)
theorem dX1_add_15 : decode cX1_add 15 = .ok (.iload_n 1, 1) := zo_27 (by decide +kernel)
theorem dX1_add_16 : decode cX1_add 16 = .ok (.iaload, 1) := zo_46 (by decide +kernel)
theorem dX1_add_17 : decode cX1_add 17 = .ok (.bipush 99, 2) := zo_16 (by decide +kernel)
theorem dX1_add_19 : decode cX1_add 19 = .ok (.if_icmp .lt 5, 3) := zo_161 (by decide +kernel)
theorem dX1_add_22 : decode cX1_add 22 = .ok (.iconst 0, 1) := zo_3 (by decide +kernel)
theorem dX1_add_23 : decode cX1_add 23 = .ok (.ireturn, 1) := zo_172 (by decide +kernel)
theorem dX1_add_24 : decode cX1_add 24 = .ok (.aload_n 0, 1) := zo_42 (by decide +kernel)
theorem dX1_add_25 : decode cX1_add 25 = .ok (.getfield 18, 3) := zo_180 (by decide +kernel)
theorem dX1_add_28 : decode cX1_add 28 = .ok (.iload_n 1, 1) := zo_27 (by decide +kernel)
theorem dX1_add_29 : decode cX1_add 29 = .ok (.dup2, 1) := zo_92 (by decide +kernel)
theorem dX1_add_30 : decode cX1_add 30 = .ok (.iaload, 1) := zo_46 (by decide +kernel)
theorem dX1_add_31 : decode cX1_add 31 = .ok (.iconst 1, 1) := zo_4 (by decide +kernel)
theorem dX1_add_32 : decode cX1_add 32 = .ok (.iadd, 1) := zo_96 (by decide +kernel)
theorem dX1_add_33 : decode cX1_add 33 = .ok (.iastore, 1) := zo_79 (by decide +kernel)
theorem dX1_add_34 : decode cX1_add 34 = .ok (.iconst 1, 1) := zo_4 (by decide +kernel)
theorem dX1_add_35 : decode cX1_add 35 = .ok (.ireturn, 1) := zo_172 (by decide +kernel)
theorem dX1_go_0 : decode cX1_go 0 = .ok (.aload_n 0, 1) := zo_42 (by decide +kernel)
theorem dX1_go_1 : decode cX1_go 1 = .ok (.getfield 25, 3) := zo_180 (by decide +kernel)
theorem dX1_go_4 : decode cX1_go 4 = .ok (.iload_n 1, 1) := zo_27 (by decide +kernel)
theorem dX1_go_5 : decode cX1_go 5 = .ok (.invokevirtual 112, 3) := zo_182 (by decide +kernel)
theorem dX1_go_8 : decode cX1_go 8 = .ok (.ifCond .eq 13, 3) := zo_153 (by decide +kernel)
theorem dX1_go_11 : decode cX1_go 11 = .ok (.aload_n 0, 1) := zo_42 (by decide +kernel)
theorem dX1_go_12 : decode cX1_go 12 = .ok (.getfield 18, 3) := zo_180 (by decide +kernel)
theorem dX1_go_15 : decode cX1_go 15 = .ok (.iload_n 1, 1) := zo_27 (by decide +kernel)
theorem dX1_go_16 : decode cX1_go 16 = .ok (.iaload, 1) := zo_46 (by decide +kernel)
theorem dX1_go_17 : decode cX1_go 17 = .ok (.iconst 1, 1) := zo_4 (by decide +kernel)
theorem dX1_go_18 : decode cX1_go 18 = .ok (.if_icmp .ge 5, 3) := zo_162 (by decide +kernel)
theorem dX1_go_21 : decode cX1_go 21 = .ok (.iconst 0, 1) := zo_3 (by decide +kernel)
theorem dX1_go_22 : decode cX1_go 22 = .ok (.ireturn, 1) := zo_172 (by decide +kernel)
theorem dX1_go_23 : decode cX1_go 23 = .ok (.aload_n 0, 1) := zo_42 (by decide +kernel)
theorem dX1_go_24 : decode cX1_go 24 = .ok (.getfield 12, 3) := zo_180 (by decide +kernel)
theorem dX1_go_27 : decode cX1_go 27 = .ok (.iload_n 1, 1) := zo_27 (by decide +kernel)
theorem dX1_go_28 : decode cX1_go 28 = .ok (.invokevirtual 115, 3) := zo_182 (by decide +kernel)
theorem dX1_go_31 : decode cX1_go 31 = .ok (.istore_n 2, 1) := zo_61 (by decide +kernel)
theorem dX1_go_32 : decode cX1_go 32 = .ok (.iload_n 2, 1) := zo_28 (by decide +kernel)
theorem dX1_go_33 : decode cX1_go 33 = .ok (.iconst (-1), 1) := zo_2 (by decide +kernel)
theorem dX1_go_34 : decode cX1_go 34 = .ok (.if_icmp .ne 5, 3) := zo_160 (by decide +kernel)
theorem dX1_go_37 : decode cX1_go 37 = .ok (.iconst 0, 1) := zo_3 (by decide +kernel)
theorem dX1_go_38 : decode cX1_go 38 = .ok (.ireturn, 1) := zo_172 (by decide +kernel)
theorem dX1_go_39 : decode cX1_go 39 = .ok (.aload_n 0, 1) := zo_42 (by decide +kernel)
theorem dX1_go_40 : decode cX1_go 40 = .ok (.dup, 1) := zo_89 (by decide +kernel)
theorem dX1_go_41 : decode cX1_go 41 = .ok (.getfield 34, 3) := zo_180 (by decide +kernel)
theorem dX1_go_44 : decode cX1_go 44 = .ok (.iconst 1, 1) := zo_4 (by decide +kernel)
theorem dX1_go_45 : decode cX1_go 45 = .ok (.iadd, 1) := zo_96 (by decide +kernel)
theorem dX1_go_46 : decode cX1_go 46 = .ok (.putfield 34, 3) := zo_181 (by decide +kernel)
theorem dX1_go_49 : decode cX1_go 49 = .ok (.aload_n 0, 1) := zo_42 (by decide +kernel)
theorem dX1_go_50 : decode cX1_go 50 = .ok (.iload_n 1, 1) := zo_27 (by decide +kernel)
theorem dX1_go_51 : decode cX1_go 51 = .ok (.iload_n 2, 1) := zo_28 (by decide +kernel)
theorem dX1_go_52 : decode cX1_go 52 = .ok (.invokevirtual 118, 3) := zo_182 (by decide +kernel)
theorem dX1_go_55 : decode cX1_go 55 = .ok (.iconst 1, 1) := zo_4 (by decide +kernel)
theorem dX1_go_56 : decode cX1_go 56 = .ok (.ireturn, 1) := zo_172 (by decide +kernel)
theorem dX1_run_0 : decode cX1_run 0 = .ok (.aload_n 0, 1) := zo_42 (by decide +kernel)
theorem dX1_run_1 : decode cX1_run 1 = .ok (.getfield 25, 3) := zo_180 (by decide +kernel)
theorem dX1_run_4 : decode cX1_run 4 = .ok (.iload_n 1, 1) := zo_27 (by decide +kernel)
theorem dX1_run_5 : decode cX1_run 5 = .ok (.invokevirtual 112, 3) := zo_182 (by decide +kernel)
theorem dX1_run_8 : decode cX1_run 8 = .ok (.ifCond .eq 13, 3) := zo_153 (by decide +kernel)
theorem dX1_run_11 : decode cX1_run 11 = .ok (.aload_n 0, 1) := zo_42 (by decide +kernel)
theorem dX1_run_12 : decode cX1_run 12 = .ok (.getfield 18, 3) := zo_180 (by decide +kernel)
theorem dX1_run_15 : decode cX1_run 15 = .ok (.iload_n 1, 1) := zo_27 (by decide +kernel)
theorem dX1_run_16 : decode cX1_run 16 = .ok (.iaload, 1) := zo_46 (by decide +kernel)
theorem dX1_run_17 : decode cX1_run 17 = .ok (.iconst 1, 1) := zo_4 (by decide +kernel)
theorem dX1_run_18 : decode cX1_run 18 = .ok (.if_icmp .ge 5, 3) := zo_162 (by decide +kernel)
theorem dX1_run_21 : decode cX1_run 21 = .ok (.iconst 0, 1) := zo_3 (by decide +kernel)
theorem dX1_run_22 : decode cX1_run 22 = .ok (.ireturn, 1) := zo_172 (by decide +kernel)
theorem dX1_run_23 : decode cX1_run 23 = .ok (.aload_n 0, 1) := zo_42 (by decide +kernel)
theorem dX1_run_24 : decode cX1_run 24 = .ok (.getfield 12, 3) := zo_180 (by decide +kernel)
theorem dX1_run_27 : decode cX1_run 27 = .ok (.iload_n 1, 1) := zo_27 (by decide +kernel)
theorem dX1_run_28 : decode cX1_run 28 = .ok (.invokevirtual 122, 3) := zo_182 (by decide +kernel)
theorem dX1_run_31 : decode cX1_run 31 = .ok (.aload_n 0, 1) := zo_42 (by decide +kernel)
theorem dX1_run_32 : decode cX1_run 32 = .ok (.dup, 1) := zo_89 (by decide +kernel)
theorem dX1_run_33 : decode cX1_run 33 = .ok (.getfield 34, 3) := zo_180 (by decide +kernel)
theorem dX1_run_36 : decode cX1_run 36 = .ok (.aload_n 0, 1) := zo_42 (by decide +kernel)
theorem dX1_run_37 : decode cX1_run 37 = .ok (.getfield 12, 3) := zo_180 (by decide +kernel)
theorem dX1_run_40 : decode cX1_run 40 = .ok (.getfield 125, 3) := zo_180 (by decide +kernel)
theorem dX1_run_43 : decode cX1_run 43 = .ok (.iadd, 1) := zo_96 (by decide +kernel)
theorem dX1_run_44 : decode cX1_run 44 = .ok (.putfield 34, 3) := zo_181 (by decide +kernel)
theorem dX1_run_47 : decode cX1_run 47 = .ok (.aload_n 0, 1) := zo_42 (by decide +kernel)
theorem dX1_run_48 : decode cX1_run 48 = .ok (.aload_n 0, 1) := zo_42 (by decide +kernel)
theorem dX1_run_49 : decode cX1_run 49 = .ok (.getfield 47, 3) := zo_180 (by decide +kernel)
theorem dX1_run_52 : decode cX1_run 52 = .ok (.aload_n 0, 1) := zo_42 (by decide +kernel)
theorem dX1_run_53 : decode cX1_run 53 = .ok (.getfield 12, 3) := zo_180 (by decide +kernel)
theorem dX1_run_56 : decode cX1_run 56 = .ok (.getfield 125, 3) := zo_180 (by decide +kernel)
theorem dX1_run_59 : decode cX1_run 59 = .ok (.invokestatic 126, 3) := zo_184 (by decide +kernel)
theorem dX1_run_62 : decode cX1_run 62 = .ok (.putfield 47, 3) := zo_181 (by decide +kernel)
theorem dX1_run_65 : decode cX1_run 65 = .ok (.aload_n 0, 1) := zo_42 (by decide +kernel)
theorem dX1_run_66 : decode cX1_run 66 = .ok (.getfield 25, 3) := zo_180 (by decide +kernel)
theorem dX1_run_69 : decode cX1_run 69 = .ok (.aload_n 0, 1) := zo_42 (by decide +kernel)
theorem dX1_run_70 : decode cX1_run 70 = .ok (.getfield 12, 3) := zo_180 (by decide +kernel)
theorem dX1_run_73 : decode cX1_run 73 = .ok (.getfield 132, 3) := zo_180 (by decide +kernel)
theorem dX1_run_76 : decode cX1_run 76 = .ok (.invokevirtual 135, 3) := zo_182 (by decide +kernel)
theorem dX1_run_79 : decode cX1_run 79 = .ok (.ifCond .ne 13, 3) := zo_154 (by decide +kernel)
theorem dX1_run_82 : decode cX1_run 82 = .ok (.aload_n 0, 1) := zo_42 (by decide +kernel)
theorem dX1_run_83 : decode cX1_run 83 = .ok (.dup, 1) := zo_89 (by decide +kernel)
theorem dX1_run_84 : decode cX1_run 84 = .ok (.getfield 38, 3) := zo_180 (by decide +kernel)
theorem dX1_run_87 : decode cX1_run 87 = .ok (.iconst 1, 1) := zo_4 (by decide +kernel)
theorem dX1_run_88 : decode cX1_run 88 = .ok (.iadd, 1) := zo_96 (by decide +kernel)
theorem dX1_run_89 : decode cX1_run 89 = .ok (.putfield 38, 3) := zo_181 (by decide +kernel)
theorem dX1_run_92 : decode cX1_run 92 = .ok (.aload_n 0, 1) := zo_42 (by decide +kernel)
theorem dX1_run_93 : decode cX1_run 93 = .ok (.iload_n 1, 1) := zo_27 (by decide +kernel)
theorem dX1_run_94 : decode cX1_run 94 = .ok (.aload_n 0, 1) := zo_42 (by decide +kernel)
theorem dX1_run_95 : decode cX1_run 95 = .ok (.getfield 12, 3) := zo_180 (by decide +kernel)
theorem dX1_run_98 : decode cX1_run 98 = .ok (.getfield 132, 3) := zo_180 (by decide +kernel)
theorem dX1_run_101 : decode cX1_run 101 = .ok (.invokevirtual 118, 3) := zo_182 (by decide +kernel)
theorem dX1_run_104 : decode cX1_run 104 = .ok (.iconst 1, 1) := zo_4 (by decide +kernel)
theorem dX1_run_105 : decode cX1_run 105 = .ok (.ireturn, 1) := zo_172 (by decide +kernel)
theorem dX1_shut_0 : decode cX1_shut 0 = .ok (.aload_n 0, 1) := zo_42 (by decide +kernel)
theorem dX1_shut_1 : decode cX1_shut 1 = .ok (.getfield 25, 3) := zo_180 (by decide +kernel)
theorem dX1_shut_4 : decode cX1_shut 4 = .ok (.iload_n 1, 1) := zo_27 (by decide +kernel)
theorem dX1_shut_5 : decode cX1_shut 5 = .ok (.iload_n 2, 1) := zo_28 (by decide +kernel)
theorem dX1_shut_6 : decode cX1_shut 6 = .ok (.invokevirtual 138, 3) := zo_182 (by decide +kernel)
theorem dX1_shut_9 : decode cX1_shut 9 = .ok (.ifCond .eq 19, 3) := zo_153 (by decide +kernel)
theorem dX1_shut_12 : decode cX1_shut 12 = .ok (.aload_n 0, 1) := zo_42 (by decide +kernel)
theorem dX1_shut_13 : decode cX1_shut 13 = .ok (.getfield 12, 3) := zo_180 (by decide +kernel)
theorem dX1_shut_16 : decode cX1_shut 16 = .ok (.iload_n 1, 1) := zo_27 (by decide +kernel)
theorem dX1_shut_17 : decode cX1_shut 17 = .ok (.iload_n 2, 1) := zo_28 (by decide +kernel)
theorem dX1_shut_18 : decode cX1_shut 18 = .ok (.invokevirtual 141, 3) := zo_182 (by decide +kernel)
theorem dX1_shut_21 : decode cX1_shut 21 = .ok (.ifCond .ne 7, 3) := zo_154 (by decide +kernel)
theorem dX1_shut_24 : decode cX1_shut 24 = .ok (.iconst 1, 1) := zo_4 (by decide +kernel)
theorem dX1_shut_25 : decode cX1_shut 25 = .ok (.goto 4, 3) := zo_167 (by decide +kernel)
theorem dX1_shut_28 : decode cX1_shut 28 = .ok (.iconst 0, 1) := zo_3 (by decide +kernel)
theorem dX1_shut_29 : decode cX1_shut 29 = .ok (.istore_n 3, 1) := zo_62 (by decide +kernel)
theorem dX1_shut_30 : decode cX1_shut 30 = .ok (.iload_n 3, 1) := zo_29 (by decide +kernel)
theorem dX1_shut_31 : decode cX1_shut 31 = .ok (.ifCond .eq 12, 3) := zo_153 (by decide +kernel)
theorem dX1_shut_34 : decode cX1_shut 34 = .ok (.aload_n 0, 1) := zo_42 (by decide +kernel)
theorem dX1_shut_35 : decode cX1_shut 35 = .ok (.getfield 12, 3) := zo_180 (by decide +kernel)
theorem dX1_shut_38 : decode cX1_shut 38 = .ok (.iload_n 1, 1) := zo_27 (by decide +kernel)
theorem dX1_shut_39 : decode cX1_shut 39 = .ok (.iload_n 2, 1) := zo_28 (by decide +kernel)
theorem dX1_shut_40 : decode cX1_shut 40 = .ok (.invokevirtual 144, 3) := zo_182 (by decide +kernel)
theorem dX1_shut_43 : decode cX1_shut 43 = .ok (.iload_n 3, 1) := zo_29 (by decide +kernel)
theorem dX1_shut_44 : decode cX1_shut 44 = .ok (.ireturn, 1) := zo_172 (by decide +kernel)
theorem dX1_open_0 : decode cX1_open 0 = .ok (.aload_n 0, 1) := zo_42 (by decide +kernel)
theorem dX1_open_1 : decode cX1_open 1 = .ok (.getfield 12, 3) := zo_180 (by decide +kernel)
theorem dX1_open_4 : decode cX1_open 4 = .ok (.iload_n 1, 1) := zo_27 (by decide +kernel)
theorem dX1_open_5 : decode cX1_open 5 = .ok (.iload_n 2, 1) := zo_28 (by decide +kernel)
theorem dX1_open_6 : decode cX1_open 6 = .ok (.invokevirtual 141, 3) := zo_182 (by decide +kernel)
theorem dX1_open_9 : decode cX1_open 9 = .ok (.istore_n 3, 1) := zo_62 (by decide +kernel)
theorem dX1_open_10 : decode cX1_open 10 = .ok (.iload_n 3, 1) := zo_29 (by decide +kernel)
theorem dX1_open_11 : decode cX1_open 11 = .ok (.ifCond .eq 12, 3) := zo_153 (by decide +kernel)
theorem dX1_open_14 : decode cX1_open 14 = .ok (.aload_n 0, 1) := zo_42 (by decide +kernel)
theorem dX1_open_15 : decode cX1_open 15 = .ok (.getfield 12, 3) := zo_180 (by decide +kernel)
theorem dX1_open_18 : decode cX1_open 18 = .ok (.iload_n 1, 1) := zo_27 (by decide +kernel)
theorem dX1_open_19 : decode cX1_open 19 = .ok (.iload_n 2, 1) := zo_28 (by decide +kernel)
theorem dX1_open_20 : decode cX1_open 20 = .ok (.invokevirtual 147, 3) := zo_182 (by decide +kernel)
theorem dX1_open_23 : decode cX1_open 23 = .ok (.iload_n 3, 1) := zo_29 (by decide +kernel)
theorem dX1_open_24 : decode cX1_open 24 = .ok (.ireturn, 1) := zo_172 (by decide +kernel)
set_option maxHeartbeats 4000000 in
set_option maxRecDepth 100000 in
/-- arrive -/
theorem c_arrive (l : Launch) (T : zTy) (h : Nat) (po : Nat) (t1 : Nat → Int32) (t2 : Nat → Int32) (v0 : Int32) (v1 : Int32) (v2 : Int32) (v3 : Int32) (v4 : Int32) (wt : va_W) (x : Int32) (y : Int32) (ht : bTrail T h po t1 t2 v0 v1 v2 v3 v4 wt) : zMi l T yX10_arrive cX10_arrive 4 (some .int) 1 0 0 [.ref h, .int x, .int y] [wt] (fun (r : Int32) bs => ∃ (wt2 : va_W) (s1 : Nat → Int32) (u3 : Int32), bs = [wt2] ∧ bTrail T h po s1 t2 v0 v1 x u3 v4 wt2) := by
  refine zMi_of (own := RX10) (by decide) rfl (Nat.le_of_ble_eq_true rfl) ?_
  intro p e s m args below meth c A ls C hr hlocks hnm hAe G hl
  refine zHide (fun Qz_ hQz_ => ?_)
  have hx := C.1
  have hb := C.2.1
  have hl : lv_has ls 4 [(0, .ref h), (1, .int x), (2, .int y)] := hl
  refine lv_aload_n hx hb dX10_arrive_0 rfl (lv_at hl 0 rfl) ?_
  refine lv_iload_n hx hb dX10_arrive_1 rfl (lv_at hl 1 rfl) ?_
  refine zEx2 ht ?_
  intro a1_1 a2_2 hbs9
  clear ht
  subst hbs9
  have G : zS T A s.heap s [[zO9 h po a1_1 a2_2 v0 v1 v2 v3 v4], [zAr T 0 a1_1 7 t1], [zAr T 0 a2_2 7 t2]] _ _ := G.re rfl
  refine z_put C G clX10 0 rfl 5 (by decide) m_fl_RX10_51 rfl rfl rfl (Nat.le_of_ble_eq_true rfl) dX10_arrive_2 (fun H locs G => ?_)
  have G : zS T A s.heap s [[zO9 h po a1_1 a2_2 v0 v1 x v3 v4], [zAr T 0 a1_1 7 t1], [zAr T 0 a2_2 7 t2]] _ _ := G
  refine lv_iload_n hx hb dX10_arrive_5 rfl (lv_at hl 1 rfl) ?_
  refine lv_if_lt (tgt := 15) hx hb dX10_arrive_6 (by decide) (fun c_3 => ?_) (fun c_3 => ?_)
  · have c_3n : x.toInt < (0 : Int) := (fa_lt _ _).mp c_3
    refine lv_iload_n hx hb dX10_arrive_15 rfl (lv_at hl 2 rfl) ?_
    have hw_4 : bTrail T h po t1 t2 v0 v1 x v3 v4 [zO9 h po a1_1 a2_2 v0 v1 x v3 v4, zAr T 0 a1_1 7 t1, zAr T 0 a2_2 7 t2] := ⟨a1_1, a2_2, rfl⟩
    have G : zS T A s.heap s [[zO9 h po a1_1 a2_2 v0 v1 x v3 v4, zAr T 0 a1_1 7 t1, zAr T 0 a2_2 7 t2]] _ _ := G.re rfl
    exact z_back hQz_ (z_iret C hr hlocks G (Nat.le_of_ble_eq_true rfl) (Nat.le_of_ble_eq_true rfl) dX10_arrive_16 ⟨([zO9 h po a1_1 a2_2 v0 v1 x v3 v4, zAr T 0 a1_1 7 t1, zAr T 0 a2_2 7 t2]), t1, v3, rfl, hw_4⟩)
  · have c_3n : ¬ x.toInt < (0 : Int) := fun q => c_3 ((fa_lt _ _).mpr q)
    refine lv_iload_n hx hb dX10_arrive_9 rfl (lv_at hl 1 rfl) ?_
    refine lv_bipush (v := 7) hx hb dX10_arrive_10 (by decide) ?_
    refine lv_icmp_lt (tgt := 17) hx hb dX10_arrive_12 (by decide) (fun c_5 => ?_) (fun c_5 => ?_)
    · have c_5n : x.toInt < (7 : Int) := (fa_lt _ _).mp c_5
      refine lv_aload_n hx hb dX10_arrive_17 rfl (lv_at hl 0 rfl) ?_
      refine z_get C G clX10 0 rfl 1 (by decide) m_fl_RX10_18 rfl dX10_arrive_18 ?_
      refine lv_iload_n hx hb dX10_arrive_21 rfl (lv_at hl 1 rfl) ?_
      refine lv_dup2_11 hx hb dX10_arrive_22 rfl rfl ?_
      refine z_ild C G 1 rfl (vp_in_iff.mpr ⟨by omega, by omega⟩) dX10_arrive_23 ?_
      refine lv_topi (fun v_6 ev_6 => ?_)
      subst ev_6
      refine lv_iconst (v := 1) hx hb dX10_arrive_24 (by decide) ?_
      refine lv_iadd hx hb dX10_arrive_25 ?_
      refine z_ist C G 1 rfl (vp_in_iff.mpr ⟨by omega, by omega⟩) dX10_arrive_26 (fun H locs G => ?_)
      have G : zS T A s.heap s [[zO9 h po a1_1 a2_2 v0 v1 x v3 v4], [zAr T 0 a1_1 7 (upd t1 x.toNatClampNeg ((t1 x.toNatClampNeg) + 1))], [zAr T 0 a2_2 7 t2]] _ _ := G
      refine lv_iload_n hx hb dX10_arrive_27 rfl (lv_at hl 2 rfl) ?_
      refine lv_iconst (v := 1) hx hb dX10_arrive_28 (by decide) ?_
      refine lv_iload_n hx hb dX10_arrive_29 rfl (lv_at hl 1 rfl) ?_
      refine lv_ishl hx hb dX10_arrive_30 ?_
      refine lv_ior hx hb dX10_arrive_31 ?_
      refine lv_istore_n (lv' := [(3, .int (y ||| (1 <<< (x &&& 31)))), (0, .ref h), (1, .int x), (2, .int y)]) hx hb dX10_arrive_32 rfl hl (by decide) (zLvf_h rfl) (fun ls hl => ?_)
      refine lv_aload_n hx hb dX10_arrive_33 rfl (lv_at hl 1 rfl) ?_
      refine lv_aload_n hx hb dX10_arrive_34 rfl (lv_at hl 1 rfl) ?_
      refine z_get C G clX10 0 rfl 6 (by decide) m_fl_RX10_44 rfl dX10_arrive_35 ?_
      refine lv_iconst (v := (-1)) hx hb dX10_arrive_38 (by decide) ?_
      refine lv_icmp_ne (tgt := 57) hx hb dX10_arrive_39 (by decide) (fun c_7 => ?_) (fun c_7 => ?_)
      · have c_7n : ¬ v3.toInt = (-1 : Int) := fun q => c_7 ((fa_eq _ _).mpr q)
        refine lv_aload_n hx hb dX10_arrive_57 rfl (lv_at hl 1 rfl) ?_
        refine z_get C G clX10 0 rfl 6 (by decide) m_fl_RX10_44 rfl dX10_arrive_58 ?_
        refine z_put C G clX10 0 rfl 6 (by decide) m_fl_RX10_44 rfl rfl rfl (Nat.le_of_ble_eq_true rfl) dX10_arrive_61 (fun H locs G => ?_)
        have G : zS T A s.heap s [[zO9 h po a1_1 a2_2 v0 v1 x v3 v4], [zAr T 0 a1_1 7 (upd t1 x.toNatClampNeg ((t1 x.toNatClampNeg) + 1))], [zAr T 0 a2_2 7 t2]] _ _ := G
        refine lv_iload_n hx hb dX10_arrive_64 rfl (lv_at hl 0 rfl) ?_
        have hw_8 : bTrail T h po (upd t1 x.toNatClampNeg ((t1 x.toNatClampNeg) + 1)) t2 v0 v1 x v3 v4 [zO9 h po a1_1 a2_2 v0 v1 x v3 v4, zAr T 0 a1_1 7 (upd t1 x.toNatClampNeg ((t1 x.toNatClampNeg) + 1)), zAr T 0 a2_2 7 t2] := ⟨a1_1, a2_2, rfl⟩
        have G : zS T A s.heap s [[zO9 h po a1_1 a2_2 v0 v1 x v3 v4, zAr T 0 a1_1 7 (upd t1 x.toNatClampNeg ((t1 x.toNatClampNeg) + 1)), zAr T 0 a2_2 7 t2]] _ _ := G.re rfl
        exact z_back hQz_ (z_iret C hr hlocks G (Nat.le_of_ble_eq_true rfl) (Nat.le_of_ble_eq_true rfl) dX10_arrive_65 ⟨([zO9 h po a1_1 a2_2 v0 v1 x v3 v4, zAr T 0 a1_1 7 (upd t1 x.toNatClampNeg ((t1 x.toNatClampNeg) + 1)), zAr T 0 a2_2 7 t2]), (upd t1 x.toNatClampNeg ((t1 x.toNatClampNeg) + 1)), v3, rfl, hw_8⟩)
      · have c_7n : v3.toInt = (-1 : Int) := (fa_eq _ _).mp c_7
        refine lv_iload_n hx hb dX10_arrive_42 rfl (lv_at hl 0 rfl) ?_
        refine lv_aload_n hx hb dX10_arrive_43 rfl (lv_at hl 1 rfl) ?_
        refine z_get C G clX10 0 rfl 3 (by decide) m_fl_RX10_35 rfl dX10_arrive_44 ?_
        refine lv_icmp_ne (tgt := 57) hx hb dX10_arrive_47 (by decide) (fun c_9 => ?_) (fun c_9 => ?_)
        · have c_9n : ¬ (y ||| (1 <<< (x &&& 31))).toInt = v0.toInt := fun q => c_9 ((fa_eq _ _).mpr q)
          refine lv_aload_n hx hb dX10_arrive_57 rfl (lv_at hl 1 rfl) ?_
          refine z_get C G clX10 0 rfl 6 (by decide) m_fl_RX10_44 rfl dX10_arrive_58 ?_
          refine z_put C G clX10 0 rfl 6 (by decide) m_fl_RX10_44 rfl rfl rfl (Nat.le_of_ble_eq_true rfl) dX10_arrive_61 (fun H locs G => ?_)
          have G : zS T A s.heap s [[zO9 h po a1_1 a2_2 v0 v1 x v3 v4], [zAr T 0 a1_1 7 (upd t1 x.toNatClampNeg ((t1 x.toNatClampNeg) + 1))], [zAr T 0 a2_2 7 t2]] _ _ := G
          refine lv_iload_n hx hb dX10_arrive_64 rfl (lv_at hl 0 rfl) ?_
          have hw_10 : bTrail T h po (upd t1 x.toNatClampNeg ((t1 x.toNatClampNeg) + 1)) t2 v0 v1 x v3 v4 [zO9 h po a1_1 a2_2 v0 v1 x v3 v4, zAr T 0 a1_1 7 (upd t1 x.toNatClampNeg ((t1 x.toNatClampNeg) + 1)), zAr T 0 a2_2 7 t2] := ⟨a1_1, a2_2, rfl⟩
          have G : zS T A s.heap s [[zO9 h po a1_1 a2_2 v0 v1 x v3 v4, zAr T 0 a1_1 7 (upd t1 x.toNatClampNeg ((t1 x.toNatClampNeg) + 1)), zAr T 0 a2_2 7 t2]] _ _ := G.re rfl
          exact z_back hQz_ (z_iret C hr hlocks G (Nat.le_of_ble_eq_true rfl) (Nat.le_of_ble_eq_true rfl) dX10_arrive_65 ⟨([zO9 h po a1_1 a2_2 v0 v1 x v3 v4, zAr T 0 a1_1 7 (upd t1 x.toNatClampNeg ((t1 x.toNatClampNeg) + 1)), zAr T 0 a2_2 7 t2]), (upd t1 x.toNatClampNeg ((t1 x.toNatClampNeg) + 1)), v3, rfl, hw_10⟩)
        · have c_9n : (y ||| (1 <<< (x &&& 31))).toInt = v0.toInt := (fa_eq _ _).mp c_9
          refine lv_aload_n hx hb dX10_arrive_50 rfl (lv_at hl 1 rfl) ?_
          refine z_get C G clX10 0 rfl 4 (by decide) m_fl_RX10_38 rfl dX10_arrive_51 ?_
          refine lv_goto (tgt := 61) hx hb dX10_arrive_54 (by decide) ?_
          refine z_put C G clX10 0 rfl 6 (by decide) m_fl_RX10_44 rfl rfl rfl (Nat.le_of_ble_eq_true rfl) dX10_arrive_61 (fun H locs G => ?_)
          have G : zS T A s.heap s [[zO9 h po a1_1 a2_2 v0 v1 x v1 v4], [zAr T 0 a1_1 7 (upd t1 x.toNatClampNeg ((t1 x.toNatClampNeg) + 1))], [zAr T 0 a2_2 7 t2]] _ _ := G
          refine lv_iload_n hx hb dX10_arrive_64 rfl (lv_at hl 0 rfl) ?_
          have hw_11 : bTrail T h po (upd t1 x.toNatClampNeg ((t1 x.toNatClampNeg) + 1)) t2 v0 v1 x v1 v4 [zO9 h po a1_1 a2_2 v0 v1 x v1 v4, zAr T 0 a1_1 7 (upd t1 x.toNatClampNeg ((t1 x.toNatClampNeg) + 1)), zAr T 0 a2_2 7 t2] := ⟨a1_1, a2_2, rfl⟩
          have G : zS T A s.heap s [[zO9 h po a1_1 a2_2 v0 v1 x v1 v4, zAr T 0 a1_1 7 (upd t1 x.toNatClampNeg ((t1 x.toNatClampNeg) + 1)), zAr T 0 a2_2 7 t2]] _ _ := G.re rfl
          exact z_back hQz_ (z_iret C hr hlocks G (Nat.le_of_ble_eq_true rfl) (Nat.le_of_ble_eq_true rfl) dX10_arrive_65 ⟨([zO9 h po a1_1 a2_2 v0 v1 x v1 v4, zAr T 0 a1_1 7 (upd t1 x.toNatClampNeg ((t1 x.toNatClampNeg) + 1)), zAr T 0 a2_2 7 t2]), (upd t1 x.toNatClampNeg ((t1 x.toNatClampNeg) + 1)), v1, rfl, hw_11⟩)
    · have c_5n : ¬ x.toInt < (7 : Int) := fun q => c_5 ((fa_lt _ _).mpr q)
      refine lv_iload_n hx hb dX10_arrive_15 rfl (lv_at hl 2 rfl) ?_
      have hw_12 : bTrail T h po t1 t2 v0 v1 x v3 v4 [zO9 h po a1_1 a2_2 v0 v1 x v3 v4, zAr T 0 a1_1 7 t1, zAr T 0 a2_2 7 t2] := ⟨a1_1, a2_2, rfl⟩
      have G : zS T A s.heap s [[zO9 h po a1_1 a2_2 v0 v1 x v3 v4, zAr T 0 a1_1 7 t1, zAr T 0 a2_2 7 t2]] _ _ := G.re rfl
      exact z_back hQz_ (z_iret C hr hlocks G (Nat.le_of_ble_eq_true rfl) (Nat.le_of_ble_eq_true rfl) dX10_arrive_16 ⟨([zO9 h po a1_1 a2_2 v0 v1 x v3 v4, zAr T 0 a1_1 7 t1, zAr T 0 a2_2 7 t2]), t1, v3, rfl, hw_12⟩)
set_option maxHeartbeats 4000000 in
set_option maxRecDepth 100000 in
/-- follow -/
theorem c_follow (l : Launch) (T : zTy) (h : Nat) (po : Nat) (t1 : Nat → Int32) (t2 : Nat → Int32) (v0 : Int32) (v1 : Int32) (v2 : Int32) (v3 : Int32) (v4 : Int32) (wt : va_W) (la : Nat) (f1 : Nat → Int32) (f2 : Nat → Int32) (f3 : Nat → Int32) (st : Int32) (wh : Int32) (wp : va_W) (o : Nat) (cr : Int32) (inn : Int32) (k1 : Nat → Int32) (k2 : Nat → Int32) (k3 : Nat → Int32) (k4 : Nat → Int32) (z : va_W) (x : Int32) (ht : bTrail T h po t1 t2 v0 v1 v2 v3 v4 wt) (hp : bPosts T po la f1 f2 f3 st wh wp) (hz : bLand T o cr inn k1 k2 k3 k4 z) (hI : zLI cr k1 k3) : zMv l T yX10_follow cX10_follow 6 5 0 0 [.ref h, .ref o, .int x] [wt, wp, z] (fun bs => ∃ (wt2 : va_W) (s1 : Nat → Int32) (s2 : Nat → Int32) (u0 : Int32) (u1 : Int32) (u2 : Int32) (u3 : Int32) (u4 : Int32) (wp2 : va_W) (g1 : Nat → Int32) (g2 : Nat → Int32) (g3 : Nat → Int32) (sa : Int32) (wa : Int32), bs = [wt2, wp2, z] ∧ bTrail T h po s1 s2 u0 u1 u2 u3 u4 wt2 ∧ bPosts T po o g1 g2 g3 sa wa wp2 ∧ zP3 g1 g3) := by
  refine zMv_of (own := RX10) (by decide) rfl (Nat.le_of_ble_eq_true rfl) ?_
  intro p e s m args below meth c A ls C hr hlocks hnm hAe G hl
  refine zHide (fun Qz_ hQz_ => ?_)
  have hx := C.1
  have hb := C.2.1
  have hl : lv_has ls 6 [(0, .ref h), (1, .ref o), (2, .int x)] := hl
  refine lv_aload_n hx hb dX10_follow_0 rfl (lv_at hl 0 rfl) ?_
  refine zEx2 ht ?_
  intro a1_1 a2_2 hbs9
  clear ht
  subst hbs9
  have G : zS T A s.heap s [[zO9 h po a1_1 a2_2 v0 v1 v2 v3 v4], [zAr T 0 a1_1 7 t1], [zAr T 0 a2_2 7 t2], wp, z] _ _ := G.re rfl
  refine z_get C G clX10 0 rfl 0 (by decide) m_fl_RX10_12 rfl dX10_follow_1 ?_
  refine lv_aload_n hx hb dX10_follow_4 rfl (lv_at hl 1 rfl) ?_
  refine z_Vv (bc := [wp, z]) (br := [[zO9 h po a1_1 a2_2 v0 v1 v2 v3 v4], [zAr T 0 a1_1 7 t1], [zAr T 0 a2_2 7 t2]]) (As := [.ref o]) (rest := []) C G (c_Posts_begin l T po la f1 f2 f3 st wh wp o cr inn k1 k2 k3 k4 z hp hz) (kV_RX10_25 C.2.2.2.2 (Nat.le_of_ble_eq_true rfl) (Nat.le_of_ble_eq_true rfl)) [3, 4] [3, 0] rfl rfl (ci := 6) (qc := (RX6, TX6, 6)) rfl rfl (List.mem_flatten.mpr ⟨_, List.mem_of_getElem? (i := 0) rfl, (bPosts_mem hp).choose_spec⟩) rfl rfl hl.1 dX10_follow_5 (Nat.le_of_ble_eq_true rfl) (Nat.le_of_ble_eq_true rfl) (fun b1 H locs hw G => ?_)
  refine zEx4 hw ?_
  intro w2_3 g1_4 g2_5 g3_6
  refine zCu5 ?_
  intro hbs9 h_7 h_8 h_9 h_10
  clear hw
  subst hbs9
  have G : zS T A s.heap s [[zO9 h po a1_1 a2_2 v0 v1 v2 v3 v4], [zAr T 0 a1_1 7 t1], [zAr T 0 a2_2 7 t2], w2_3, z] _ _ := G
  have hQ : zP3 g1_4 g3_6 := z_P3 hI h_8 h_10
  refine lv_iconst (v := 0) hx hb dX10_follow_8 (by decide) ?_
  refine lv_istore_n (lv' := [(3, .int 0), (0, .ref h), (1, .ref o), (2, .int x)]) hx hb dX10_follow_9 rfl hl (by decide) (zLvf_h rfl) (fun ls hl => ?_)
  have hw_12 : bTrail T h po t1 t2 v0 v1 v2 v3 v4 [zO9 h po a1_1 a2_2 v0 v1 v2 v3 v4, zAr T 0 a1_1 7 t1, zAr T 0 a2_2 7 t2] := ⟨a1_1, a2_2, rfl⟩
  have G : zS T A s.heap s [[zO9 h po a1_1 a2_2 v0 v1 v2 v3 v4, zAr T 0 a1_1 7 t1, zAr T 0 a2_2 7 t2], w2_3, z] _ _ := G.re rfl
  refine z_lp4 (T := T) 10 (fun (i : Nat) (wt4 : va_W) (x1 : Nat → Int32) (x2 : Nat → Int32) => [wt4, w2_3, z]) (fun (i : Nat) (wt4 : va_W) (x1 : Nat → Int32) (x2 : Nat → Int32) => [(3, .int (nI i)), (0, .ref h), (1, .ref o), (2, .int x)]) (fun (i : Nat) (wt4 : va_W) (x1 : Nat → Int32) (x2 : Nat → Int32) => bTrail T h po x1 x2 v0 v1 v2 v3 v4 wt4 ∧ i ≤ 7) (fun (i : Nat) (wt4 : va_W) (x1 : Nat → Int32) (x2 : Nat → Int32) => 7 - i) ?_ 0 ([zO9 h po a1_1 a2_2 v0 v1 v2 v3 v4, zAr T 0 a1_1 7 t1, zAr T 0 a2_2 7 t2]) t1 t2 (show bTrail T h po t1 t2 v0 v1 v2 v3 v4 ([zO9 h po a1_1 a2_2 v0 v1 v2 v3 v4, zAr T 0 a1_1 7 t1, zAr T 0 a2_2 7 t2]) ∧ 0 ≤ 7 from ⟨hw_12, by omega⟩) G (lv_sub hl [0, 1, 2, 3] rfl)
  intro i wt4 x1 x2 hI9 ih_10 H locs ls G hl
  replace hI9 : bTrail T h po x1 x2 v0 v1 v2 v3 v4 wt4 ∧ i ≤ 7 := hI9
  refine zAn2 hI9 ?_
  intro ht4 hi
  clear hI9
  replace G : zS T A s.heap s [wt4, w2_3, z] _ _ := G
  replace hl : lv_has ls 6 [(3, .int (nI i)), (0, .ref h), (1, .ref o), (2, .int x)] := hl
  refine lv_iload_n hx hb dX10_follow_10 rfl (lv_at hl 0 rfl) ?_
  refine lv_bipush (v := 7) hx hb dX10_follow_11 (by decide) ?_
  refine lv_icmp_ge (tgt := 36) hx hb dX10_follow_13 (by decide) (fun c_13 => ?_) (fun c_13 => ?_)
  · have c_13n : 7 ≤ i := (nI_leI (a := 7) (b := i) (by omega) (by omega)).mp c_13
    refine lv_aload_n hx hb dX10_follow_36 rfl (lv_at hl 1 rfl) ?_
    refine lv_aload_n hx hb dX10_follow_37 rfl (lv_at hl 2 rfl) ?_
    refine lv_iload_n hx hb dX10_follow_38 rfl (lv_at hl 3 rfl) ?_
    refine z_Si (bc := [z]) (br := [wt4, w2_3]) (As := [.ref o, .int x]) (rest := [.ref h]) C G (c_reached l T o cr inn k1 k2 k3 k4 z x hz hI) (kS_RX10_29 C.2.2.2.2 (Nat.le_of_ble_eq_true rfl) (Nat.le_of_ble_eq_true rfl)) [2] [2] rfl rfl rfl rfl hl.1 dX10_follow_39 (Nat.le_of_ble_eq_true rfl) (Nat.le_of_ble_eq_true rfl) (fun r_15 b1 H locs hw G => ?_)
    refine zAn2 hw ?_
    intro hbs9 h_14
    clear hw
    subst hbs9
    have G : zS T A s.heap s [wt4, w2_3, z] _ _ := G
    subst h_14
    refine zEx2 ht4 ?_
    intro a1_16 a2_17 hbs9
    clear ht4
    subst hbs9
    have G : zS T A s.heap s [[zO9 h po a1_16 a2_17 v0 v1 v2 v3 v4], [zAr T 0 a1_16 7 x1], [zAr T 0 a2_17 7 x2], w2_3, z] _ _ := G.re rfl
    refine z_put C G clX10 0 rfl 3 (by decide) m_fl_RX10_35 rfl rfl rfl (Nat.le_of_ble_eq_true rfl) dX10_follow_42 (fun H locs G => ?_)
    have G : zS T A s.heap s [[zO9 h po a1_16 a2_17 (zSeen cr inn k1 k2 (1 <<< (x &&& 31)) 7) v1 v2 v3 v4], [zAr T 0 a1_16 7 x1], [zAr T 0 a2_17 7 x2], w2_3, z] _ _ := G
    refine lv_aload_n hx hb dX10_follow_45 rfl (lv_at hl 1 rfl) ?_
    refine lv_iconst (v := 0) hx hb dX10_follow_46 (by decide) ?_
    refine z_put C G clX10 0 rfl 4 (by decide) m_fl_RX10_38 rfl rfl rfl (Nat.le_of_ble_eq_true rfl) dX10_follow_47 (fun H locs G => ?_)
    have G : zS T A s.heap s [[zO9 h po a1_16 a2_17 (zSeen cr inn k1 k2 (1 <<< (x &&& 31)) 7) 0 v2 v3 v4], [zAr T 0 a1_16 7 x1], [zAr T 0 a2_17 7 x2], w2_3, z] _ _ := G
    refine lv_aload_n hx hb dX10_follow_50 rfl (lv_at hl 1 rfl) ?_
    refine lv_iconst (v := (-1)) hx hb dX10_follow_51 (by decide) ?_
    refine z_put C G clX10 0 rfl 7 (by decide) m_fl_RX10_41 rfl rfl rfl (Nat.le_of_ble_eq_true rfl) dX10_follow_52 (fun H locs G => ?_)
    have G : zS T A s.heap s [[zO9 h po a1_16 a2_17 (zSeen cr inn k1 k2 (1 <<< (x &&& 31)) 7) 0 v2 v3 (-1)], [zAr T 0 a1_16 7 x1], [zAr T 0 a2_17 7 x2], w2_3, z] _ _ := G
    refine lv_aload_n hx hb dX10_follow_55 rfl (lv_at hl 1 rfl) ?_
    refine lv_iconst (v := (-1)) hx hb dX10_follow_56 (by decide) ?_
    refine z_put C G clX10 0 rfl 6 (by decide) m_fl_RX10_44 rfl rfl rfl (Nat.le_of_ble_eq_true rfl) dX10_follow_57 (fun H locs G => ?_)
    have G : zS T A s.heap s [[zO9 h po a1_16 a2_17 (zSeen cr inn k1 k2 (1 <<< (x &&& 31)) 7) 0 v2 (-1) (-1)], [zAr T 0 a1_16 7 x1], [zAr T 0 a2_17 7 x2], w2_3, z] _ _ := G
    refine lv_aload_n hx hb dX10_follow_60 rfl (lv_at hl 1 rfl) ?_
    refine lv_iload_n hx hb dX10_follow_61 rfl (lv_at hl 3 rfl) ?_
    refine lv_iconst (v := 0) hx hb dX10_follow_62 (by decide) ?_
    have hw_18 : bTrail T h po x1 x2 (zSeen cr inn k1 k2 (1 <<< (x &&& 31)) 7) 0 v2 (-1) (-1) [zO9 h po a1_16 a2_17 (zSeen cr inn k1 k2 (1 <<< (x &&& 31)) 7) 0 v2 (-1) (-1), zAr T 0 a1_16 7 x1, zAr T 0 a2_17 7 x2] := ⟨a1_16, a2_17, rfl⟩
    have G : zS T A s.heap s [[zO9 h po a1_16 a2_17 (zSeen cr inn k1 k2 (1 <<< (x &&& 31)) 7) 0 v2 (-1) (-1), zAr T 0 a1_16 7 x1, zAr T 0 a2_17 7 x2], w2_3, z] _ _ := G.re rfl
    refine z_Vi (bc := [[zO9 h po a1_16 a2_17 (zSeen cr inn k1 k2 (1 <<< (x &&& 31)) 7) 0 v2 (-1) (-1), zAr T 0 a1_16 7 x1, zAr T 0 a2_17 7 x2]]) (br := [w2_3, z]) (As := [.int x, .int 0]) (rest := []) C G (c_arrive l T h po x1 x2 (zSeen cr inn k1 k2 (1 <<< (x &&& 31)) 7) 0 v2 (-1) (-1) ([zO9 h po a1_16 a2_17 (zSeen cr inn k1 k2 (1 <<< (x &&& 31)) 7) 0 v2 (-1) (-1), zAr T 0 a1_16 7 x1, zAr T 0 a2_17 7 x2]) x 0 hw_18) (kV_RX10_47 C.2.2.2.2 (Nat.le_of_ble_eq_true rfl) (Nat.le_of_ble_eq_true rfl)) [0] [0] rfl rfl (ci := 9) (qc := (RX10, TX10, 8)) rfl rfl (List.mem_flatten.mpr ⟨_, List.mem_of_getElem? (i := 0) rfl, (bTrail_mem hw_18).choose_spec⟩) rfl rfl hl.1 dX10_follow_63 (Nat.le_of_ble_eq_true rfl) (Nat.le_of_ble_eq_true rfl) (fun r_23 b1 H locs hw G => ?_)
    refine zEx3 hw ?_
    intro wt2_19 s1_20 u3_21
    refine zCu2 ?_
    intro hbs9 h_22
    clear hw
    subst hbs9
    have G : zS T A s.heap s [w2_3, z, wt2_19] _ _ := G
    refine lv_istore_n (lv' := [(3, .int r_23), (0, .ref h), (1, .ref o), (2, .int x)]) hx hb dX10_follow_66 rfl hl (by decide) (zLvf_h rfl) (fun ls hl => ?_)
    refine lv_iconst (v := 0) hx hb dX10_follow_67 (by decide) ?_
    refine lv_istore (lv' := [(4, .int 0), (3, .int r_23), (0, .ref h), (1, .ref o), (2, .int x)]) hx hb dX10_follow_68 hl (by decide) (zLvf_h rfl) (fun ls hl => ?_)
    refine zEx2 h_22 ?_
    intro a1_24 a2_25 hbs9
    clear h_22
    subst hbs9
    have G : zS T A s.heap s [w2_3, z, [zO9 h po a1_24 a2_25 (zSeen cr inn k1 k2 (1 <<< (x &&& 31)) 7) 0 x u3_21 (-1)], [zAr T 0 a1_24 7 s1_20], [zAr T 0 a2_25 7 x2]] _ _ := G.re rfl
    refine zEx3 h_7 ?_
    intro a1_26 a2_27 a3_28 hbs9
    clear h_7
    subst hbs9
    have G : zS T A s.heap s [[zO6 po o a1_26 a2_27 0 0 a3_28], [zAr T 0 a1_26 7 g1_4], [zAr T 0 a2_27 7 g2_5], [zAr T 0 a3_28 7 g3_6], z, [zO9 h po a1_24 a2_25 (zSeen cr inn k1 k2 (1 <<< (x &&& 31)) 7) 0 x u3_21 (-1)], [zAr T 0 a1_24 7 s1_20], [zAr T 0 a2_25 7 x2]] _ _ := G.re rfl
    have hw_29 : bTrail T h po s1_20 x2 (zSeen cr inn k1 k2 (1 <<< (x &&& 31)) 7) 0 x u3_21 (-1) [zO9 h po a1_24 a2_25 (zSeen cr inn k1 k2 (1 <<< (x &&& 31)) 7) 0 x u3_21 (-1), zAr T 0 a1_24 7 s1_20, zAr T 0 a2_25 7 x2] := ⟨a1_24, a2_25, rfl⟩
    have G : zS T A s.heap s [[zO6 po o a1_26 a2_27 0 0 a3_28], [zAr T 0 a1_26 7 g1_4], [zAr T 0 a2_27 7 g2_5], [zAr T 0 a3_28 7 g3_6], z, [zO9 h po a1_24 a2_25 (zSeen cr inn k1 k2 (1 <<< (x &&& 31)) 7) 0 x u3_21 (-1), zAr T 0 a1_24 7 s1_20, zAr T 0 a2_25 7 x2]] _ _ := G.re rfl
    have hw_30 : bPosts T po o g1_4 g2_5 g3_6 0 0 [zO6 po o a1_26 a2_27 0 0 a3_28, zAr T 0 a1_26 7 g1_4, zAr T 0 a2_27 7 g2_5, zAr T 0 a3_28 7 g3_6] := ⟨a1_26, a2_27, a3_28, rfl⟩
    have G : zS T A s.heap s [[zO6 po o a1_26 a2_27 0 0 a3_28, zAr T 0 a1_26 7 g1_4, zAr T 0 a2_27 7 g2_5, zAr T 0 a3_28 7 g3_6], z, [zO9 h po a1_24 a2_25 (zSeen cr inn k1 k2 (1 <<< (x &&& 31)) 7) 0 x u3_21 (-1), zAr T 0 a1_24 7 s1_20, zAr T 0 a2_25 7 x2]] _ _ := G.re rfl
    refine z_lp12 (T := T) 70 (fun (i : Nat) (sn : Int32) (wt3 : va_W) (x1 : Nat → Int32) (x2 : Nat → Int32) (y0 : Int32) (y1 : Int32) (y2 : Int32) (y3 : Int32) (y4 : Int32) (wp3 : va_W) (xf : Nat → Int32) => [wp3, z, wt3]) (fun (i : Nat) (sn : Int32) (wt3 : va_W) (x1 : Nat → Int32) (x2 : Nat → Int32) (y0 : Int32) (y1 : Int32) (y2 : Int32) (y3 : Int32) (y4 : Int32) (wp3 : va_W) (xf : Nat → Int32) => [(4, .int (nI i)), (3, .int sn), (0, .ref h), (1, .ref o), (2, .int x)]) (fun (i : Nat) (sn : Int32) (wt3 : va_W) (x1 : Nat → Int32) (x2 : Nat → Int32) (y0 : Int32) (y1 : Int32) (y2 : Int32) (y3 : Int32) (y4 : Int32) (wp3 : va_W) (xf : Nat → Int32) => bPosts T po o xf g2_5 g3_6 0 0 wp3 ∧ bTrail T h po x1 x2 y0 y1 y2 y3 y4 wt3 ∧ i ≤ 499 ∧ zP3 xf g3_6) (fun (i : Nat) (sn : Int32) (wt3 : va_W) (x1 : Nat → Int32) (x2 : Nat → Int32) (y0 : Int32) (y1 : Int32) (y2 : Int32) (y3 : Int32) (y4 : Int32) (wp3 : va_W) (xf : Nat → Int32) => 499 - i) ?_ 0 r_23 ([zO9 h po a1_24 a2_25 (zSeen cr inn k1 k2 (1 <<< (x &&& 31)) 7) 0 x u3_21 (-1), zAr T 0 a1_24 7 s1_20, zAr T 0 a2_25 7 x2]) s1_20 x2 (zSeen cr inn k1 k2 (1 <<< (x &&& 31)) 7) 0 x u3_21 (-1) ([zO6 po o a1_26 a2_27 0 0 a3_28, zAr T 0 a1_26 7 g1_4, zAr T 0 a2_27 7 g2_5, zAr T 0 a3_28 7 g3_6]) g1_4 (show bPosts T po o g1_4 g2_5 g3_6 0 0 ([zO6 po o a1_26 a2_27 0 0 a3_28, zAr T 0 a1_26 7 g1_4, zAr T 0 a2_27 7 g2_5, zAr T 0 a3_28 7 g3_6]) ∧ bTrail T h po s1_20 x2 (zSeen cr inn k1 k2 (1 <<< (x &&& 31)) 7) 0 x u3_21 (-1) ([zO9 h po a1_24 a2_25 (zSeen cr inn k1 k2 (1 <<< (x &&& 31)) 7) 0 x u3_21 (-1), zAr T 0 a1_24 7 s1_20, zAr T 0 a2_25 7 x2]) ∧ 0 ≤ 499 ∧ zP3 g1_4 g3_6 from ⟨hw_30, hw_29, by omega, hQ⟩) G (lv_sub hl [0, 1, 2, 3, 4] rfl)
    intro i sn wt3 x1 x2 y0 y1 y2 y3 y4 wp3 xf hI9 ih_70 H locs ls G hl
    replace hI9 : bPosts T po o xf g2_5 g3_6 0 0 wp3 ∧ bTrail T h po x1 x2 y0 y1 y2 y3 y4 wt3 ∧ i ≤ 499 ∧ zP3 xf g3_6 := hI9
    refine zAn4 hI9 ?_
    intro hp3 ht3 hi hQx
    clear hI9
    replace G : zS T A s.heap s [wp3, z, wt3] _ _ := G
    replace hl : lv_has ls 6 [(4, .int (nI i)), (3, .int sn), (0, .ref h), (1, .ref o), (2, .int x)] := hl
    refine lv_iload hx hb dX10_follow_70 (lv_at hl 0 rfl) ?_
    refine lv_sipush (v := 499) hx hb dX10_follow_72 (by decide) ?_
    refine lv_icmp_ge (tgt := 177) hx hb dX10_follow_75 (by decide) (fun c_31 => ?_) (fun c_31 => ?_)
    · have c_31n : 499 ≤ i := (nI_leI (a := 499) (b := i) (by omega) (by omega)).mp c_31
      have G := G.sub (bs' := [wt3, wp3, z]) [2, 0, 1] rfl
      exact z_back hQz_ (z_vret C hr hlocks G (Nat.le_of_ble_eq_true rfl) (Nat.le_of_ble_eq_true rfl) dX10_follow_177 ⟨wt3, x1, x2, y0, y1, y2, y3, y4, wp3, xf, g2_5, g3_6, 0, 0, rfl, ht3, hp3, hQx⟩)
    · have c_31n : ¬ 499 ≤ i := fun q => c_31 ((nI_leI (a := 499) (b := i) (by omega) (by omega)).mpr q)
      refine lv_aload_n hx hb dX10_follow_78 rfl (lv_at hl 2 rfl) ?_
      refine zEx2 ht3 ?_
      intro a1_32 a2_33 hbs9
      clear ht3
      subst hbs9
      have G : zS T A s.heap s [wp3, z, [zO9 h po a1_32 a2_33 y0 y1 y2 y3 y4], [zAr T 0 a1_32 7 x1], [zAr T 0 a2_33 7 x2]] _ _ := G.re rfl
      refine z_get C G clX10 2 rfl 0 (by decide) m_fl_RX10_12 rfl dX10_follow_79 ?_
      refine lv_aload_n hx hb dX10_follow_82 rfl (lv_at hl 2 rfl) ?_
      refine z_get C G clX10 2 rfl 5 (by decide) m_fl_RX10_51 rfl dX10_follow_83 ?_
      refine z_Vi (bc := [wp3, z]) (br := [[zO9 h po a1_32 a2_33 y0 y1 y2 y3 y4], [zAr T 0 a1_32 7 x1], [zAr T 0 a2_33 7 x2]]) (As := [.int y2]) (rest := []) C G (c_step l T po o xf g2_5 g3_6 0 0 wp3 cr inn k1 k2 k3 k4 z y2 hp3 hz hQx) (kV_RX10_54 C.2.2.2.2 (Nat.le_of_ble_eq_true rfl) (Nat.le_of_ble_eq_true rfl)) [0, 1] [0, 0] rfl rfl (ci := 6) (qc := (RX6, TX6, 6)) rfl rfl (List.mem_flatten.mpr ⟨_, List.mem_of_getElem? (i := 0) rfl, (bPosts_mem hp3).choose_spec⟩) rfl rfl hl.1 dX10_follow_86 (Nat.le_of_ble_eq_true rfl) (Nat.le_of_ble_eq_true rfl) (fun r_39 b1 H locs hw G => ?_)
      refine zEx2 hw ?_
      intro w2_34 g1_35
      refine zCu4 ?_
      intro hbs9 h_36 h_37 h_38
      clear hw
      subst hbs9
      have G : zS T A s.heap s [[zO9 h po a1_32 a2_33 y0 y1 y2 y3 y4], [zAr T 0 a1_32 7 x1], [zAr T 0 a2_33 7 x2], w2_34, z] _ _ := G
      subst h_36
      have hQ2 : zP3 g1_35 g3_6 := by rw [h_38]; exact zPost_I hQx _
      refine lv_istore (lv' := [(5, .int (zStep xf g2_5 g3_6 k2 y2)), (4, .int (nI i)), (3, .int sn), (0, .ref h), (1, .ref o), (2, .int x)]) hx hb dX10_follow_89 hl (by decide) (zLvf_h rfl) (fun ls hl => ?_)
      refine lv_iload hx hb dX10_follow_91 (lv_at hl 0 rfl) ?_
      refine lv_iconst (v := (-1)) hx hb dX10_follow_93 (by decide) ?_
      refine lv_icmp_ne (tgt := 98) hx hb dX10_follow_94 (by decide) (fun c_40 => ?_) (fun c_40 => ?_)
      · have c_40n : ¬ (zStep xf g2_5 g3_6 k2 y2).toInt = (-1 : Int) := fun q => c_40 ((fa_eq _ _).mpr q)
        refine lv_aload_n hx hb dX10_follow_98 rfl (lv_at hl 3 rfl) ?_
        refine z_get C G clX10 0 rfl 2 (by decide) m_fl_RX10_22 rfl dX10_follow_99 ?_
        refine lv_aload_n hx hb dX10_follow_102 rfl (lv_at hl 3 rfl) ?_
        refine z_get C G clX10 0 rfl 5 (by decide) m_fl_RX10_51 rfl dX10_follow_103 ?_
        refine lv_dup2_11 hx hb dX10_follow_106 rfl rfl ?_
        refine z_ild C G 2 rfl (vp_in_iff.mpr ⟨(zStep_in hQx (by first | with_reducible assumption | assumption)).1, (zStep_in hQx (by first | with_reducible assumption | assumption)).2.1⟩) dX10_follow_107 ?_
        refine lv_topi (fun v_41 ev_41 => ?_)
        subst ev_41
        refine lv_iconst (v := 1) hx hb dX10_follow_108 (by decide) ?_
        refine lv_aload_n hx hb dX10_follow_109 rfl (lv_at hl 3 rfl) ?_
        refine z_get C G clX10 0 rfl 0 (by decide) m_fl_RX10_12 rfl dX10_follow_110 ?_
        refine zEx3 h_37 ?_
        intro a1_42 a2_43 a3_44 hbs9
        clear h_37
        subst hbs9
        have G : zS T A s.heap s [[zO9 h po a1_32 a2_33 y0 y1 y2 y3 y4], [zAr T 0 a1_32 7 x1], [zAr T 0 a2_33 7 x2], [zO6 po o a1_42 a2_43 0 0 a3_44], [zAr T 0 a1_42 7 g1_35], [zAr T 0 a2_43 7 g2_5], [zAr T 0 a3_44 7 g3_6], z] _ _ := G.re rfl
        refine z_get C G clX6 3 rfl 1 (by decide) m_fl_RX10_58 rfl dX10_follow_113 ?_
        refine lv_aload_n hx hb dX10_follow_116 rfl (lv_at hl 3 rfl) ?_
        refine z_get C G clX10 0 rfl 5 (by decide) m_fl_RX10_51 rfl dX10_follow_117 ?_
        refine z_ild C G 4 rfl (vp_in_iff.mpr ⟨(zStep_in hQx (by first | with_reducible assumption | assumption)).1, (zStep_in hQx (by first | with_reducible assumption | assumption)).2.1⟩) dX10_follow_120 ?_
        refine lv_topi (fun v_45 ev_45 => ?_)
        subst ev_45
        refine lv_ishl hx hb dX10_follow_121 ?_
        refine lv_ior hx hb dX10_follow_122 ?_
        refine z_ist C G 2 rfl (vp_in_iff.mpr ⟨(zStep_in hQx (by first | with_reducible assumption | assumption)).1, (zStep_in hQx (by first | with_reducible assumption | assumption)).2.1⟩) dX10_follow_123 (fun H locs G => ?_)
        have G : zS T A s.heap s [[zO9 h po a1_32 a2_33 y0 y1 y2 y3 y4], [zAr T 0 a1_32 7 x1], [zAr T 0 a2_33 7 (upd x2 y2.toNatClampNeg ((x2 y2.toNatClampNeg) ||| (1 <<< ((g1_35 y2.toNatClampNeg) &&& 31))))], [zO6 po o a1_42 a2_43 0 0 a3_44], [zAr T 0 a1_42 7 g1_35], [zAr T 0 a2_43 7 g2_5], [zAr T 0 a3_44 7 g3_6], z] _ _ := G
        refine lv_aload_n hx hb dX10_follow_124 rfl (lv_at hl 3 rfl) ?_
        refine lv_dup hx hb dX10_follow_125 rfl ?_
        refine z_get C G clX10 0 rfl 4 (by decide) m_fl_RX10_38 rfl dX10_follow_126 ?_
        refine lv_iconst (v := 1) hx hb dX10_follow_129 (by decide) ?_
        refine lv_iadd hx hb dX10_follow_130 ?_
        refine z_put C G clX10 0 rfl 4 (by decide) m_fl_RX10_38 rfl rfl rfl (Nat.le_of_ble_eq_true rfl) dX10_follow_131 (fun H locs G => ?_)
        have G : zS T A s.heap s [[zO9 h po a1_32 a2_33 y0 (y1 + 1) y2 y3 y4], [zAr T 0 a1_32 7 x1], [zAr T 0 a2_33 7 (upd x2 y2.toNatClampNeg ((x2 y2.toNatClampNeg) ||| (1 <<< ((g1_35 y2.toNatClampNeg) &&& 31))))], [zO6 po o a1_42 a2_43 0 0 a3_44], [zAr T 0 a1_42 7 g1_35], [zAr T 0 a2_43 7 g2_5], [zAr T 0 a3_44 7 g3_6], z] _ _ := G
        refine lv_aload_n hx hb dX10_follow_134 rfl (lv_at hl 3 rfl) ?_
        refine lv_iload hx hb dX10_follow_135 (lv_at hl 0 rfl) ?_
        refine lv_iload_n hx hb dX10_follow_137 rfl (lv_at hl 5 rfl) ?_
        refine lv_icmp_ne (tgt := 156) hx hb dX10_follow_138 (by decide) (fun c_46 => ?_) (fun c_46 => ?_)
        · have c_46n : ¬ (zStep xf g2_5 g3_6 k2 y2).toInt = x.toInt := fun q => c_46 ((fa_eq _ _).mpr q)
          refine lv_aload_n hx hb dX10_follow_156 rfl (lv_at hl 3 rfl) ?_
          refine z_get C G clX10 0 rfl 7 (by decide) m_fl_RX10_41 rfl dX10_follow_157 ?_
          refine z_put C G clX10 0 rfl 7 (by decide) m_fl_RX10_41 rfl rfl rfl (Nat.le_of_ble_eq_true rfl) dX10_follow_160 (fun H locs G => ?_)
          have G : zS T A s.heap s [[zO9 h po a1_32 a2_33 y0 (y1 + 1) y2 y3 y4], [zAr T 0 a1_32 7 x1], [zAr T 0 a2_33 7 (upd x2 y2.toNatClampNeg ((x2 y2.toNatClampNeg) ||| (1 <<< ((g1_35 y2.toNatClampNeg) &&& 31))))], [zO6 po o a1_42 a2_43 0 0 a3_44], [zAr T 0 a1_42 7 g1_35], [zAr T 0 a2_43 7 g2_5], [zAr T 0 a3_44 7 g3_6], z] _ _ := G
          refine lv_aload_n hx hb dX10_follow_163 rfl (lv_at hl 3 rfl) ?_
          refine lv_iload hx hb dX10_follow_164 (lv_at hl 0 rfl) ?_
          refine lv_iload_n hx hb dX10_follow_166 rfl (lv_at hl 2 rfl) ?_
          have hw_47 : bTrail T h po x1 (upd x2 y2.toNatClampNeg ((x2 y2.toNatClampNeg) ||| (1 <<< ((g1_35 y2.toNatClampNeg) &&& 31)))) y0 (y1 + 1) y2 y3 y4 [zO9 h po a1_32 a2_33 y0 (y1 + 1) y2 y3 y4, zAr T 0 a1_32 7 x1, zAr T 0 a2_33 7 (upd x2 y2.toNatClampNeg ((x2 y2.toNatClampNeg) ||| (1 <<< ((g1_35 y2.toNatClampNeg) &&& 31))))] := ⟨a1_32, a2_33, rfl⟩
          have G : zS T A s.heap s [[zO9 h po a1_32 a2_33 y0 (y1 + 1) y2 y3 y4, zAr T 0 a1_32 7 x1, zAr T 0 a2_33 7 (upd x2 y2.toNatClampNeg ((x2 y2.toNatClampNeg) ||| (1 <<< ((g1_35 y2.toNatClampNeg) &&& 31))))], [zO6 po o a1_42 a2_43 0 0 a3_44], [zAr T 0 a1_42 7 g1_35], [zAr T 0 a2_43 7 g2_5], [zAr T 0 a3_44 7 g3_6], z] _ _ := G.re rfl
          refine z_Vi (bc := [[zO9 h po a1_32 a2_33 y0 (y1 + 1) y2 y3 y4, zAr T 0 a1_32 7 x1, zAr T 0 a2_33 7 (upd x2 y2.toNatClampNeg ((x2 y2.toNatClampNeg) ||| (1 <<< ((g1_35 y2.toNatClampNeg) &&& 31))))]]) (br := [[zO6 po o a1_42 a2_43 0 0 a3_44], [zAr T 0 a1_42 7 g1_35], [zAr T 0 a2_43 7 g2_5], [zAr T 0 a3_44 7 g3_6], z]) (As := [.int (zStep xf g2_5 g3_6 k2 y2), .int sn]) (rest := []) C G (c_arrive l T h po x1 (upd x2 y2.toNatClampNeg ((x2 y2.toNatClampNeg) ||| (1 <<< ((g1_35 y2.toNatClampNeg) &&& 31)))) y0 (y1 + 1) y2 y3 y4 ([zO9 h po a1_32 a2_33 y0 (y1 + 1) y2 y3 y4, zAr T 0 a1_32 7 x1, zAr T 0 a2_33 7 (upd x2 y2.toNatClampNeg ((x2 y2.toNatClampNeg) ||| (1 <<< ((g1_35 y2.toNatClampNeg) &&& 31))))]) (zStep xf g2_5 g3_6 k2 y2) sn hw_47) (kV_RX10_47 C.2.2.2.2 (Nat.le_of_ble_eq_true rfl) (Nat.le_of_ble_eq_true rfl)) [0] [0] rfl rfl (ci := 9) (qc := (RX10, TX10, 8)) rfl rfl (List.mem_flatten.mpr ⟨_, List.mem_of_getElem? (i := 0) rfl, (bTrail_mem hw_47).choose_spec⟩) rfl rfl hl.1 dX10_follow_167 (Nat.le_of_ble_eq_true rfl) (Nat.le_of_ble_eq_true rfl) (fun r_52 b1 H locs hw G => ?_)
          refine zEx3 hw ?_
          intro wt2_48 s1_49 u3_50
          refine zCu2 ?_
          intro hbs9 h_51
          clear hw
          subst hbs9
          have G : zS T A s.heap s [[zO6 po o a1_42 a2_43 0 0 a3_44], [zAr T 0 a1_42 7 g1_35], [zAr T 0 a2_43 7 g2_5], [zAr T 0 a3_44 7 g3_6], z, wt2_48] _ _ := G
          refine lv_istore_n (lv' := [(3, .int r_52), (5, .int (zStep xf g2_5 g3_6 k2 y2)), (4, .int (nI i)), (0, .ref h), (1, .ref o), (2, .int x)]) hx hb dX10_follow_170 rfl hl (by decide) (zLvf_h rfl) (fun ls hl => ?_)
          refine lv_iinc (v := nI (i + 1)) (lv' := [(4, .int (nI (i + 1))), (3, .int r_52), (5, .int (zStep xf g2_5 g3_6 k2 y2)), (0, .ref h), (1, .ref o), (2, .int x)]) hx hb dX10_follow_171 hl (k := 2) rfl (z_inc i 1) (by decide) (zLvf_h rfl) (fun ls hl => ?_)
          refine lv_goto (tgt := 70) hx hb dX10_follow_174 (by decide) ?_
          have hw_53 : bPosts T po o g1_35 g2_5 g3_6 0 0 [zO6 po o a1_42 a2_43 0 0 a3_44, zAr T 0 a1_42 7 g1_35, zAr T 0 a2_43 7 g2_5, zAr T 0 a3_44 7 g3_6] := ⟨a1_42, a2_43, a3_44, rfl⟩
          have G : zS T A s.heap s [[zO6 po o a1_42 a2_43 0 0 a3_44, zAr T 0 a1_42 7 g1_35, zAr T 0 a2_43 7 g2_5, zAr T 0 a3_44 7 g3_6], z, wt2_48] _ _ := G.re rfl
          exact ih_70 (i + 1) r_52 wt2_48 s1_49 (upd x2 y2.toNatClampNeg ((x2 y2.toNatClampNeg) ||| (1 <<< ((g1_35 y2.toNatClampNeg) &&& 31)))) y0 (y1 + 1) (zStep xf g2_5 g3_6 k2 y2) u3_50 y4 ([zO6 po o a1_42 a2_43 0 0 a3_44, zAr T 0 a1_42 7 g1_35, zAr T 0 a2_43 7 g2_5, zAr T 0 a3_44 7 g3_6]) g1_35 (show bPosts T po o g1_35 g2_5 g3_6 0 0 ([zO6 po o a1_42 a2_43 0 0 a3_44, zAr T 0 a1_42 7 g1_35, zAr T 0 a2_43 7 g2_5, zAr T 0 a3_44 7 g3_6]) ∧ bTrail T h po s1_49 (upd x2 y2.toNatClampNeg ((x2 y2.toNatClampNeg) ||| (1 <<< ((g1_35 y2.toNatClampNeg) &&& 31)))) y0 (y1 + 1) (zStep xf g2_5 g3_6 k2 y2) u3_50 y4 wt2_48 ∧ (i + 1) ≤ 499 ∧ zP3 g1_35 g3_6 from ⟨hw_53, h_51, by omega, hQ2⟩) (show 499 - (i + 1) < 499 - i from by omega) _ _ ls G (lv_sub hl [0, 1, 3, 4, 5] rfl)
        · have c_46n : (zStep xf g2_5 g3_6 k2 y2).toInt = x.toInt := (fa_eq _ _).mp c_46
          refine lv_aload_n hx hb dX10_follow_141 rfl (lv_at hl 3 rfl) ?_
          refine z_get C G clX10 0 rfl 7 (by decide) m_fl_RX10_41 rfl dX10_follow_142 ?_
          refine lv_iconst (v := (-1)) hx hb dX10_follow_145 (by decide) ?_
          refine lv_icmp_ne (tgt := 156) hx hb dX10_follow_146 (by decide) (fun c_54 => ?_) (fun c_54 => ?_)
          · have c_54n : ¬ y4.toInt = (-1 : Int) := fun q => c_54 ((fa_eq _ _).mpr q)
            refine lv_aload_n hx hb dX10_follow_156 rfl (lv_at hl 3 rfl) ?_
            refine z_get C G clX10 0 rfl 7 (by decide) m_fl_RX10_41 rfl dX10_follow_157 ?_
            refine z_put C G clX10 0 rfl 7 (by decide) m_fl_RX10_41 rfl rfl rfl (Nat.le_of_ble_eq_true rfl) dX10_follow_160 (fun H locs G => ?_)
            have G : zS T A s.heap s [[zO9 h po a1_32 a2_33 y0 (y1 + 1) y2 y3 y4], [zAr T 0 a1_32 7 x1], [zAr T 0 a2_33 7 (upd x2 y2.toNatClampNeg ((x2 y2.toNatClampNeg) ||| (1 <<< ((g1_35 y2.toNatClampNeg) &&& 31))))], [zO6 po o a1_42 a2_43 0 0 a3_44], [zAr T 0 a1_42 7 g1_35], [zAr T 0 a2_43 7 g2_5], [zAr T 0 a3_44 7 g3_6], z] _ _ := G
            refine lv_aload_n hx hb dX10_follow_163 rfl (lv_at hl 3 rfl) ?_
            refine lv_iload hx hb dX10_follow_164 (lv_at hl 0 rfl) ?_
            refine lv_iload_n hx hb dX10_follow_166 rfl (lv_at hl 2 rfl) ?_
            have hw_55 : bTrail T h po x1 (upd x2 y2.toNatClampNeg ((x2 y2.toNatClampNeg) ||| (1 <<< ((g1_35 y2.toNatClampNeg) &&& 31)))) y0 (y1 + 1) y2 y3 y4 [zO9 h po a1_32 a2_33 y0 (y1 + 1) y2 y3 y4, zAr T 0 a1_32 7 x1, zAr T 0 a2_33 7 (upd x2 y2.toNatClampNeg ((x2 y2.toNatClampNeg) ||| (1 <<< ((g1_35 y2.toNatClampNeg) &&& 31))))] := ⟨a1_32, a2_33, rfl⟩
            have G : zS T A s.heap s [[zO9 h po a1_32 a2_33 y0 (y1 + 1) y2 y3 y4, zAr T 0 a1_32 7 x1, zAr T 0 a2_33 7 (upd x2 y2.toNatClampNeg ((x2 y2.toNatClampNeg) ||| (1 <<< ((g1_35 y2.toNatClampNeg) &&& 31))))], [zO6 po o a1_42 a2_43 0 0 a3_44], [zAr T 0 a1_42 7 g1_35], [zAr T 0 a2_43 7 g2_5], [zAr T 0 a3_44 7 g3_6], z] _ _ := G.re rfl
            refine z_Vi (bc := [[zO9 h po a1_32 a2_33 y0 (y1 + 1) y2 y3 y4, zAr T 0 a1_32 7 x1, zAr T 0 a2_33 7 (upd x2 y2.toNatClampNeg ((x2 y2.toNatClampNeg) ||| (1 <<< ((g1_35 y2.toNatClampNeg) &&& 31))))]]) (br := [[zO6 po o a1_42 a2_43 0 0 a3_44], [zAr T 0 a1_42 7 g1_35], [zAr T 0 a2_43 7 g2_5], [zAr T 0 a3_44 7 g3_6], z]) (As := [.int (zStep xf g2_5 g3_6 k2 y2), .int sn]) (rest := []) C G (c_arrive l T h po x1 (upd x2 y2.toNatClampNeg ((x2 y2.toNatClampNeg) ||| (1 <<< ((g1_35 y2.toNatClampNeg) &&& 31)))) y0 (y1 + 1) y2 y3 y4 ([zO9 h po a1_32 a2_33 y0 (y1 + 1) y2 y3 y4, zAr T 0 a1_32 7 x1, zAr T 0 a2_33 7 (upd x2 y2.toNatClampNeg ((x2 y2.toNatClampNeg) ||| (1 <<< ((g1_35 y2.toNatClampNeg) &&& 31))))]) (zStep xf g2_5 g3_6 k2 y2) sn hw_55) (kV_RX10_47 C.2.2.2.2 (Nat.le_of_ble_eq_true rfl) (Nat.le_of_ble_eq_true rfl)) [0] [0] rfl rfl (ci := 9) (qc := (RX10, TX10, 8)) rfl rfl (List.mem_flatten.mpr ⟨_, List.mem_of_getElem? (i := 0) rfl, (bTrail_mem hw_55).choose_spec⟩) rfl rfl hl.1 dX10_follow_167 (Nat.le_of_ble_eq_true rfl) (Nat.le_of_ble_eq_true rfl) (fun r_60 b1 H locs hw G => ?_)
            refine zEx3 hw ?_
            intro wt2_56 s1_57 u3_58
            refine zCu2 ?_
            intro hbs9 h_59
            clear hw
            subst hbs9
            have G : zS T A s.heap s [[zO6 po o a1_42 a2_43 0 0 a3_44], [zAr T 0 a1_42 7 g1_35], [zAr T 0 a2_43 7 g2_5], [zAr T 0 a3_44 7 g3_6], z, wt2_56] _ _ := G
            refine lv_istore_n (lv' := [(3, .int r_60), (5, .int (zStep xf g2_5 g3_6 k2 y2)), (4, .int (nI i)), (0, .ref h), (1, .ref o), (2, .int x)]) hx hb dX10_follow_170 rfl hl (by decide) (zLvf_h rfl) (fun ls hl => ?_)
            refine lv_iinc (v := nI (i + 1)) (lv' := [(4, .int (nI (i + 1))), (3, .int r_60), (5, .int (zStep xf g2_5 g3_6 k2 y2)), (0, .ref h), (1, .ref o), (2, .int x)]) hx hb dX10_follow_171 hl (k := 2) rfl (z_inc i 1) (by decide) (zLvf_h rfl) (fun ls hl => ?_)
            refine lv_goto (tgt := 70) hx hb dX10_follow_174 (by decide) ?_
            have hw_61 : bPosts T po o g1_35 g2_5 g3_6 0 0 [zO6 po o a1_42 a2_43 0 0 a3_44, zAr T 0 a1_42 7 g1_35, zAr T 0 a2_43 7 g2_5, zAr T 0 a3_44 7 g3_6] := ⟨a1_42, a2_43, a3_44, rfl⟩
            have G : zS T A s.heap s [[zO6 po o a1_42 a2_43 0 0 a3_44, zAr T 0 a1_42 7 g1_35, zAr T 0 a2_43 7 g2_5, zAr T 0 a3_44 7 g3_6], z, wt2_56] _ _ := G.re rfl
            exact ih_70 (i + 1) r_60 wt2_56 s1_57 (upd x2 y2.toNatClampNeg ((x2 y2.toNatClampNeg) ||| (1 <<< ((g1_35 y2.toNatClampNeg) &&& 31)))) y0 (y1 + 1) (zStep xf g2_5 g3_6 k2 y2) u3_58 y4 ([zO6 po o a1_42 a2_43 0 0 a3_44, zAr T 0 a1_42 7 g1_35, zAr T 0 a2_43 7 g2_5, zAr T 0 a3_44 7 g3_6]) g1_35 (show bPosts T po o g1_35 g2_5 g3_6 0 0 ([zO6 po o a1_42 a2_43 0 0 a3_44, zAr T 0 a1_42 7 g1_35, zAr T 0 a2_43 7 g2_5, zAr T 0 a3_44 7 g3_6]) ∧ bTrail T h po s1_57 (upd x2 y2.toNatClampNeg ((x2 y2.toNatClampNeg) ||| (1 <<< ((g1_35 y2.toNatClampNeg) &&& 31)))) y0 (y1 + 1) (zStep xf g2_5 g3_6 k2 y2) u3_58 y4 wt2_56 ∧ (i + 1) ≤ 499 ∧ zP3 g1_35 g3_6 from ⟨hw_61, h_59, by omega, hQ2⟩) (show 499 - (i + 1) < 499 - i from by omega) _ _ ls G (lv_sub hl [0, 1, 3, 4, 5] rfl)
          · have c_54n : y4.toInt = (-1 : Int) := (fa_eq _ _).mp c_54
            refine lv_aload_n hx hb dX10_follow_149 rfl (lv_at hl 3 rfl) ?_
            refine z_get C G clX10 0 rfl 4 (by decide) m_fl_RX10_38 rfl dX10_follow_150 ?_
            refine lv_goto (tgt := 160) hx hb dX10_follow_153 (by decide) ?_
            refine z_put C G clX10 0 rfl 7 (by decide) m_fl_RX10_41 rfl rfl rfl (Nat.le_of_ble_eq_true rfl) dX10_follow_160 (fun H locs G => ?_)
            have G : zS T A s.heap s [[zO9 h po a1_32 a2_33 y0 (y1 + 1) y2 y3 (y1 + 1)], [zAr T 0 a1_32 7 x1], [zAr T 0 a2_33 7 (upd x2 y2.toNatClampNeg ((x2 y2.toNatClampNeg) ||| (1 <<< ((g1_35 y2.toNatClampNeg) &&& 31))))], [zO6 po o a1_42 a2_43 0 0 a3_44], [zAr T 0 a1_42 7 g1_35], [zAr T 0 a2_43 7 g2_5], [zAr T 0 a3_44 7 g3_6], z] _ _ := G
            refine lv_aload_n hx hb dX10_follow_163 rfl (lv_at hl 3 rfl) ?_
            refine lv_iload hx hb dX10_follow_164 (lv_at hl 0 rfl) ?_
            refine lv_iload_n hx hb dX10_follow_166 rfl (lv_at hl 2 rfl) ?_
            have hw_62 : bTrail T h po x1 (upd x2 y2.toNatClampNeg ((x2 y2.toNatClampNeg) ||| (1 <<< ((g1_35 y2.toNatClampNeg) &&& 31)))) y0 (y1 + 1) y2 y3 (y1 + 1) [zO9 h po a1_32 a2_33 y0 (y1 + 1) y2 y3 (y1 + 1), zAr T 0 a1_32 7 x1, zAr T 0 a2_33 7 (upd x2 y2.toNatClampNeg ((x2 y2.toNatClampNeg) ||| (1 <<< ((g1_35 y2.toNatClampNeg) &&& 31))))] := ⟨a1_32, a2_33, rfl⟩
            have G : zS T A s.heap s [[zO9 h po a1_32 a2_33 y0 (y1 + 1) y2 y3 (y1 + 1), zAr T 0 a1_32 7 x1, zAr T 0 a2_33 7 (upd x2 y2.toNatClampNeg ((x2 y2.toNatClampNeg) ||| (1 <<< ((g1_35 y2.toNatClampNeg) &&& 31))))], [zO6 po o a1_42 a2_43 0 0 a3_44], [zAr T 0 a1_42 7 g1_35], [zAr T 0 a2_43 7 g2_5], [zAr T 0 a3_44 7 g3_6], z] _ _ := G.re rfl
            refine z_Vi (bc := [[zO9 h po a1_32 a2_33 y0 (y1 + 1) y2 y3 (y1 + 1), zAr T 0 a1_32 7 x1, zAr T 0 a2_33 7 (upd x2 y2.toNatClampNeg ((x2 y2.toNatClampNeg) ||| (1 <<< ((g1_35 y2.toNatClampNeg) &&& 31))))]]) (br := [[zO6 po o a1_42 a2_43 0 0 a3_44], [zAr T 0 a1_42 7 g1_35], [zAr T 0 a2_43 7 g2_5], [zAr T 0 a3_44 7 g3_6], z]) (As := [.int (zStep xf g2_5 g3_6 k2 y2), .int sn]) (rest := []) C G (c_arrive l T h po x1 (upd x2 y2.toNatClampNeg ((x2 y2.toNatClampNeg) ||| (1 <<< ((g1_35 y2.toNatClampNeg) &&& 31)))) y0 (y1 + 1) y2 y3 (y1 + 1) ([zO9 h po a1_32 a2_33 y0 (y1 + 1) y2 y3 (y1 + 1), zAr T 0 a1_32 7 x1, zAr T 0 a2_33 7 (upd x2 y2.toNatClampNeg ((x2 y2.toNatClampNeg) ||| (1 <<< ((g1_35 y2.toNatClampNeg) &&& 31))))]) (zStep xf g2_5 g3_6 k2 y2) sn hw_62) (kV_RX10_47 C.2.2.2.2 (Nat.le_of_ble_eq_true rfl) (Nat.le_of_ble_eq_true rfl)) [0] [0] rfl rfl (ci := 9) (qc := (RX10, TX10, 8)) rfl rfl (List.mem_flatten.mpr ⟨_, List.mem_of_getElem? (i := 0) rfl, (bTrail_mem hw_62).choose_spec⟩) rfl rfl hl.1 dX10_follow_167 (Nat.le_of_ble_eq_true rfl) (Nat.le_of_ble_eq_true rfl) (fun r_67 b1 H locs hw G => ?_)
            refine zEx3 hw ?_
            intro wt2_63 s1_64 u3_65
            refine zCu2 ?_
            intro hbs9 h_66
            clear hw
            subst hbs9
            have G : zS T A s.heap s [[zO6 po o a1_42 a2_43 0 0 a3_44], [zAr T 0 a1_42 7 g1_35], [zAr T 0 a2_43 7 g2_5], [zAr T 0 a3_44 7 g3_6], z, wt2_63] _ _ := G
            refine lv_istore_n (lv' := [(3, .int r_67), (5, .int (zStep xf g2_5 g3_6 k2 y2)), (4, .int (nI i)), (0, .ref h), (1, .ref o), (2, .int x)]) hx hb dX10_follow_170 rfl hl (by decide) (zLvf_h rfl) (fun ls hl => ?_)
            refine lv_iinc (v := nI (i + 1)) (lv' := [(4, .int (nI (i + 1))), (3, .int r_67), (5, .int (zStep xf g2_5 g3_6 k2 y2)), (0, .ref h), (1, .ref o), (2, .int x)]) hx hb dX10_follow_171 hl (k := 2) rfl (z_inc i 1) (by decide) (zLvf_h rfl) (fun ls hl => ?_)
            refine lv_goto (tgt := 70) hx hb dX10_follow_174 (by decide) ?_
            have hw_68 : bPosts T po o g1_35 g2_5 g3_6 0 0 [zO6 po o a1_42 a2_43 0 0 a3_44, zAr T 0 a1_42 7 g1_35, zAr T 0 a2_43 7 g2_5, zAr T 0 a3_44 7 g3_6] := ⟨a1_42, a2_43, a3_44, rfl⟩
            have G : zS T A s.heap s [[zO6 po o a1_42 a2_43 0 0 a3_44, zAr T 0 a1_42 7 g1_35, zAr T 0 a2_43 7 g2_5, zAr T 0 a3_44 7 g3_6], z, wt2_63] _ _ := G.re rfl
            exact ih_70 (i + 1) r_67 wt2_63 s1_64 (upd x2 y2.toNatClampNeg ((x2 y2.toNatClampNeg) ||| (1 <<< ((g1_35 y2.toNatClampNeg) &&& 31)))) y0 (y1 + 1) (zStep xf g2_5 g3_6 k2 y2) u3_65 (y1 + 1) ([zO6 po o a1_42 a2_43 0 0 a3_44, zAr T 0 a1_42 7 g1_35, zAr T 0 a2_43 7 g2_5, zAr T 0 a3_44 7 g3_6]) g1_35 (show bPosts T po o g1_35 g2_5 g3_6 0 0 ([zO6 po o a1_42 a2_43 0 0 a3_44, zAr T 0 a1_42 7 g1_35, zAr T 0 a2_43 7 g2_5, zAr T 0 a3_44 7 g3_6]) ∧ bTrail T h po s1_64 (upd x2 y2.toNatClampNeg ((x2 y2.toNatClampNeg) ||| (1 <<< ((g1_35 y2.toNatClampNeg) &&& 31)))) y0 (y1 + 1) (zStep xf g2_5 g3_6 k2 y2) u3_65 (y1 + 1) wt2_63 ∧ (i + 1) ≤ 499 ∧ zP3 g1_35 g3_6 from ⟨hw_68, h_66, by omega, hQ2⟩) (show 499 - (i + 1) < 499 - i from by omega) _ _ ls G (lv_sub hl [0, 1, 3, 4, 5] rfl)
      · have c_40n : (zStep xf g2_5 g3_6 k2 y2).toInt = (-1 : Int) := (fa_eq _ _).mp c_40
        have hw_69 : bTrail T h po x1 x2 y0 y1 y2 y3 y4 [zO9 h po a1_32 a2_33 y0 y1 y2 y3 y4, zAr T 0 a1_32 7 x1, zAr T 0 a2_33 7 x2] := ⟨a1_32, a2_33, rfl⟩
        have G : zS T A s.heap s [[zO9 h po a1_32 a2_33 y0 y1 y2 y3 y4, zAr T 0 a1_32 7 x1, zAr T 0 a2_33 7 x2], w2_34, z] _ _ := G.re rfl
        exact z_back hQz_ (z_vret C hr hlocks G (Nat.le_of_ble_eq_true rfl) (Nat.le_of_ble_eq_true rfl) dX10_follow_97 ⟨([zO9 h po a1_32 a2_33 y0 y1 y2 y3 y4, zAr T 0 a1_32 7 x1, zAr T 0 a2_33 7 x2]), x1, x2, y0, y1, y2, y3, y4, w2_34, g1_35, g2_5, g3_6, 0, 0, rfl, hw_69, h_37, hQ2⟩)
  · have c_13n : ¬ 7 ≤ i := fun q => c_13 ((nI_leI (a := 7) (b := i) (by omega) (by omega)).mpr q)
    refine lv_aload_n hx hb dX10_follow_16 rfl (lv_at hl 1 rfl) ?_
    refine zEx2 ht4 ?_
    intro a1_70 a2_71 hbs9
    clear ht4
    subst hbs9
    have G : zS T A s.heap s [[zO9 h po a1_70 a2_71 v0 v1 v2 v3 v4], [zAr T 0 a1_70 7 x1], [zAr T 0 a2_71 7 x2], w2_3, z] _ _ := G.re rfl
    refine z_get C G clX10 0 rfl 1 (by decide) m_fl_RX10_18 rfl dX10_follow_17 ?_
    refine lv_iload_n hx hb dX10_follow_20 rfl (lv_at hl 0 rfl) ?_
    refine lv_iconst (v := 0) hx hb dX10_follow_21 (by decide) ?_
    refine z_ist C G 1 rfl (vp_in_nI (by omega) (by decide)) dX10_follow_22 (fun H locs G => ?_)
    rw [nI_clamp (by omega)] at G
    have G : zS T A s.heap s [[zO9 h po a1_70 a2_71 v0 v1 v2 v3 v4], [zAr T 0 a1_70 7 (upd x1 i 0)], [zAr T 0 a2_71 7 x2], w2_3, z] _ _ := G
    refine lv_aload_n hx hb dX10_follow_23 rfl (lv_at hl 1 rfl) ?_
    refine z_get C G clX10 0 rfl 2 (by decide) m_fl_RX10_22 rfl dX10_follow_24 ?_
    refine lv_iload_n hx hb dX10_follow_27 rfl (lv_at hl 0 rfl) ?_
    refine lv_iconst (v := 0) hx hb dX10_follow_28 (by decide) ?_
    refine z_ist C G 2 rfl (vp_in_nI (by omega) (by decide)) dX10_follow_29 (fun H locs G => ?_)
    rw [nI_clamp (by omega)] at G
    have G : zS T A s.heap s [[zO9 h po a1_70 a2_71 v0 v1 v2 v3 v4], [zAr T 0 a1_70 7 (upd x1 i 0)], [zAr T 0 a2_71 7 (upd x2 i 0)], w2_3, z] _ _ := G
    refine lv_iinc (v := nI (i + 1)) (lv' := [(3, .int (nI (i + 1))), (0, .ref h), (1, .ref o), (2, .int x)]) hx hb dX10_follow_30 hl (k := 0) rfl (z_inc i 1) (by decide) (zLvf_h rfl) (fun ls hl => ?_)
    refine lv_goto (tgt := 10) hx hb dX10_follow_33 (by decide) ?_
    have hw_72 : bTrail T h po (upd x1 i 0) (upd x2 i 0) v0 v1 v2 v3 v4 [zO9 h po a1_70 a2_71 v0 v1 v2 v3 v4, zAr T 0 a1_70 7 (upd x1 i 0), zAr T 0 a2_71 7 (upd x2 i 0)] := ⟨a1_70, a2_71, rfl⟩
    have G : zS T A s.heap s [[zO9 h po a1_70 a2_71 v0 v1 v2 v3 v4, zAr T 0 a1_70 7 (upd x1 i 0), zAr T 0 a2_71 7 (upd x2 i 0)], w2_3, z] _ _ := G.re rfl
    exact ih_10 (i + 1) ([zO9 h po a1_70 a2_71 v0 v1 v2 v3 v4, zAr T 0 a1_70 7 (upd x1 i 0), zAr T 0 a2_71 7 (upd x2 i 0)]) (upd x1 i 0) (upd x2 i 0) (show bTrail T h po (upd x1 i 0) (upd x2 i 0) v0 v1 v2 v3 v4 ([zO9 h po a1_70 a2_71 v0 v1 v2 v3 v4, zAr T 0 a1_70 7 (upd x1 i 0), zAr T 0 a2_71 7 (upd x2 i 0)]) ∧ (i + 1) ≤ 7 from ⟨hw_72, by omega⟩) (show 7 - (i + 1) < 7 - i from by omega) _ _ ls G (lv_sub hl [0, 1, 2, 3] rfl)
set_option maxHeartbeats 4000000 in
set_option maxRecDepth 100000 in
/-- unused -/
theorem c_unused (l : Launch) (T : zTy) (h : Nat) (po : Nat) (t1 : Nat → Int32) (t2 : Nat → Int32) (v0 : Int32) (v1 : Int32) (v2 : Int32) (v3 : Int32) (v4 : Int32) (wt : va_W) (la : Nat) (f1 : Nat → Int32) (f2 : Nat → Int32) (f3 : Nat → Int32) (st : Int32) (wh : Int32) (wp : va_W) (cr : Int32) (inn : Int32) (k1 : Nat → Int32) (k2 : Nat → Int32) (k3 : Nat → Int32) (k4 : Nat → Int32) (z : va_W) (ht : bTrail T h po t1 t2 v0 v1 v2 v3 v4 wt) (hp : bPosts T po la f1 f2 f3 st wh wp) (hz : bLand T la cr inn k1 k2 k3 k4 z) (hI : zLI cr k1 k3) : zMi l T yX10_unused cX10_unused 3 (some .int) 3 0 0 [.ref h] [wt, wp, z] (fun (r : Int32) bs => bs = [wt, wp, z]) := by
  refine zMi_of (own := RX10) (by decide) rfl (Nat.le_of_ble_eq_true rfl) ?_
  intro p e s m args below meth c A ls C hr hlocks hnm hAe G hl
  refine zHide (fun Qz_ hQz_ => ?_)
  have hx := C.1
  have hb := C.2.1
  have hl : lv_has ls 3 [(0, .ref h)] := hl
  have hcr := hI.1
  refine lv_iconst (v := 0) hx hb dX10_unused_0 (by decide) ?_
  refine lv_istore_n (lv' := [(1, .int 0), (0, .ref h)]) hx hb dX10_unused_1 rfl hl (by decide) (zLvf_h rfl) (fun ls hl => ?_)
  refine lv_iconst (v := 0) hx hb dX10_unused_2 (by decide) ?_
  refine lv_istore_n (lv' := [(2, .int 0), (1, .int 0), (0, .ref h)]) hx hb dX10_unused_3 rfl hl (by decide) (zLvf_h rfl) (fun ls hl => ?_)
  refine zEx2 ht ?_
  intro a1_1 a2_2 hbs9
  clear ht
  subst hbs9
  have G : zS T A s.heap s [[zO9 h po a1_1 a2_2 v0 v1 v2 v3 v4], [zAr T 0 a1_1 7 t1], [zAr T 0 a2_2 7 t2], wp, z] _ _ := G.re rfl
  refine zEx3 hp ?_
  intro a1_3 a2_4 a3_5 hbs9
  clear hp
  subst hbs9
  have G : zS T A s.heap s [[zO9 h po a1_1 a2_2 v0 v1 v2 v3 v4], [zAr T 0 a1_1 7 t1], [zAr T 0 a2_2 7 t2], [zO6 po la a1_3 a2_4 st wh a3_5], [zAr T 0 a1_3 7 f1], [zAr T 0 a2_4 7 f2], [zAr T 0 a3_5 7 f3], z] _ _ := G.re rfl
  refine zEx4 hz ?_
  intro a1_6 a2_7 a3_8 a4_9 hbs9
  clear hz
  subst hbs9
  have G : zS T A s.heap s [[zO9 h po a1_1 a2_2 v0 v1 v2 v3 v4], [zAr T 0 a1_1 7 t1], [zAr T 0 a2_2 7 t2], [zO6 po la a1_3 a2_4 st wh a3_5], [zAr T 0 a1_3 7 f1], [zAr T 0 a2_4 7 f2], [zAr T 0 a3_5 7 f3], [zO4 la cr inn a1_6 a2_7 a3_8 a4_9], [zAr T 0 a1_6 7 k1], [zAr T 0 a2_7 28 k2], [zAr T 0 a3_8 7 k3], [zAr T 0 a4_9 7 k4]] _ _ := G.re rfl
  have hw_10 : bTrail T h po t1 t2 v0 v1 v2 v3 v4 [zO9 h po a1_1 a2_2 v0 v1 v2 v3 v4, zAr T 0 a1_1 7 t1, zAr T 0 a2_2 7 t2] := ⟨a1_1, a2_2, rfl⟩
  have G : zS T A s.heap s [[zO9 h po a1_1 a2_2 v0 v1 v2 v3 v4, zAr T 0 a1_1 7 t1, zAr T 0 a2_2 7 t2], [zO6 po la a1_3 a2_4 st wh a3_5], [zAr T 0 a1_3 7 f1], [zAr T 0 a2_4 7 f2], [zAr T 0 a3_5 7 f3], [zO4 la cr inn a1_6 a2_7 a3_8 a4_9], [zAr T 0 a1_6 7 k1], [zAr T 0 a2_7 28 k2], [zAr T 0 a3_8 7 k3], [zAr T 0 a4_9 7 k4]] _ _ := G.re rfl
  have hw_11 : bPosts T po la f1 f2 f3 st wh [zO6 po la a1_3 a2_4 st wh a3_5, zAr T 0 a1_3 7 f1, zAr T 0 a2_4 7 f2, zAr T 0 a3_5 7 f3] := ⟨a1_3, a2_4, a3_5, rfl⟩
  have G : zS T A s.heap s [[zO9 h po a1_1 a2_2 v0 v1 v2 v3 v4, zAr T 0 a1_1 7 t1, zAr T 0 a2_2 7 t2], [zO6 po la a1_3 a2_4 st wh a3_5, zAr T 0 a1_3 7 f1, zAr T 0 a2_4 7 f2, zAr T 0 a3_5 7 f3], [zO4 la cr inn a1_6 a2_7 a3_8 a4_9], [zAr T 0 a1_6 7 k1], [zAr T 0 a2_7 28 k2], [zAr T 0 a3_8 7 k3], [zAr T 0 a4_9 7 k4]] _ _ := G.re rfl
  have hw_12 : bLand T la cr inn k1 k2 k3 k4 [zO4 la cr inn a1_6 a2_7 a3_8 a4_9, zAr T 0 a1_6 7 k1, zAr T 0 a2_7 28 k2, zAr T 0 a3_8 7 k3, zAr T 0 a4_9 7 k4] := ⟨a1_6, a2_7, a3_8, a4_9, rfl⟩
  have G : zS T A s.heap s [[zO9 h po a1_1 a2_2 v0 v1 v2 v3 v4, zAr T 0 a1_1 7 t1, zAr T 0 a2_2 7 t2], [zO6 po la a1_3 a2_4 st wh a3_5, zAr T 0 a1_3 7 f1, zAr T 0 a2_4 7 f2, zAr T 0 a3_5 7 f3], [zO4 la cr inn a1_6 a2_7 a3_8 a4_9, zAr T 0 a1_6 7 k1, zAr T 0 a2_7 28 k2, zAr T 0 a3_8 7 k3, zAr T 0 a4_9 7 k4]] _ _ := G.re rfl
  refine z_lp2 (T := T) 4 (fun (i : Nat) (u : Int32) => [[zO9 h po a1_1 a2_2 v0 v1 v2 v3 v4, zAr T 0 a1_1 7 t1, zAr T 0 a2_2 7 t2], [zO6 po la a1_3 a2_4 st wh a3_5, zAr T 0 a1_3 7 f1, zAr T 0 a2_4 7 f2, zAr T 0 a3_5 7 f3], [zO4 la cr inn a1_6 a2_7 a3_8 a4_9, zAr T 0 a1_6 7 k1, zAr T 0 a2_7 28 k2, zAr T 0 a3_8 7 k3, zAr T 0 a4_9 7 k4]]) (fun (i : Nat) (u : Int32) => [(2, .int (nI i)), (1, .int u), (0, .ref h)]) (fun (i : Nat) (u : Int32) => i ≤ cr.toInt.toNat) (fun (i : Nat) (u : Int32) => cr.toInt.toNat - i) ?_ 0 0 (show 0 ≤ cr.toInt.toNat from by omega) G (lv_sub hl [0, 1, 2] rfl)
  intro i u hi ih_4 H locs ls G hl
  replace hi : i ≤ cr.toInt.toNat := hi
  replace G : zS T A s.heap s [[zO9 h po a1_1 a2_2 v0 v1 v2 v3 v4, zAr T 0 a1_1 7 t1, zAr T 0 a2_2 7 t2], [zO6 po la a1_3 a2_4 st wh a3_5, zAr T 0 a1_3 7 f1, zAr T 0 a2_4 7 f2, zAr T 0 a3_5 7 f3], [zO4 la cr inn a1_6 a2_7 a3_8 a4_9, zAr T 0 a1_6 7 k1, zAr T 0 a2_7 28 k2, zAr T 0 a3_8 7 k3, zAr T 0 a4_9 7 k4]] _ _ := G
  replace hl : lv_has ls 3 [(2, .int (nI i)), (1, .int u), (0, .ref h)] := hl
  refine lv_iload_n hx hb dX10_unused_4 rfl (lv_at hl 0 rfl) ?_
  refine lv_aload_n hx hb dX10_unused_5 rfl (lv_at hl 2 rfl) ?_
  have G : zS T A s.heap s [[zO9 h po a1_1 a2_2 v0 v1 v2 v3 v4], [zAr T 0 a1_1 7 t1], [zAr T 0 a2_2 7 t2], [zO6 po la a1_3 a2_4 st wh a3_5, zAr T 0 a1_3 7 f1, zAr T 0 a2_4 7 f2, zAr T 0 a3_5 7 f3], [zO4 la cr inn a1_6 a2_7 a3_8 a4_9, zAr T 0 a1_6 7 k1, zAr T 0 a2_7 28 k2, zAr T 0 a3_8 7 k3, zAr T 0 a4_9 7 k4]] _ _ := G.re rfl
  refine z_get C G clX10 0 rfl 0 (by decide) m_fl_RX10_12 rfl dX10_unused_6 ?_
  have G : zS T A s.heap s [[zO9 h po a1_1 a2_2 v0 v1 v2 v3 v4], [zAr T 0 a1_1 7 t1], [zAr T 0 a2_2 7 t2], [zO6 po la a1_3 a2_4 st wh a3_5], [zAr T 0 a1_3 7 f1], [zAr T 0 a2_4 7 f2], [zAr T 0 a3_5 7 f3], [zO4 la cr inn a1_6 a2_7 a3_8 a4_9, zAr T 0 a1_6 7 k1, zAr T 0 a2_7 28 k2, zAr T 0 a3_8 7 k3, zAr T 0 a4_9 7 k4]] _ _ := G.re rfl
  refine z_get C G clX6 3 rfl 0 (by decide) m_fl_RX10_61 rfl dX10_unused_9 ?_
  have G : zS T A s.heap s [[zO9 h po a1_1 a2_2 v0 v1 v2 v3 v4], [zAr T 0 a1_1 7 t1], [zAr T 0 a2_2 7 t2], [zO6 po la a1_3 a2_4 st wh a3_5], [zAr T 0 a1_3 7 f1], [zAr T 0 a2_4 7 f2], [zAr T 0 a3_5 7 f3], [zO4 la cr inn a1_6 a2_7 a3_8 a4_9], [zAr T 0 a1_6 7 k1], [zAr T 0 a2_7 28 k2], [zAr T 0 a3_8 7 k3], [zAr T 0 a4_9 7 k4]] _ _ := G.re rfl
  refine z_get C G clX4 7 rfl 0 (by decide) m_fl_RX10_65 rfl dX10_unused_12 ?_
  refine lv_icmp_ge (tgt := 59) hx hb dX10_unused_15 (by decide) (fun c_13 => ?_) (fun c_13 => ?_)
  · have c_13n : cr.toInt ≤ (i : Int) := by have q := (fa_le _ _).mp c_13; rw [nI_toInt (n := i) (by omega)] at q; exact q
    refine lv_iload_n hx hb dX10_unused_59 rfl (lv_at hl 1 rfl) ?_
    have hw_14 : bTrail T h po t1 t2 v0 v1 v2 v3 v4 [zO9 h po a1_1 a2_2 v0 v1 v2 v3 v4, zAr T 0 a1_1 7 t1, zAr T 0 a2_2 7 t2] := ⟨a1_1, a2_2, rfl⟩
    have G : zS T A s.heap s [[zO9 h po a1_1 a2_2 v0 v1 v2 v3 v4, zAr T 0 a1_1 7 t1, zAr T 0 a2_2 7 t2], [zO6 po la a1_3 a2_4 st wh a3_5], [zAr T 0 a1_3 7 f1], [zAr T 0 a2_4 7 f2], [zAr T 0 a3_5 7 f3], [zO4 la cr inn a1_6 a2_7 a3_8 a4_9], [zAr T 0 a1_6 7 k1], [zAr T 0 a2_7 28 k2], [zAr T 0 a3_8 7 k3], [zAr T 0 a4_9 7 k4]] _ _ := G.re rfl
    have hw_15 : bPosts T po la f1 f2 f3 st wh [zO6 po la a1_3 a2_4 st wh a3_5, zAr T 0 a1_3 7 f1, zAr T 0 a2_4 7 f2, zAr T 0 a3_5 7 f3] := ⟨a1_3, a2_4, a3_5, rfl⟩
    have G : zS T A s.heap s [[zO9 h po a1_1 a2_2 v0 v1 v2 v3 v4, zAr T 0 a1_1 7 t1, zAr T 0 a2_2 7 t2], [zO6 po la a1_3 a2_4 st wh a3_5, zAr T 0 a1_3 7 f1, zAr T 0 a2_4 7 f2, zAr T 0 a3_5 7 f3], [zO4 la cr inn a1_6 a2_7 a3_8 a4_9], [zAr T 0 a1_6 7 k1], [zAr T 0 a2_7 28 k2], [zAr T 0 a3_8 7 k3], [zAr T 0 a4_9 7 k4]] _ _ := G.re rfl
    have hw_16 : bLand T la cr inn k1 k2 k3 k4 [zO4 la cr inn a1_6 a2_7 a3_8 a4_9, zAr T 0 a1_6 7 k1, zAr T 0 a2_7 28 k2, zAr T 0 a3_8 7 k3, zAr T 0 a4_9 7 k4] := ⟨a1_6, a2_7, a3_8, a4_9, rfl⟩
    have G : zS T A s.heap s [[zO9 h po a1_1 a2_2 v0 v1 v2 v3 v4, zAr T 0 a1_1 7 t1, zAr T 0 a2_2 7 t2], [zO6 po la a1_3 a2_4 st wh a3_5, zAr T 0 a1_3 7 f1, zAr T 0 a2_4 7 f2, zAr T 0 a3_5 7 f3], [zO4 la cr inn a1_6 a2_7 a3_8 a4_9, zAr T 0 a1_6 7 k1, zAr T 0 a2_7 28 k2, zAr T 0 a3_8 7 k3, zAr T 0 a4_9 7 k4]] _ _ := G.re rfl
    exact z_back hQz_ (z_iret C hr hlocks G (Nat.le_of_ble_eq_true rfl) (Nat.le_of_ble_eq_true rfl) dX10_unused_60 rfl)
  · have c_13n : ¬ cr.toInt ≤ (i : Int) := fun q => c_13 ((fa_le _ _).mpr (by rw [nI_toInt (n := i) (by omega)]; exact q))
    refine lv_aload_n hx hb dX10_unused_18 rfl (lv_at hl 2 rfl) ?_
    refine z_get C G clX10 0 rfl 3 (by decide) m_fl_RX10_35 rfl dX10_unused_19 ?_
    refine lv_iload_n hx hb dX10_unused_22 rfl (lv_at hl 0 rfl) ?_
    refine lv_ishr hx hb dX10_unused_23 ?_
    refine lv_iconst (v := 1) hx hb dX10_unused_24 (by decide) ?_
    refine lv_iand hx hb dX10_unused_25 ?_
    refine lv_if_eq (tgt := 53) hx hb dX10_unused_26 (by decide) (fun c_17 => ?_) (fun c_17 => ?_)
    · have c_17n : ((v0 >>> ((nI i) &&& 31)) &&& 1).toInt = (0 : Int) := (fa_eq _ _).mp c_17
      refine lv_iinc (v := nI (i + 1)) (lv' := [(2, .int (nI (i + 1))), (1, .int u), (0, .ref h)]) hx hb dX10_unused_53 hl (k := 0) rfl (z_inc i 1) (by decide) (zLvf_h rfl) (fun ls hl => ?_)
      refine lv_goto (tgt := 4) hx hb dX10_unused_56 (by decide) ?_
      have hw_18 : bTrail T h po t1 t2 v0 v1 v2 v3 v4 [zO9 h po a1_1 a2_2 v0 v1 v2 v3 v4, zAr T 0 a1_1 7 t1, zAr T 0 a2_2 7 t2] := ⟨a1_1, a2_2, rfl⟩
      have G : zS T A s.heap s [[zO9 h po a1_1 a2_2 v0 v1 v2 v3 v4, zAr T 0 a1_1 7 t1, zAr T 0 a2_2 7 t2], [zO6 po la a1_3 a2_4 st wh a3_5], [zAr T 0 a1_3 7 f1], [zAr T 0 a2_4 7 f2], [zAr T 0 a3_5 7 f3], [zO4 la cr inn a1_6 a2_7 a3_8 a4_9], [zAr T 0 a1_6 7 k1], [zAr T 0 a2_7 28 k2], [zAr T 0 a3_8 7 k3], [zAr T 0 a4_9 7 k4]] _ _ := G.re rfl
      have hw_19 : bPosts T po la f1 f2 f3 st wh [zO6 po la a1_3 a2_4 st wh a3_5, zAr T 0 a1_3 7 f1, zAr T 0 a2_4 7 f2, zAr T 0 a3_5 7 f3] := ⟨a1_3, a2_4, a3_5, rfl⟩
      have G : zS T A s.heap s [[zO9 h po a1_1 a2_2 v0 v1 v2 v3 v4, zAr T 0 a1_1 7 t1, zAr T 0 a2_2 7 t2], [zO6 po la a1_3 a2_4 st wh a3_5, zAr T 0 a1_3 7 f1, zAr T 0 a2_4 7 f2, zAr T 0 a3_5 7 f3], [zO4 la cr inn a1_6 a2_7 a3_8 a4_9], [zAr T 0 a1_6 7 k1], [zAr T 0 a2_7 28 k2], [zAr T 0 a3_8 7 k3], [zAr T 0 a4_9 7 k4]] _ _ := G.re rfl
      have hw_20 : bLand T la cr inn k1 k2 k3 k4 [zO4 la cr inn a1_6 a2_7 a3_8 a4_9, zAr T 0 a1_6 7 k1, zAr T 0 a2_7 28 k2, zAr T 0 a3_8 7 k3, zAr T 0 a4_9 7 k4] := ⟨a1_6, a2_7, a3_8, a4_9, rfl⟩
      have G : zS T A s.heap s [[zO9 h po a1_1 a2_2 v0 v1 v2 v3 v4, zAr T 0 a1_1 7 t1, zAr T 0 a2_2 7 t2], [zO6 po la a1_3 a2_4 st wh a3_5, zAr T 0 a1_3 7 f1, zAr T 0 a2_4 7 f2, zAr T 0 a3_5 7 f3], [zO4 la cr inn a1_6 a2_7 a3_8 a4_9, zAr T 0 a1_6 7 k1, zAr T 0 a2_7 28 k2, zAr T 0 a3_8 7 k3, zAr T 0 a4_9 7 k4]] _ _ := G.re rfl
      exact ih_4 (i + 1) u (show (i + 1) ≤ cr.toInt.toNat from by omega) (show cr.toInt.toNat - (i + 1) < cr.toInt.toNat - i from by omega) _ _ ls G (lv_sub hl [0, 1, 2] rfl)
    · have c_17n : ¬ ((v0 >>> ((nI i) &&& 31)) &&& 1).toInt = (0 : Int) := fun q => c_17 ((fa_eq _ _).mpr q)
      refine lv_iload_n hx hb dX10_unused_29 rfl (lv_at hl 1 rfl) ?_
      refine lv_aload_n hx hb dX10_unused_30 rfl (lv_at hl 2 rfl) ?_
      refine z_get C G clX10 0 rfl 0 (by decide) m_fl_RX10_12 rfl dX10_unused_31 ?_
      refine z_get C G clX6 3 rfl 0 (by decide) m_fl_RX10_61 rfl dX10_unused_34 ?_
      refine lv_iload_n hx hb dX10_unused_37 rfl (lv_at hl 0 rfl) ?_
      have hw_21 : bLand T la cr inn k1 k2 k3 k4 [zO4 la cr inn a1_6 a2_7 a3_8 a4_9, zAr T 0 a1_6 7 k1, zAr T 0 a2_7 28 k2, zAr T 0 a3_8 7 k3, zAr T 0 a4_9 7 k4] := ⟨a1_6, a2_7, a3_8, a4_9, rfl⟩
      have G : zS T A s.heap s [[zO9 h po a1_1 a2_2 v0 v1 v2 v3 v4], [zAr T 0 a1_1 7 t1], [zAr T 0 a2_2 7 t2], [zO6 po la a1_3 a2_4 st wh a3_5], [zAr T 0 a1_3 7 f1], [zAr T 0 a2_4 7 f2], [zAr T 0 a3_5 7 f3], [zO4 la cr inn a1_6 a2_7 a3_8 a4_9, zAr T 0 a1_6 7 k1, zAr T 0 a2_7 28 k2, zAr T 0 a3_8 7 k3, zAr T 0 a4_9 7 k4]] _ _ := G.re rfl
      refine z_Vi (bc := [[zO4 la cr inn a1_6 a2_7 a3_8 a4_9, zAr T 0 a1_6 7 k1, zAr T 0 a2_7 28 k2, zAr T 0 a3_8 7 k3, zAr T 0 a4_9 7 k4]]) (br := [[zO9 h po a1_1 a2_2 v0 v1 v2 v3 v4], [zAr T 0 a1_1 7 t1], [zAr T 0 a2_2 7 t2], [zO6 po la a1_3 a2_4 st wh a3_5], [zAr T 0 a1_3 7 f1], [zAr T 0 a2_4 7 f2], [zAr T 0 a3_5 7 f3]]) (As := [.int (nI i)]) (rest := [.int u]) C G (c_waysOut l T la cr inn k1 k2 k3 k4 ([zO4 la cr inn a1_6 a2_7 a3_8 a4_9, zAr T 0 a1_6 7 k1, zAr T 0 a2_7 28 k2, zAr T 0 a3_8 7 k3, zAr T 0 a4_9 7 k4]) (nI i) hw_21) (kV_RX10_70 C.2.2.2.2 (Nat.le_of_ble_eq_true rfl) (Nat.le_of_ble_eq_true rfl)) [7] [7] rfl rfl (ci := 4) (qc := (RX4, TX4, 6)) rfl rfl (List.mem_flatten.mpr ⟨_, List.mem_of_getElem? (i := 0) rfl, (bLand_mem hw_21).choose_spec⟩) rfl rfl hl.1 dX10_unused_38 (Nat.le_of_ble_eq_true rfl) (Nat.le_of_ble_eq_true rfl) (fun r_23 b1 H locs hw G => ?_)
      refine zAn2 hw ?_
      intro hbs9 h_22
      clear hw
      subst hbs9
      have G : zS T A s.heap s [[zO9 h po a1_1 a2_2 v0 v1 v2 v3 v4], [zAr T 0 a1_1 7 t1], [zAr T 0 a2_2 7 t2], [zO6 po la a1_3 a2_4 st wh a3_5], [zAr T 0 a1_3 7 f1], [zAr T 0 a2_4 7 f2], [zAr T 0 a3_5 7 f3], [zO4 la cr inn a1_6 a2_7 a3_8 a4_9, zAr T 0 a1_6 7 k1, zAr T 0 a2_7 28 k2, zAr T 0 a3_8 7 k3, zAr T 0 a4_9 7 k4]] _ _ := G
      subst h_22
      refine lv_aload_n hx hb dX10_unused_41 rfl (lv_at hl 2 rfl) ?_
      refine z_get C G clX10 0 rfl 2 (by decide) m_fl_RX10_22 rfl dX10_unused_42 ?_
      refine lv_iload_n hx hb dX10_unused_45 rfl (lv_at hl 0 rfl) ?_
      refine z_ild C G 2 rfl (vp_in_nI (by omega) (by decide)) dX10_unused_46 ?_
      refine lv_topi (fun v_24 ev_24 => ?_)
      rw [nI_clamp (by omega)] at ev_24
      subst ev_24
      refine z_Si (bc := []) (br := [[zO9 h po a1_1 a2_2 v0 v1 v2 v3 v4], [zAr T 0 a1_1 7 t1], [zAr T 0 a2_2 7 t2], [zO6 po la a1_3 a2_4 st wh a3_5], [zAr T 0 a1_3 7 f1], [zAr T 0 a2_4 7 f2], [zAr T 0 a3_5 7 f3], [zO4 la cr inn a1_6 a2_7 a3_8 a4_9, zAr T 0 a1_6 7 k1, zAr T 0 a2_7 28 k2, zAr T 0 a3_8 7 k3, zAr T 0 a4_9 7 k4]]) (As := [.int (t2 i)]) (rest := [.int (zWays cr inn k1 (nI i)), .int u]) C G (c_bitCount l T (t2 i)) (kS_RX10_73 C.2.2.2.2 (Nat.le_of_ble_eq_true rfl) (Nat.le_of_ble_eq_true rfl)) [] [] rfl rfl rfl rfl hl.1 dX10_unused_47 (Nat.le_of_ble_eq_true rfl) (Nat.le_of_ble_eq_true rfl) (fun r_25 b1 H locs hw G => ?_)
      obtain rfl := hw
      have G : zS T A s.heap s [[zO9 h po a1_1 a2_2 v0 v1 v2 v3 v4], [zAr T 0 a1_1 7 t1], [zAr T 0 a2_2 7 t2], [zO6 po la a1_3 a2_4 st wh a3_5], [zAr T 0 a1_3 7 f1], [zAr T 0 a2_4 7 f2], [zAr T 0 a3_5 7 f3], [zO4 la cr inn a1_6 a2_7 a3_8 a4_9, zAr T 0 a1_6 7 k1, zAr T 0 a2_7 28 k2, zAr T 0 a3_8 7 k3, zAr T 0 a4_9 7 k4]] _ _ := G
      refine lv_isub hx hb dX10_unused_50 ?_
      refine lv_iadd hx hb dX10_unused_51 ?_
      refine lv_istore_n (lv' := [(1, .int (u + ((zWays cr inn k1 (nI i)) - r_25))), (2, .int (nI i)), (0, .ref h)]) hx hb dX10_unused_52 rfl hl (by decide) (zLvf_h rfl) (fun ls hl => ?_)
      refine lv_iinc (v := nI (i + 1)) (lv' := [(2, .int (nI (i + 1))), (1, .int (u + ((zWays cr inn k1 (nI i)) - r_25))), (0, .ref h)]) hx hb dX10_unused_53 hl (k := 1) rfl (z_inc i 1) (by decide) (zLvf_h rfl) (fun ls hl => ?_)
      refine lv_goto (tgt := 4) hx hb dX10_unused_56 (by decide) ?_
      have hw_26 : bTrail T h po t1 t2 v0 v1 v2 v3 v4 [zO9 h po a1_1 a2_2 v0 v1 v2 v3 v4, zAr T 0 a1_1 7 t1, zAr T 0 a2_2 7 t2] := ⟨a1_1, a2_2, rfl⟩
      have G : zS T A s.heap s [[zO9 h po a1_1 a2_2 v0 v1 v2 v3 v4, zAr T 0 a1_1 7 t1, zAr T 0 a2_2 7 t2], [zO6 po la a1_3 a2_4 st wh a3_5], [zAr T 0 a1_3 7 f1], [zAr T 0 a2_4 7 f2], [zAr T 0 a3_5 7 f3], [zO4 la cr inn a1_6 a2_7 a3_8 a4_9, zAr T 0 a1_6 7 k1, zAr T 0 a2_7 28 k2, zAr T 0 a3_8 7 k3, zAr T 0 a4_9 7 k4]] _ _ := G.re rfl
      have hw_27 : bPosts T po la f1 f2 f3 st wh [zO6 po la a1_3 a2_4 st wh a3_5, zAr T 0 a1_3 7 f1, zAr T 0 a2_4 7 f2, zAr T 0 a3_5 7 f3] := ⟨a1_3, a2_4, a3_5, rfl⟩
      have G : zS T A s.heap s [[zO9 h po a1_1 a2_2 v0 v1 v2 v3 v4, zAr T 0 a1_1 7 t1, zAr T 0 a2_2 7 t2], [zO6 po la a1_3 a2_4 st wh a3_5, zAr T 0 a1_3 7 f1, zAr T 0 a2_4 7 f2, zAr T 0 a3_5 7 f3], [zO4 la cr inn a1_6 a2_7 a3_8 a4_9, zAr T 0 a1_6 7 k1, zAr T 0 a2_7 28 k2, zAr T 0 a3_8 7 k3, zAr T 0 a4_9 7 k4]] _ _ := G.re rfl
      exact ih_4 (i + 1) (u + ((zWays cr inn k1 (nI i)) - r_25)) (show (i + 1) ≤ cr.toInt.toNat from by omega) (show cr.toInt.toNat - (i + 1) < cr.toInt.toNat - i from by omega) _ _ ls G (lv_sub hl [0, 1, 2] rfl)
set_option maxHeartbeats 4000000 in
set_option maxRecDepth 100000 in
/-- round -/
theorem c_round (l : Launch) (T : zTy) (h : Nat) (po : Nat) (t1 : Nat → Int32) (t2 : Nat → Int32) (v0 : Int32) (v1 : Int32) (v2 : Int32) (v3 : Int32) (v4 : Int32) (wt : va_W) (la : Nat) (f1 : Nat → Int32) (f2 : Nat → Int32) (f3 : Nat → Int32) (st : Int32) (wh : Int32) (wp : va_W) (cr : Int32) (inn : Int32) (k1 : Nat → Int32) (k2 : Nat → Int32) (k3 : Nat → Int32) (k4 : Nat → Int32) (z : va_W) (ht : bTrail T h po t1 t2 v0 v1 v2 v3 v4 wt) (hp : bPosts T po la f1 f2 f3 st wh wp) (hz : bLand T la cr inn k1 k2 k3 k4 z) (hI : zLI cr k1 k3) (hP : zP3 f1 f3) : zMi l T yX10_round cX10_round 4 (some .int) 5 0 0 [.ref h] [wt, wp, z] (fun (r : Int32) bs => ∃ (wp2 : va_W) (g1 : Nat → Int32), bs = [wt, wp2, z] ∧ bPosts T po la g1 f2 f3 st wh wp2 ∧ zP3 g1 f3) := by
  refine zMi_of (own := RX10) (by decide) rfl (Nat.le_of_ble_eq_true rfl) ?_
  intro p e s m args below meth c A ls C hr hlocks hnm hAe G hl
  refine zHide (fun Qz_ hQz_ => ?_)
  have hx := C.1
  have hb := C.2.1
  have hl : lv_has ls 4 [(0, .ref h)] := hl
  refine lv_aload_n hx hb dX10_round_0 rfl (lv_at hl 0 rfl) ?_
  refine zEx2 ht ?_
  intro a1_1 a2_2 hbs9
  clear ht
  subst hbs9
  have G : zS T A s.heap s [[zO9 h po a1_1 a2_2 v0 v1 v2 v3 v4], [zAr T 0 a1_1 7 t1], [zAr T 0 a2_2 7 t2], wp, z] _ _ := G.re rfl
  refine z_get C G clX10 0 rfl 4 (by decide) m_fl_RX10_38 rfl dX10_round_1 ?_
  refine lv_sipush (v := 499) hx hb dX10_round_4 (by decide) ?_
  refine lv_icmp_lt (tgt := 27) hx hb dX10_round_7 (by decide) (fun c_3 => ?_) (fun c_3 => ?_)
  · have c_3n : v1.toInt < (499 : Int) := (fa_lt _ _).mp c_3
    refine lv_iconst (v := (-1)) hx hb dX10_round_27 (by decide) ?_
    have hw_4 : bTrail T h po t1 t2 v0 v1 v2 v3 v4 [zO9 h po a1_1 a2_2 v0 v1 v2 v3 v4, zAr T 0 a1_1 7 t1, zAr T 0 a2_2 7 t2] := ⟨a1_1, a2_2, rfl⟩
    have G : zS T A s.heap s [[zO9 h po a1_1 a2_2 v0 v1 v2 v3 v4, zAr T 0 a1_1 7 t1, zAr T 0 a2_2 7 t2], wp, z] _ _ := G.re rfl
    exact z_back hQz_ (z_iret C hr hlocks G (Nat.le_of_ble_eq_true rfl) (Nat.le_of_ble_eq_true rfl) dX10_round_28 ⟨wp, f1, rfl, hp, hP⟩)
  · have c_3n : ¬ v1.toInt < (499 : Int) := fun q => c_3 ((fa_lt _ _).mpr q)
    refine lv_aload_n hx hb dX10_round_10 rfl (lv_at hl 0 rfl) ?_
    refine z_get C G clX10 0 rfl 0 (by decide) m_fl_RX10_12 rfl dX10_round_11 ?_
    refine zEx3 hp ?_
    intro a1_5 a2_6 a3_7 hbs9
    clear hp
    subst hbs9
    have G : zS T A s.heap s [[zO9 h po a1_1 a2_2 v0 v1 v2 v3 v4], [zAr T 0 a1_1 7 t1], [zAr T 0 a2_2 7 t2], [zO6 po la a1_5 a2_6 st wh a3_7], [zAr T 0 a1_5 7 f1], [zAr T 0 a2_6 7 f2], [zAr T 0 a3_7 7 f3], z] _ _ := G.re rfl
    refine z_get C G clX6 3 rfl 0 (by decide) m_fl_RX10_61 rfl dX10_round_14 ?_
    refine lv_aload_n hx hb dX10_round_17 rfl (lv_at hl 0 rfl) ?_
    refine z_get C G clX10 0 rfl 5 (by decide) m_fl_RX10_51 rfl dX10_round_18 ?_
    refine z_Vi (bc := [z]) (br := [[zO9 h po a1_1 a2_2 v0 v1 v2 v3 v4], [zAr T 0 a1_1 7 t1], [zAr T 0 a2_2 7 t2], [zO6 po la a1_5 a2_6 st wh a3_7], [zAr T 0 a1_5 7 f1], [zAr T 0 a2_6 7 f2], [zAr T 0 a3_7 7 f3]]) (As := [.int v2]) (rest := []) C G (c_isInn l T la cr inn k1 k2 k3 k4 z v2 hz) (kV_RX10_78 C.2.2.2.2 (Nat.le_of_ble_eq_true rfl) (Nat.le_of_ble_eq_true rfl)) [7] [7] rfl rfl (ci := 4) (qc := (RX4, TX4, 6)) rfl rfl (List.mem_flatten.mpr ⟨_, List.mem_of_getElem? (i := 0) rfl, (bLand_mem hz).choose_spec⟩) rfl rfl hl.1 dX10_round_21 (Nat.le_of_ble_eq_true rfl) (Nat.le_of_ble_eq_true rfl) (fun r_9 b1 H locs hw G => ?_)
    refine zAn2 hw ?_
    intro hbs9 hc_8
    clear hw
    subst hbs9
    have G : zS T A s.heap s [[zO9 h po a1_1 a2_2 v0 v1 v2 v3 v4], [zAr T 0 a1_1 7 t1], [zAr T 0 a2_2 7 t2], [zO6 po la a1_5 a2_6 st wh a3_7], [zAr T 0 a1_5 7 f1], [zAr T 0 a2_6 7 f2], [zAr T 0 a3_7 7 f3], z] _ _ := G
    rcases hc_8 with ⟨rfl, h_10, h_11, h_12, h_13⟩ | ⟨rfl, h_14⟩
    · have h_10 : 0 ≤ v2.toInt := h_10
      have h_11 : v2.toInt < cr.toInt := h_11
      have h_12 : v2.toInt < 7 := h_12
      have h_13 : ¬ zBit inn v2 = 0 := h_13
      refine lv_if_eq (tgt := 29) hx hb dX10_round_24 (by decide) (fun q => absurd q (by decide)) (fun _ => ?_)
      refine lv_iconst (v := (-1)) hx hb dX10_round_27 (by decide) ?_
      have hw_15 : bTrail T h po t1 t2 v0 v1 v2 v3 v4 [zO9 h po a1_1 a2_2 v0 v1 v2 v3 v4, zAr T 0 a1_1 7 t1, zAr T 0 a2_2 7 t2] := ⟨a1_1, a2_2, rfl⟩
      have G : zS T A s.heap s [[zO9 h po a1_1 a2_2 v0 v1 v2 v3 v4, zAr T 0 a1_1 7 t1, zAr T 0 a2_2 7 t2], [zO6 po la a1_5 a2_6 st wh a3_7], [zAr T 0 a1_5 7 f1], [zAr T 0 a2_6 7 f2], [zAr T 0 a3_7 7 f3], z] _ _ := G.re rfl
      have hw_16 : bPosts T po la f1 f2 f3 st wh [zO6 po la a1_5 a2_6 st wh a3_7, zAr T 0 a1_5 7 f1, zAr T 0 a2_6 7 f2, zAr T 0 a3_7 7 f3] := ⟨a1_5, a2_6, a3_7, rfl⟩
      have G : zS T A s.heap s [[zO9 h po a1_1 a2_2 v0 v1 v2 v3 v4, zAr T 0 a1_1 7 t1, zAr T 0 a2_2 7 t2], [zO6 po la a1_5 a2_6 st wh a3_7, zAr T 0 a1_5 7 f1, zAr T 0 a2_6 7 f2, zAr T 0 a3_7 7 f3], z] _ _ := G.re rfl
      exact z_back hQz_ (z_iret C hr hlocks G (Nat.le_of_ble_eq_true rfl) (Nat.le_of_ble_eq_true rfl) dX10_round_28 ⟨([zO6 po la a1_5 a2_6 st wh a3_7, zAr T 0 a1_5 7 f1, zAr T 0 a2_6 7 f2, zAr T 0 a3_7 7 f3]), f1, rfl, hw_16, hP⟩)
    · have h_14 : (v2.toInt < 0 ∨ cr.toInt ≤ v2.toInt ∨ 7 ≤ v2.toInt ∨ zBit inn v2 = 0) := h_14
      refine lv_if_eq (tgt := 29) hx hb dX10_round_24 (by decide) (fun _ => ?_) (fun q => absurd (by decide) q)
      refine lv_aload_n hx hb dX10_round_29 rfl (lv_at hl 0 rfl) ?_
      refine z_get C G clX10 0 rfl 0 (by decide) m_fl_RX10_12 rfl dX10_round_30 ?_
      have hw_17 : bPosts T po la f1 f2 f3 st wh [zO6 po la a1_5 a2_6 st wh a3_7, zAr T 0 a1_5 7 f1, zAr T 0 a2_6 7 f2, zAr T 0 a3_7 7 f3] := ⟨a1_5, a2_6, a3_7, rfl⟩
      have G : zS T A s.heap s [[zO9 h po a1_1 a2_2 v0 v1 v2 v3 v4], [zAr T 0 a1_1 7 t1], [zAr T 0 a2_2 7 t2], [zO6 po la a1_5 a2_6 st wh a3_7, zAr T 0 a1_5 7 f1, zAr T 0 a2_6 7 f2, zAr T 0 a3_7 7 f3], z] _ _ := G.re rfl
      refine z_Vi (bc := [[zO6 po la a1_5 a2_6 st wh a3_7, zAr T 0 a1_5 7 f1, zAr T 0 a2_6 7 f2, zAr T 0 a3_7 7 f3]]) (br := [[zO9 h po a1_1 a2_2 v0 v1 v2 v3 v4], [zAr T 0 a1_1 7 t1], [zAr T 0 a2_2 7 t2], z]) (As := []) (rest := []) C G (c_code l T po la f1 f2 f3 st wh ([zO6 po la a1_5 a2_6 st wh a3_7, zAr T 0 a1_5 7 f1, zAr T 0 a2_6 7 f2, zAr T 0 a3_7 7 f3]) hw_17) (kV_RX10_82 C.2.2.2.2 (Nat.le_of_ble_eq_true rfl) (Nat.le_of_ble_eq_true rfl)) [3] [3] rfl rfl (ci := 6) (qc := (RX6, TX6, 6)) rfl rfl (List.mem_flatten.mpr ⟨_, List.mem_of_getElem? (i := 0) rfl, (bPosts_mem hw_17).choose_spec⟩) rfl rfl hl.1 dX10_round_33 (Nat.le_of_ble_eq_true rfl) (Nat.le_of_ble_eq_true rfl) (fun r_19 b1 H locs hw G => ?_)
      refine zAn2 hw ?_
      intro hbs9 h_18
      clear hw
      subst hbs9
      have G : zS T A s.heap s [[zO9 h po a1_1 a2_2 v0 v1 v2 v3 v4], [zAr T 0 a1_1 7 t1], [zAr T 0 a2_2 7 t2], z, [zO6 po la a1_5 a2_6 st wh a3_7, zAr T 0 a1_5 7 f1, zAr T 0 a2_6 7 f2, zAr T 0 a3_7 7 f3]] _ _ := G
      subst h_18
      refine lv_istore_n (lv' := [(1, .int (zCode f1 7)), (0, .ref h)]) hx hb dX10_round_36 rfl hl (by decide) (zLvf_h rfl) (fun ls hl => ?_)
      refine lv_aload_n hx hb dX10_round_37 rfl (lv_at hl 1 rfl) ?_
      refine z_get C G clX10 0 rfl 5 (by decide) m_fl_RX10_51 rfl dX10_round_38 ?_
      refine lv_istore_n (lv' := [(2, .int v2), (1, .int (zCode f1 7)), (0, .ref h)]) hx hb dX10_round_41 rfl hl (by decide) (zLvf_h rfl) (fun ls hl => ?_)
      refine lv_iconst (v := 1) hx hb dX10_round_42 (by decide) ?_
      refine lv_istore_n (lv' := [(3, .int 1), (2, .int v2), (1, .int (zCode f1 7)), (0, .ref h)]) hx hb dX10_round_43 rfl hl (by decide) (zLvf_h rfl) (fun ls hl => ?_)
      have G : zS T A s.heap s [[zO9 h po a1_1 a2_2 v0 v1 v2 v3 v4], [zAr T 0 a1_1 7 t1], [zAr T 0 a2_2 7 t2], z, [zO6 po la a1_5 a2_6 st wh a3_7], [zAr T 0 a1_5 7 f1], [zAr T 0 a2_6 7 f2], [zAr T 0 a3_7 7 f3]] _ _ := G.re rfl
      refine zEx4 hz ?_
      intro a1_20 a2_21 a3_22 a4_23 hbs9
      clear hz
      subst hbs9
      have G : zS T A s.heap s [[zO9 h po a1_1 a2_2 v0 v1 v2 v3 v4], [zAr T 0 a1_1 7 t1], [zAr T 0 a2_2 7 t2], [zO4 la cr inn a1_20 a2_21 a3_22 a4_23], [zAr T 0 a1_20 7 k1], [zAr T 0 a2_21 28 k2], [zAr T 0 a3_22 7 k3], [zAr T 0 a4_23 7 k4], [zO6 po la a1_5 a2_6 st wh a3_7], [zAr T 0 a1_5 7 f1], [zAr T 0 a2_6 7 f2], [zAr T 0 a3_7 7 f3]] _ _ := G.re rfl
      have hw_24 : bTrail T h po t1 t2 v0 v1 v2 v3 v4 [zO9 h po a1_1 a2_2 v0 v1 v2 v3 v4, zAr T 0 a1_1 7 t1, zAr T 0 a2_2 7 t2] := ⟨a1_1, a2_2, rfl⟩
      have G : zS T A s.heap s [[zO9 h po a1_1 a2_2 v0 v1 v2 v3 v4, zAr T 0 a1_1 7 t1, zAr T 0 a2_2 7 t2], [zO4 la cr inn a1_20 a2_21 a3_22 a4_23], [zAr T 0 a1_20 7 k1], [zAr T 0 a2_21 28 k2], [zAr T 0 a3_22 7 k3], [zAr T 0 a4_23 7 k4], [zO6 po la a1_5 a2_6 st wh a3_7], [zAr T 0 a1_5 7 f1], [zAr T 0 a2_6 7 f2], [zAr T 0 a3_7 7 f3]] _ _ := G.re rfl
      have hw_25 : bPosts T po la f1 f2 f3 st wh [zO6 po la a1_5 a2_6 st wh a3_7, zAr T 0 a1_5 7 f1, zAr T 0 a2_6 7 f2, zAr T 0 a3_7 7 f3] := ⟨a1_5, a2_6, a3_7, rfl⟩
      have G : zS T A s.heap s [[zO9 h po a1_1 a2_2 v0 v1 v2 v3 v4, zAr T 0 a1_1 7 t1, zAr T 0 a2_2 7 t2], [zO4 la cr inn a1_20 a2_21 a3_22 a4_23], [zAr T 0 a1_20 7 k1], [zAr T 0 a2_21 28 k2], [zAr T 0 a3_22 7 k3], [zAr T 0 a4_23 7 k4], [zO6 po la a1_5 a2_6 st wh a3_7, zAr T 0 a1_5 7 f1, zAr T 0 a2_6 7 f2, zAr T 0 a3_7 7 f3]] _ _ := G.re rfl
      have hw_26 : bLand T la cr inn k1 k2 k3 k4 [zO4 la cr inn a1_20 a2_21 a3_22 a4_23, zAr T 0 a1_20 7 k1, zAr T 0 a2_21 28 k2, zAr T 0 a3_22 7 k3, zAr T 0 a4_23 7 k4] := ⟨a1_20, a2_21, a3_22, a4_23, rfl⟩
      have G : zS T A s.heap s [[zO9 h po a1_1 a2_2 v0 v1 v2 v3 v4, zAr T 0 a1_1 7 t1, zAr T 0 a2_2 7 t2], [zO4 la cr inn a1_20 a2_21 a3_22 a4_23, zAr T 0 a1_20 7 k1, zAr T 0 a2_21 28 k2, zAr T 0 a3_22 7 k3, zAr T 0 a4_23 7 k4], [zO6 po la a1_5 a2_6 st wh a3_7, zAr T 0 a1_5 7 f1, zAr T 0 a2_6 7 f2, zAr T 0 a3_7 7 f3]] _ _ := G.re rfl
      refine z_lp4 (T := T) 44 (fun (i : Nat) (u : Int32) (wp3 : va_W) (xf : Nat → Int32) => [[zO9 h po a1_1 a2_2 v0 v1 v2 v3 v4, zAr T 0 a1_1 7 t1, zAr T 0 a2_2 7 t2], [zO4 la cr inn a1_20 a2_21 a3_22 a4_23, zAr T 0 a1_20 7 k1, zAr T 0 a2_21 28 k2, zAr T 0 a3_22 7 k3, zAr T 0 a4_23 7 k4], wp3]) (fun (i : Nat) (u : Int32) (wp3 : va_W) (xf : Nat → Int32) => [(3, .int (nI i)), (2, .int u), (1, .int (zCode f1 7)), (0, .ref h)]) (fun (i : Nat) (u : Int32) (wp3 : va_W) (xf : Nat → Int32) => bPosts T po la xf f2 f3 st wh wp3 ∧ i ≤ 1000 ∧ zP3 xf f3) (fun (i : Nat) (u : Int32) (wp3 : va_W) (xf : Nat → Int32) => 1000 - i) ?_ 1 v2 ([zO6 po la a1_5 a2_6 st wh a3_7, zAr T 0 a1_5 7 f1, zAr T 0 a2_6 7 f2, zAr T 0 a3_7 7 f3]) f1 (show bPosts T po la f1 f2 f3 st wh ([zO6 po la a1_5 a2_6 st wh a3_7, zAr T 0 a1_5 7 f1, zAr T 0 a2_6 7 f2, zAr T 0 a3_7 7 f3]) ∧ 1 ≤ 1000 ∧ zP3 f1 f3 from ⟨hw_25, by omega, hP⟩) G (lv_sub hl [0, 1, 2, 3] rfl)
      intro i u wp3 xf hI9 ih_44 H locs ls G hl
      replace hI9 : bPosts T po la xf f2 f3 st wh wp3 ∧ i ≤ 1000 ∧ zP3 xf f3 := hI9
      refine zAn3 hI9 ?_
      intro hp3 hi hQx
      clear hI9
      replace G : zS T A s.heap s [[zO9 h po a1_1 a2_2 v0 v1 v2 v3 v4, zAr T 0 a1_1 7 t1, zAr T 0 a2_2 7 t2], [zO4 la cr inn a1_20 a2_21 a3_22 a4_23, zAr T 0 a1_20 7 k1, zAr T 0 a2_21 28 k2, zAr T 0 a3_22 7 k3, zAr T 0 a4_23 7 k4], wp3] _ _ := G
      replace hl : lv_has ls 4 [(3, .int (nI i)), (2, .int u), (1, .int (zCode f1 7)), (0, .ref h)] := hl
      refine lv_iload_n hx hb dX10_round_44 rfl (lv_at hl 0 rfl) ?_
      refine lv_sipush (v := 999) hx hb dX10_round_45 (by decide) ?_
      refine lv_icmp_gt (tgt := 94) hx hb dX10_round_48 (by decide) (fun c_27 => ?_) (fun c_27 => ?_)
      · have c_27n : 999 < i := (nI_ltI (a := 999) (b := i) (by omega) (by omega)).mp c_27
        refine lv_iconst (v := (-1)) hx hb dX10_round_94 (by decide) ?_
        have G := G.sub (bs' := [[zO9 h po a1_1 a2_2 v0 v1 v2 v3 v4, zAr T 0 a1_1 7 t1, zAr T 0 a2_2 7 t2], wp3, [zO4 la cr inn a1_20 a2_21 a3_22 a4_23, zAr T 0 a1_20 7 k1, zAr T 0 a2_21 28 k2, zAr T 0 a3_22 7 k3, zAr T 0 a4_23 7 k4]]) [0, 2, 1] rfl
        exact z_back hQz_ (z_iret C hr hlocks G (Nat.le_of_ble_eq_true rfl) (Nat.le_of_ble_eq_true rfl) dX10_round_95 ⟨wp3, xf, rfl, hp3, hQx⟩)
      · have c_27n : ¬ 999 < i := fun q => c_27 ((nI_ltI (a := 999) (b := i) (by omega) (by omega)).mpr q)
        refine lv_aload_n hx hb dX10_round_51 rfl (lv_at hl 3 rfl) ?_
        have G : zS T A s.heap s [[zO9 h po a1_1 a2_2 v0 v1 v2 v3 v4], [zAr T 0 a1_1 7 t1], [zAr T 0 a2_2 7 t2], [zO4 la cr inn a1_20 a2_21 a3_22 a4_23, zAr T 0 a1_20 7 k1, zAr T 0 a2_21 28 k2, zAr T 0 a3_22 7 k3, zAr T 0 a4_23 7 k4], wp3] _ _ := G.re rfl
        refine z_get C G clX10 0 rfl 0 (by decide) m_fl_RX10_12 rfl dX10_round_52 ?_
        refine lv_iload_n hx hb dX10_round_55 rfl (lv_at hl 1 rfl) ?_
        refine z_Vi (bc := [wp3, [zO4 la cr inn a1_20 a2_21 a3_22 a4_23, zAr T 0 a1_20 7 k1, zAr T 0 a2_21 28 k2, zAr T 0 a3_22 7 k3, zAr T 0 a4_23 7 k4]]) (br := [[zO9 h po a1_1 a2_2 v0 v1 v2 v3 v4], [zAr T 0 a1_1 7 t1], [zAr T 0 a2_2 7 t2]]) (As := [.int u]) (rest := []) C G (c_step l T po la xf f2 f3 st wh wp3 cr inn k1 k2 k3 k4 ([zO4 la cr inn a1_20 a2_21 a3_22 a4_23, zAr T 0 a1_20 7 k1, zAr T 0 a2_21 28 k2, zAr T 0 a3_22 7 k3, zAr T 0 a4_23 7 k4]) u hp3 hw_26 hQx) (kV_RX10_54 C.2.2.2.2 (Nat.le_of_ble_eq_true rfl) (Nat.le_of_ble_eq_true rfl)) [4, 3] [3, 0] rfl rfl (ci := 6) (qc := (RX6, TX6, 6)) rfl rfl (List.mem_flatten.mpr ⟨_, List.mem_of_getElem? (i := 0) rfl, (bPosts_mem hp3).choose_spec⟩) rfl rfl hl.1 dX10_round_56 (Nat.le_of_ble_eq_true rfl) (Nat.le_of_ble_eq_true rfl) (fun r_33 b1 H locs hw G => ?_)
        refine zEx2 hw ?_
        intro w2_28 g1_29
        refine zCu4 ?_
        intro hbs9 h_30 h_31 h_32
        clear hw
        subst hbs9
        have G : zS T A s.heap s [[zO9 h po a1_1 a2_2 v0 v1 v2 v3 v4], [zAr T 0 a1_1 7 t1], [zAr T 0 a2_2 7 t2], w2_28, [zO4 la cr inn a1_20 a2_21 a3_22 a4_23, zAr T 0 a1_20 7 k1, zAr T 0 a2_21 28 k2, zAr T 0 a3_22 7 k3, zAr T 0 a4_23 7 k4]] _ _ := G
        subst h_30
        have hQ2 : zP3 g1_29 f3 := by rw [h_32]; exact zPost_I hQx _
        refine lv_istore_n (lv' := [(2, .int (zStep xf f2 f3 k2 u)), (3, .int (nI i)), (1, .int (zCode f1 7)), (0, .ref h)]) hx hb dX10_round_59 rfl hl (by decide) (zLvf_h rfl) (fun ls hl => ?_)
        refine lv_iload_n hx hb dX10_round_60 rfl (lv_at hl 0 rfl) ?_
        refine lv_iconst (v := (-1)) hx hb dX10_round_61 (by decide) ?_
        refine lv_icmp_ne (tgt := 67) hx hb dX10_round_62 (by decide) (fun c_34 => ?_) (fun c_34 => ?_)
        · have c_34n : ¬ (zStep xf f2 f3 k2 u).toInt = (-1 : Int) := fun q => c_34 ((fa_eq _ _).mpr q)
          refine lv_iload_n hx hb dX10_round_67 rfl (lv_at hl 0 rfl) ?_
          refine lv_aload_n hx hb dX10_round_68 rfl (lv_at hl 3 rfl) ?_
          refine z_get C G clX10 0 rfl 5 (by decide) m_fl_RX10_51 rfl dX10_round_69 ?_
          refine lv_icmp_ne (tgt := 88) hx hb dX10_round_72 (by decide) (fun c_35 => ?_) (fun c_35 => ?_)
          · have c_35n : ¬ (zStep xf f2 f3 k2 u).toInt = v2.toInt := fun q => c_35 ((fa_eq _ _).mpr q)
            refine lv_iinc (v := nI (i + 1)) (lv' := [(3, .int (nI (i + 1))), (2, .int (zStep xf f2 f3 k2 u)), (1, .int (zCode f1 7)), (0, .ref h)]) hx hb dX10_round_88 hl (k := 1) rfl (z_inc i 1) (by decide) (zLvf_h rfl) (fun ls hl => ?_)
            refine lv_goto (tgt := 44) hx hb dX10_round_91 (by decide) ?_
            have hw_36 : bTrail T h po t1 t2 v0 v1 v2 v3 v4 [zO9 h po a1_1 a2_2 v0 v1 v2 v3 v4, zAr T 0 a1_1 7 t1, zAr T 0 a2_2 7 t2] := ⟨a1_1, a2_2, rfl⟩
            have G : zS T A s.heap s [[zO9 h po a1_1 a2_2 v0 v1 v2 v3 v4, zAr T 0 a1_1 7 t1, zAr T 0 a2_2 7 t2], w2_28, [zO4 la cr inn a1_20 a2_21 a3_22 a4_23, zAr T 0 a1_20 7 k1, zAr T 0 a2_21 28 k2, zAr T 0 a3_22 7 k3, zAr T 0 a4_23 7 k4]] _ _ := G.re rfl
            have G := G.sub (bs' := [[zO9 h po a1_1 a2_2 v0 v1 v2 v3 v4, zAr T 0 a1_1 7 t1, zAr T 0 a2_2 7 t2], [zO4 la cr inn a1_20 a2_21 a3_22 a4_23, zAr T 0 a1_20 7 k1, zAr T 0 a2_21 28 k2, zAr T 0 a3_22 7 k3, zAr T 0 a4_23 7 k4], w2_28]) [0, 2, 1] rfl
            exact ih_44 (i + 1) (zStep xf f2 f3 k2 u) w2_28 g1_29 (show bPosts T po la g1_29 f2 f3 st wh w2_28 ∧ (i + 1) ≤ 1000 ∧ zP3 g1_29 f3 from ⟨h_31, by omega, hQ2⟩) (show 1000 - (i + 1) < 1000 - i from by omega) _ _ ls G (lv_sub hl [0, 1, 2, 3] rfl)
          · have c_35n : (zStep xf f2 f3 k2 u).toInt = v2.toInt := (fa_eq _ _).mp c_35
            refine lv_aload_n hx hb dX10_round_75 rfl (lv_at hl 3 rfl) ?_
            refine z_get C G clX10 0 rfl 0 (by decide) m_fl_RX10_12 rfl dX10_round_76 ?_
            refine z_Vi (bc := [w2_28]) (br := [[zO9 h po a1_1 a2_2 v0 v1 v2 v3 v4], [zAr T 0 a1_1 7 t1], [zAr T 0 a2_2 7 t2], [zO4 la cr inn a1_20 a2_21 a3_22 a4_23, zAr T 0 a1_20 7 k1, zAr T 0 a2_21 28 k2, zAr T 0 a3_22 7 k3, zAr T 0 a4_23 7 k4]]) (As := []) (rest := []) C G (c_code l T po la g1_29 f2 f3 st wh w2_28 h_31) (kV_RX10_82 C.2.2.2.2 (Nat.le_of_ble_eq_true rfl) (Nat.le_of_ble_eq_true rfl)) [3] [3] rfl rfl (ci := 6) (qc := (RX6, TX6, 6)) rfl rfl (List.mem_flatten.mpr ⟨_, List.mem_of_getElem? (i := 0) rfl, (bPosts_mem h_31).choose_spec⟩) rfl rfl hl.1 dX10_round_79 (Nat.le_of_ble_eq_true rfl) (Nat.le_of_ble_eq_true rfl) (fun r_38 b1 H locs hw G => ?_)
            refine zAn2 hw ?_
            intro hbs9 h_37
            clear hw
            subst hbs9
            have G : zS T A s.heap s [[zO9 h po a1_1 a2_2 v0 v1 v2 v3 v4], [zAr T 0 a1_1 7 t1], [zAr T 0 a2_2 7 t2], [zO4 la cr inn a1_20 a2_21 a3_22 a4_23, zAr T 0 a1_20 7 k1, zAr T 0 a2_21 28 k2, zAr T 0 a3_22 7 k3, zAr T 0 a4_23 7 k4], w2_28] _ _ := G
            subst h_37
            refine lv_iload_n hx hb dX10_round_82 rfl (lv_at hl 2 rfl) ?_
            refine lv_icmp_ne (tgt := 88) hx hb dX10_round_83 (by decide) (fun c_39 => ?_) (fun c_39 => ?_)
            · have c_39n : ¬ (zCode g1_29 7).toInt = (zCode f1 7).toInt := fun q => c_39 ((fa_eq _ _).mpr q)
              refine lv_iinc (v := nI (i + 1)) (lv' := [(3, .int (nI (i + 1))), (2, .int (zStep xf f2 f3 k2 u)), (1, .int (zCode f1 7)), (0, .ref h)]) hx hb dX10_round_88 hl (k := 1) rfl (z_inc i 1) (by decide) (zLvf_h rfl) (fun ls hl => ?_)
              refine lv_goto (tgt := 44) hx hb dX10_round_91 (by decide) ?_
              have hw_40 : bTrail T h po t1 t2 v0 v1 v2 v3 v4 [zO9 h po a1_1 a2_2 v0 v1 v2 v3 v4, zAr T 0 a1_1 7 t1, zAr T 0 a2_2 7 t2] := ⟨a1_1, a2_2, rfl⟩
              have G : zS T A s.heap s [[zO9 h po a1_1 a2_2 v0 v1 v2 v3 v4, zAr T 0 a1_1 7 t1, zAr T 0 a2_2 7 t2], [zO4 la cr inn a1_20 a2_21 a3_22 a4_23, zAr T 0 a1_20 7 k1, zAr T 0 a2_21 28 k2, zAr T 0 a3_22 7 k3, zAr T 0 a4_23 7 k4], w2_28] _ _ := G.re rfl
              exact ih_44 (i + 1) (zStep xf f2 f3 k2 u) w2_28 g1_29 (show bPosts T po la g1_29 f2 f3 st wh w2_28 ∧ (i + 1) ≤ 1000 ∧ zP3 g1_29 f3 from ⟨h_31, by omega, hQ2⟩) (show 1000 - (i + 1) < 1000 - i from by omega) _ _ ls G (lv_sub hl [0, 1, 2, 3] rfl)
            · have c_39n : (zCode g1_29 7).toInt = (zCode f1 7).toInt := (fa_eq _ _).mp c_39
              refine lv_iload_n hx hb dX10_round_86 rfl (lv_at hl 1 rfl) ?_
              have hw_41 : bTrail T h po t1 t2 v0 v1 v2 v3 v4 [zO9 h po a1_1 a2_2 v0 v1 v2 v3 v4, zAr T 0 a1_1 7 t1, zAr T 0 a2_2 7 t2] := ⟨a1_1, a2_2, rfl⟩
              have G : zS T A s.heap s [[zO9 h po a1_1 a2_2 v0 v1 v2 v3 v4, zAr T 0 a1_1 7 t1, zAr T 0 a2_2 7 t2], [zO4 la cr inn a1_20 a2_21 a3_22 a4_23, zAr T 0 a1_20 7 k1, zAr T 0 a2_21 28 k2, zAr T 0 a3_22 7 k3, zAr T 0 a4_23 7 k4], w2_28] _ _ := G.re rfl
              have G := G.sub (bs' := [[zO9 h po a1_1 a2_2 v0 v1 v2 v3 v4, zAr T 0 a1_1 7 t1, zAr T 0 a2_2 7 t2], w2_28, [zO4 la cr inn a1_20 a2_21 a3_22 a4_23, zAr T 0 a1_20 7 k1, zAr T 0 a2_21 28 k2, zAr T 0 a3_22 7 k3, zAr T 0 a4_23 7 k4]]) [0, 2, 1] rfl
              exact z_back hQz_ (z_iret C hr hlocks G (Nat.le_of_ble_eq_true rfl) (Nat.le_of_ble_eq_true rfl) dX10_round_87 ⟨w2_28, g1_29, rfl, h_31, hQ2⟩)
        · have c_34n : (zStep xf f2 f3 k2 u).toInt = (-1 : Int) := (fa_eq _ _).mp c_34
          refine lv_iconst (v := (-1)) hx hb dX10_round_65 (by decide) ?_
          have hw_42 : bTrail T h po t1 t2 v0 v1 v2 v3 v4 [zO9 h po a1_1 a2_2 v0 v1 v2 v3 v4, zAr T 0 a1_1 7 t1, zAr T 0 a2_2 7 t2] := ⟨a1_1, a2_2, rfl⟩
          have G : zS T A s.heap s [[zO9 h po a1_1 a2_2 v0 v1 v2 v3 v4, zAr T 0 a1_1 7 t1, zAr T 0 a2_2 7 t2], w2_28, [zO4 la cr inn a1_20 a2_21 a3_22 a4_23, zAr T 0 a1_20 7 k1, zAr T 0 a2_21 28 k2, zAr T 0 a3_22 7 k3, zAr T 0 a4_23 7 k4]] _ _ := G.re rfl
          exact z_back hQz_ (z_iret C hr hlocks G (Nat.le_of_ble_eq_true rfl) (Nat.le_of_ble_eq_true rfl) dX10_round_66 ⟨w2_28, g1_29, rfl, h_31, hQ2⟩)
set_option maxHeartbeats 4000000 in
set_option maxRecDepth 100000 in
/-- c_lookAtCrowd -/
theorem c_lookAtCrowd (l : Launch) (T : zTy) (h : Nat) (po : Nat) (la : Nat) (fw : Nat → Int32) (v0 : Int32) (v1 : Int32) (v2 : Int32) (v3 : Int32) (v4 : Int32) (v5 : Int32) (v6 : Int32) (v7 : Int32) (wc : va_W) (cr : Int32) (inn : Int32) (k1 : Nat → Int32) (k2 : Nat → Int32) (k3 : Nat → Int32) (k4 : Nat → Int32) (z : va_W) (hc : bCourse T h po la fw v0 v1 v2 v3 v4 v5 v6 v7 wc) (hz : bLand T la cr inn k1 k2 k3 k4 z) (hI : zLI cr k1 k3) : zMv l T yX1_lookAtCrowd cX1_lookAtCrowd 2 3 0 0 [.ref h] [wc, z] (fun bs => ∃ (wc2 : va_W) (u6 : Int32), bs = [wc2, z] ∧ bCourse T h po la fw v0 v1 v2 v3 v4 v5 u6 v7 wc2) := by
  refine zMv_of (own := RX1) (by decide) rfl (Nat.le_of_ble_eq_true rfl) ?_
  intro p e s m args below meth c A ls C hr hlocks hnm hAe G hl
  refine zHide (fun Qz_ hQz_ => ?_)
  have hx := C.1
  have hb := C.2.1
  have hl : lv_has ls 2 [(0, .ref h)] := hl
  have hcr := hI.1
  refine lv_iconst (v := 0) hx hb dX1_lookAtCrowd_0 (by decide) ?_
  refine lv_istore_n (lv' := [(1, .int 0), (0, .ref h)]) hx hb dX1_lookAtCrowd_1 rfl hl (by decide) (zLvf_h rfl) (fun ls hl => ?_)
  refine zEx1 hc ?_
  intro a1_1 hbs9
  clear hc
  subst hbs9
  have G : zS T A s.heap s [[zO1 h po a1_1 v0 la v1 v2 v3 v4 v5 v6 v7], [zAr T 0 a1_1 7 fw], z] _ _ := G.re rfl
  refine zEx4 hz ?_
  intro a1_2 a2_3 a3_4 a4_5 hbs9
  clear hz
  subst hbs9
  have G : zS T A s.heap s [[zO1 h po a1_1 v0 la v1 v2 v3 v4 v5 v6 v7], [zAr T 0 a1_1 7 fw], [zO4 la cr inn a1_2 a2_3 a3_4 a4_5], [zAr T 0 a1_2 7 k1], [zAr T 0 a2_3 28 k2], [zAr T 0 a3_4 7 k3], [zAr T 0 a4_5 7 k4]] _ _ := G.re rfl
  have hw_6 : bCourse T h po la fw v0 v1 v2 v3 v4 v5 v6 v7 [zO1 h po a1_1 v0 la v1 v2 v3 v4 v5 v6 v7, zAr T 0 a1_1 7 fw] := ⟨a1_1, rfl⟩
  have G : zS T A s.heap s [[zO1 h po a1_1 v0 la v1 v2 v3 v4 v5 v6 v7, zAr T 0 a1_1 7 fw], [zO4 la cr inn a1_2 a2_3 a3_4 a4_5], [zAr T 0 a1_2 7 k1], [zAr T 0 a2_3 28 k2], [zAr T 0 a3_4 7 k3], [zAr T 0 a4_5 7 k4]] _ _ := G.re rfl
  have hw_7 : bLand T la cr inn k1 k2 k3 k4 [zO4 la cr inn a1_2 a2_3 a3_4 a4_5, zAr T 0 a1_2 7 k1, zAr T 0 a2_3 28 k2, zAr T 0 a3_4 7 k3, zAr T 0 a4_5 7 k4] := ⟨a1_2, a2_3, a3_4, a4_5, rfl⟩
  have G : zS T A s.heap s [[zO1 h po a1_1 v0 la v1 v2 v3 v4 v5 v6 v7, zAr T 0 a1_1 7 fw], [zO4 la cr inn a1_2 a2_3 a3_4 a4_5, zAr T 0 a1_2 7 k1, zAr T 0 a2_3 28 k2, zAr T 0 a3_4 7 k3, zAr T 0 a4_5 7 k4]] _ _ := G.re rfl
  refine z_lp3 (T := T) 2 (fun (i : Nat) (wc3 : va_W) (y6 : Int32) => [wc3, [zO4 la cr inn a1_2 a2_3 a3_4 a4_5, zAr T 0 a1_2 7 k1, zAr T 0 a2_3 28 k2, zAr T 0 a3_4 7 k3, zAr T 0 a4_5 7 k4]]) (fun (i : Nat) (wc3 : va_W) (y6 : Int32) => [(1, .int (nI i)), (0, .ref h)]) (fun (i : Nat) (wc3 : va_W) (y6 : Int32) => bCourse T h po la fw v0 v1 v2 v3 v4 v5 y6 v7 wc3 ∧ i ≤ cr.toInt.toNat ∧ i ≤ 7) (fun (i : Nat) (wc3 : va_W) (y6 : Int32) => 7 - i) ?_ 0 ([zO1 h po a1_1 v0 la v1 v2 v3 v4 v5 v6 v7, zAr T 0 a1_1 7 fw]) v6 (show bCourse T h po la fw v0 v1 v2 v3 v4 v5 v6 v7 ([zO1 h po a1_1 v0 la v1 v2 v3 v4 v5 v6 v7, zAr T 0 a1_1 7 fw]) ∧ 0 ≤ cr.toInt.toNat ∧ 0 ≤ 7 from ⟨hw_6, by omega, by omega⟩) G (lv_sub hl [0, 1] rfl)
  intro i wc3 y6 hI9 ih_2 H locs ls G hl
  replace hI9 : bCourse T h po la fw v0 v1 v2 v3 v4 v5 y6 v7 wc3 ∧ i ≤ cr.toInt.toNat ∧ i ≤ 7 := hI9
  refine zAn3 hI9 ?_
  intro hc3 hi hi7
  clear hI9
  replace G : zS T A s.heap s [wc3, [zO4 la cr inn a1_2 a2_3 a3_4 a4_5, zAr T 0 a1_2 7 k1, zAr T 0 a2_3 28 k2, zAr T 0 a3_4 7 k3, zAr T 0 a4_5 7 k4]] _ _ := G
  replace hl : lv_has ls 2 [(1, .int (nI i)), (0, .ref h)] := hl
  refine lv_iload_n hx hb dX1_lookAtCrowd_2 rfl (lv_at hl 0 rfl) ?_
  refine lv_aload_n hx hb dX1_lookAtCrowd_3 rfl (lv_at hl 1 rfl) ?_
  refine zEx1 hc3 ?_
  intro a1_8 hbs9
  clear hc3
  subst hbs9
  have G : zS T A s.heap s [[zO1 h po a1_8 v0 la v1 v2 v3 v4 v5 y6 v7], [zAr T 0 a1_8 7 fw], [zO4 la cr inn a1_2 a2_3 a3_4 a4_5, zAr T 0 a1_2 7 k1, zAr T 0 a2_3 28 k2, zAr T 0 a3_4 7 k3, zAr T 0 a4_5 7 k4]] _ _ := G.re rfl
  refine z_get C G clX1 0 rfl 3 (by decide) m_fl_RX1_25 rfl dX1_lookAtCrowd_4 ?_
  have G : zS T A s.heap s [[zO1 h po a1_8 v0 la v1 v2 v3 v4 v5 y6 v7], [zAr T 0 a1_8 7 fw], [zO4 la cr inn a1_2 a2_3 a3_4 a4_5], [zAr T 0 a1_2 7 k1], [zAr T 0 a2_3 28 k2], [zAr T 0 a3_4 7 k3], [zAr T 0 a4_5 7 k4]] _ _ := G.re rfl
  refine z_get C G clX4 2 rfl 0 (by decide) m_fl_RX1_88 rfl dX1_lookAtCrowd_7 ?_
  refine lv_icmp_ge (tgt := 53) hx hb dX1_lookAtCrowd_10 (by decide) (fun c_9 => ?_) (fun c_9 => ?_)
  · have c_9n : cr.toInt ≤ (i : Int) := by have q := (fa_le _ _).mp c_9; rw [nI_toInt (n := i) (by omega)] at q; exact q
    have hw_10 : bCourse T h po la fw v0 v1 v2 v3 v4 v5 y6 v7 [zO1 h po a1_8 v0 la v1 v2 v3 v4 v5 y6 v7, zAr T 0 a1_8 7 fw] := ⟨a1_8, rfl⟩
    have G : zS T A s.heap s [[zO1 h po a1_8 v0 la v1 v2 v3 v4 v5 y6 v7, zAr T 0 a1_8 7 fw], [zO4 la cr inn a1_2 a2_3 a3_4 a4_5], [zAr T 0 a1_2 7 k1], [zAr T 0 a2_3 28 k2], [zAr T 0 a3_4 7 k3], [zAr T 0 a4_5 7 k4]] _ _ := G.re rfl
    have hw_11 : bLand T la cr inn k1 k2 k3 k4 [zO4 la cr inn a1_2 a2_3 a3_4 a4_5, zAr T 0 a1_2 7 k1, zAr T 0 a2_3 28 k2, zAr T 0 a3_4 7 k3, zAr T 0 a4_5 7 k4] := ⟨a1_2, a2_3, a3_4, a4_5, rfl⟩
    have G : zS T A s.heap s [[zO1 h po a1_8 v0 la v1 v2 v3 v4 v5 y6 v7, zAr T 0 a1_8 7 fw], [zO4 la cr inn a1_2 a2_3 a3_4 a4_5, zAr T 0 a1_2 7 k1, zAr T 0 a2_3 28 k2, zAr T 0 a3_4 7 k3, zAr T 0 a4_5 7 k4]] _ _ := G.re rfl
    exact z_back hQz_ (z_vret C hr hlocks G (Nat.le_of_ble_eq_true rfl) (Nat.le_of_ble_eq_true rfl) dX1_lookAtCrowd_53 ⟨([zO1 h po a1_8 v0 la v1 v2 v3 v4 v5 y6 v7, zAr T 0 a1_8 7 fw]), y6, rfl, hw_10⟩)
  · have c_9n : ¬ cr.toInt ≤ (i : Int) := fun q => c_9 ((fa_le _ _).mpr (by rw [nI_toInt (n := i) (by omega)]; exact q))
    refine lv_iload_n hx hb dX1_lookAtCrowd_13 rfl (lv_at hl 0 rfl) ?_
    refine lv_bipush (v := 7) hx hb dX1_lookAtCrowd_14 (by decide) ?_
    refine lv_icmp_ge (tgt := 53) hx hb dX1_lookAtCrowd_16 (by decide) (fun c_12 => ?_) (fun c_12 => ?_)
    · have c_12n : 7 ≤ i := (nI_leI (a := 7) (b := i) (by omega) (by omega)).mp c_12
      have hw_13 : bCourse T h po la fw v0 v1 v2 v3 v4 v5 y6 v7 [zO1 h po a1_8 v0 la v1 v2 v3 v4 v5 y6 v7, zAr T 0 a1_8 7 fw] := ⟨a1_8, rfl⟩
      have G : zS T A s.heap s [[zO1 h po a1_8 v0 la v1 v2 v3 v4 v5 y6 v7, zAr T 0 a1_8 7 fw], [zO4 la cr inn a1_2 a2_3 a3_4 a4_5], [zAr T 0 a1_2 7 k1], [zAr T 0 a2_3 28 k2], [zAr T 0 a3_4 7 k3], [zAr T 0 a4_5 7 k4]] _ _ := G.re rfl
      have hw_14 : bLand T la cr inn k1 k2 k3 k4 [zO4 la cr inn a1_2 a2_3 a3_4 a4_5, zAr T 0 a1_2 7 k1, zAr T 0 a2_3 28 k2, zAr T 0 a3_4 7 k3, zAr T 0 a4_5 7 k4] := ⟨a1_2, a2_3, a3_4, a4_5, rfl⟩
      have G : zS T A s.heap s [[zO1 h po a1_8 v0 la v1 v2 v3 v4 v5 y6 v7, zAr T 0 a1_8 7 fw], [zO4 la cr inn a1_2 a2_3 a3_4 a4_5, zAr T 0 a1_2 7 k1, zAr T 0 a2_3 28 k2, zAr T 0 a3_4 7 k3, zAr T 0 a4_5 7 k4]] _ _ := G.re rfl
      exact z_back hQz_ (z_vret C hr hlocks G (Nat.le_of_ble_eq_true rfl) (Nat.le_of_ble_eq_true rfl) dX1_lookAtCrowd_53 ⟨([zO1 h po a1_8 v0 la v1 v2 v3 v4 v5 y6 v7, zAr T 0 a1_8 7 fw]), y6, rfl, hw_13⟩)
    · have c_12n : ¬ 7 ≤ i := fun q => c_12 ((nI_leI (a := 7) (b := i) (by omega) (by omega)).mpr q)
      refine lv_aload_n hx hb dX1_lookAtCrowd_19 rfl (lv_at hl 1 rfl) ?_
      refine z_get C G clX1 0 rfl 3 (by decide) m_fl_RX1_25 rfl dX1_lookAtCrowd_20 ?_
      refine lv_iload_n hx hb dX1_lookAtCrowd_23 rfl (lv_at hl 0 rfl) ?_
      have hw_15 : bLand T la cr inn k1 k2 k3 k4 [zO4 la cr inn a1_2 a2_3 a3_4 a4_5, zAr T 0 a1_2 7 k1, zAr T 0 a2_3 28 k2, zAr T 0 a3_4 7 k3, zAr T 0 a4_5 7 k4] := ⟨a1_2, a2_3, a3_4, a4_5, rfl⟩
      have G : zS T A s.heap s [[zO1 h po a1_8 v0 la v1 v2 v3 v4 v5 y6 v7], [zAr T 0 a1_8 7 fw], [zO4 la cr inn a1_2 a2_3 a3_4 a4_5, zAr T 0 a1_2 7 k1, zAr T 0 a2_3 28 k2, zAr T 0 a3_4 7 k3, zAr T 0 a4_5 7 k4]] _ _ := G.re rfl
      refine z_Vi (bc := [[zO4 la cr inn a1_2 a2_3 a3_4 a4_5, zAr T 0 a1_2 7 k1, zAr T 0 a2_3 28 k2, zAr T 0 a3_4 7 k3, zAr T 0 a4_5 7 k4]]) (br := [[zO1 h po a1_8 v0 la v1 v2 v3 v4 v5 y6 v7], [zAr T 0 a1_8 7 fw]]) (As := [.int (nI i)]) (rest := []) C G (c_isInn l T la cr inn k1 k2 k3 k4 ([zO4 la cr inn a1_2 a2_3 a3_4 a4_5, zAr T 0 a1_2 7 k1, zAr T 0 a2_3 28 k2, zAr T 0 a3_4 7 k3, zAr T 0 a4_5 7 k4]) (nI i) hw_15) (kV_RX1_135 C.2.2.2.2 (Nat.le_of_ble_eq_true rfl) (Nat.le_of_ble_eq_true rfl)) [2] [2] rfl rfl (ci := 4) (qc := (RX4, TX4, 6)) rfl rfl (List.mem_flatten.mpr ⟨_, List.mem_of_getElem? (i := 0) rfl, (bLand_mem hw_15).choose_spec⟩) rfl rfl hl.1 dX1_lookAtCrowd_24 (Nat.le_of_ble_eq_true rfl) (Nat.le_of_ble_eq_true rfl) (fun r_17 b1 H locs hw G => ?_)
      refine zAn2 hw ?_
      intro hbs9 hc_16
      clear hw
      subst hbs9
      have G : zS T A s.heap s [[zO1 h po a1_8 v0 la v1 v2 v3 v4 v5 y6 v7], [zAr T 0 a1_8 7 fw], [zO4 la cr inn a1_2 a2_3 a3_4 a4_5, zAr T 0 a1_2 7 k1, zAr T 0 a2_3 28 k2, zAr T 0 a3_4 7 k3, zAr T 0 a4_5 7 k4]] _ _ := G
      rcases hc_16 with ⟨rfl, h_18, h_19, h_20, h_21⟩ | ⟨rfl, h_22⟩
      · have h_18 : 0 ≤ (nI i).toInt := h_18
        have h_19 : (nI i).toInt < cr.toInt := h_19
        have h_20 : (nI i).toInt < 7 := h_20
        have h_21 : ¬ zBit inn (nI i) = 0 := h_21
        refine lv_if_ne (tgt := 47) hx hb dX1_lookAtCrowd_27 (by decide) (fun _ => ?_) (fun q => absurd q (by decide))
        refine lv_iinc (v := nI (i + 1)) (lv' := [(1, .int (nI (i + 1))), (0, .ref h)]) hx hb dX1_lookAtCrowd_47 hl (k := 0) rfl (z_inc i 1) (by decide) (zLvf_h rfl) (fun ls hl => ?_)
        refine lv_goto (tgt := 2) hx hb dX1_lookAtCrowd_50 (by decide) ?_
        have hw_23 : bCourse T h po la fw v0 v1 v2 v3 v4 v5 y6 v7 [zO1 h po a1_8 v0 la v1 v2 v3 v4 v5 y6 v7, zAr T 0 a1_8 7 fw] := ⟨a1_8, rfl⟩
        have G : zS T A s.heap s [[zO1 h po a1_8 v0 la v1 v2 v3 v4 v5 y6 v7, zAr T 0 a1_8 7 fw], [zO4 la cr inn a1_2 a2_3 a3_4 a4_5, zAr T 0 a1_2 7 k1, zAr T 0 a2_3 28 k2, zAr T 0 a3_4 7 k3, zAr T 0 a4_5 7 k4]] _ _ := G.re rfl
        exact ih_2 (i + 1) ([zO1 h po a1_8 v0 la v1 v2 v3 v4 v5 y6 v7, zAr T 0 a1_8 7 fw]) y6 (show bCourse T h po la fw v0 v1 v2 v3 v4 v5 y6 v7 ([zO1 h po a1_8 v0 la v1 v2 v3 v4 v5 y6 v7, zAr T 0 a1_8 7 fw]) ∧ (i + 1) ≤ cr.toInt.toNat ∧ (i + 1) ≤ 7 from ⟨hw_23, by omega, by omega⟩) (show 7 - (i + 1) < 7 - i from by omega) _ _ ls G (lv_sub hl [0, 1] rfl)
      · have h_22 : ((nI i).toInt < 0 ∨ cr.toInt ≤ (nI i).toInt ∨ 7 ≤ (nI i).toInt ∨ zBit inn (nI i) = 0) := h_22
        refine lv_if_ne (tgt := 47) hx hb dX1_lookAtCrowd_27 (by decide) (fun q => absurd (by decide) q) (fun _ => ?_)
        refine lv_aload_n hx hb dX1_lookAtCrowd_30 rfl (lv_at hl 1 rfl) ?_
        refine lv_aload_n hx hb dX1_lookAtCrowd_31 rfl (lv_at hl 1 rfl) ?_
        refine z_get C G clX1 0 rfl 9 (by decide) m_fl_RX1_53 rfl dX1_lookAtCrowd_32 ?_
        refine lv_aload_n hx hb dX1_lookAtCrowd_35 rfl (lv_at hl 1 rfl) ?_
        refine z_get C G clX1 0 rfl 1 (by decide) m_fl_RX1_18 rfl dX1_lookAtCrowd_36 ?_
        refine lv_iload_n hx hb dX1_lookAtCrowd_39 rfl (lv_at hl 0 rfl) ?_
        refine z_ild C G 1 rfl (vp_in_nI (by omega) (by decide)) dX1_lookAtCrowd_40 ?_
        refine lv_topi (fun v_24 ev_24 => ?_)
        rw [nI_clamp (by omega)] at ev_24
        subst ev_24
        refine va_mmax hx hb (C.2.2.1.trans hl.1.symm) C.2.2.2.1 (C.2.2.2.2 _ m_ml_RX1_126) (C.2.2.2.2 _ m_st_math_max) (C.2.2.2.2 _ m_ii_math) (C.2.2.2.2 _ m_co_math_max) (Nat.le_of_ble_eq_true rfl) (Nat.le_of_ble_eq_true rfl) (Nat.le_of_ble_eq_true rfl) (Nat.le_of_ble_eq_true rfl) dX1_lookAtCrowd_41 ?_
        refine lv_topi (fun v_25 ev_25 => ?_)
        subst ev_25
        refine z_put C G clX1 0 rfl 9 (by decide) m_fl_RX1_53 rfl rfl rfl (Nat.le_of_ble_eq_true rfl) dX1_lookAtCrowd_44 (fun H locs G => ?_)
        have G : zS T A s.heap s [[zO1 h po a1_8 v0 la v1 v2 v3 v4 v5 (if y6 < (fw i) then (fw i) else y6) v7], [zAr T 0 a1_8 7 fw], [zO4 la cr inn a1_2 a2_3 a3_4 a4_5, zAr T 0 a1_2 7 k1, zAr T 0 a2_3 28 k2, zAr T 0 a3_4 7 k3, zAr T 0 a4_5 7 k4]] _ _ := G
        refine lv_iinc (v := nI (i + 1)) (lv' := [(1, .int (nI (i + 1))), (0, .ref h)]) hx hb dX1_lookAtCrowd_47 hl (k := 0) rfl (z_inc i 1) (by decide) (zLvf_h rfl) (fun ls hl => ?_)
        refine lv_goto (tgt := 2) hx hb dX1_lookAtCrowd_50 (by decide) ?_
        have hw_26 : bCourse T h po la fw v0 v1 v2 v3 v4 v5 (if y6 < (fw i) then (fw i) else y6) v7 [zO1 h po a1_8 v0 la v1 v2 v3 v4 v5 (if y6 < (fw i) then (fw i) else y6) v7, zAr T 0 a1_8 7 fw] := ⟨a1_8, rfl⟩
        have G : zS T A s.heap s [[zO1 h po a1_8 v0 la v1 v2 v3 v4 v5 (if y6 < (fw i) then (fw i) else y6) v7, zAr T 0 a1_8 7 fw], [zO4 la cr inn a1_2 a2_3 a3_4 a4_5, zAr T 0 a1_2 7 k1, zAr T 0 a2_3 28 k2, zAr T 0 a3_4 7 k3, zAr T 0 a4_5 7 k4]] _ _ := G.re rfl
        exact ih_2 (i + 1) ([zO1 h po a1_8 v0 la v1 v2 v3 v4 v5 (if y6 < (fw i) then (fw i) else y6) v7, zAr T 0 a1_8 7 fw]) (if y6 < (fw i) then (fw i) else y6) (show bCourse T h po la fw v0 v1 v2 v3 v4 v5 (if y6 < (fw i) then (fw i) else y6) v7 ([zO1 h po a1_8 v0 la v1 v2 v3 v4 v5 (if y6 < (fw i) then (fw i) else y6) v7, zAr T 0 a1_8 7 fw]) ∧ (i + 1) ≤ cr.toInt.toNat ∧ (i + 1) ≤ 7 from ⟨hw_26, by omega, by omega⟩) (show 7 - (i + 1) < 7 - i from by omega) _ _ ls G (lv_sub hl [0, 1] rfl)
set_option maxHeartbeats 4000000 in
set_option maxRecDepth 100000 in
/-- c_walkersInAll -/
theorem c_walkersInAll (l : Launch) (T : zTy) (h : Nat) (po : Nat) (la : Nat) (fw : Nat → Int32) (v0 : Int32) (v1 : Int32) (v2 : Int32) (v3 : Int32) (v4 : Int32) (v5 : Int32) (v6 : Int32) (v7 : Int32) (wc : va_W) (cr : Int32) (inn : Int32) (k1 : Nat → Int32) (k2 : Nat → Int32) (k3 : Nat → Int32) (k4 : Nat → Int32) (z : va_W) (b : Int32) (hc : bCourse T h po la fw v0 v1 v2 v3 v4 v5 v6 v7 wc) (hz : bLand T la cr inn k1 k2 k3 k4 z) (hI : zLI cr k1 k3) : zMi l T yX1_walkersInAll cX1_walkersInAll 4 (some .int) 3 0 0 [.ref h, .int b] [wc, z] (fun (r : Int32) bs => bs = [wc, z]) := by
  refine zMi_of (own := RX1) (by decide) rfl (Nat.le_of_ble_eq_true rfl) ?_
  intro p e s m args below meth c A ls C hr hlocks hnm hAe G hl
  refine zHide (fun Qz_ hQz_ => ?_)
  have hx := C.1
  have hb := C.2.1
  have hl : lv_has ls 4 [(0, .ref h), (1, .int b)] := hl
  have hcr := hI.1
  refine lv_iconst (v := 0) hx hb dX1_walkersInAll_0 (by decide) ?_
  refine lv_istore_n (lv' := [(2, .int 0), (0, .ref h), (1, .int b)]) hx hb dX1_walkersInAll_1 rfl hl (by decide) (zLvf_h rfl) (fun ls hl => ?_)
  refine lv_iconst (v := 0) hx hb dX1_walkersInAll_2 (by decide) ?_
  refine lv_istore_n (lv' := [(3, .int 0), (2, .int 0), (0, .ref h), (1, .int b)]) hx hb dX1_walkersInAll_3 rfl hl (by decide) (zLvf_h rfl) (fun ls hl => ?_)
  refine zEx1 hc ?_
  intro a1_1 hbs9
  clear hc
  subst hbs9
  have G : zS T A s.heap s [[zO1 h po a1_1 v0 la v1 v2 v3 v4 v5 v6 v7], [zAr T 0 a1_1 7 fw], z] _ _ := G.re rfl
  refine zEx4 hz ?_
  intro a1_2 a2_3 a3_4 a4_5 hbs9
  clear hz
  subst hbs9
  have G : zS T A s.heap s [[zO1 h po a1_1 v0 la v1 v2 v3 v4 v5 v6 v7], [zAr T 0 a1_1 7 fw], [zO4 la cr inn a1_2 a2_3 a3_4 a4_5], [zAr T 0 a1_2 7 k1], [zAr T 0 a2_3 28 k2], [zAr T 0 a3_4 7 k3], [zAr T 0 a4_5 7 k4]] _ _ := G.re rfl
  have hw_6 : bCourse T h po la fw v0 v1 v2 v3 v4 v5 v6 v7 [zO1 h po a1_1 v0 la v1 v2 v3 v4 v5 v6 v7, zAr T 0 a1_1 7 fw] := ⟨a1_1, rfl⟩
  have G : zS T A s.heap s [[zO1 h po a1_1 v0 la v1 v2 v3 v4 v5 v6 v7, zAr T 0 a1_1 7 fw], [zO4 la cr inn a1_2 a2_3 a3_4 a4_5], [zAr T 0 a1_2 7 k1], [zAr T 0 a2_3 28 k2], [zAr T 0 a3_4 7 k3], [zAr T 0 a4_5 7 k4]] _ _ := G.re rfl
  have hw_7 : bLand T la cr inn k1 k2 k3 k4 [zO4 la cr inn a1_2 a2_3 a3_4 a4_5, zAr T 0 a1_2 7 k1, zAr T 0 a2_3 28 k2, zAr T 0 a3_4 7 k3, zAr T 0 a4_5 7 k4] := ⟨a1_2, a2_3, a3_4, a4_5, rfl⟩
  have G : zS T A s.heap s [[zO1 h po a1_1 v0 la v1 v2 v3 v4 v5 v6 v7, zAr T 0 a1_1 7 fw], [zO4 la cr inn a1_2 a2_3 a3_4 a4_5, zAr T 0 a1_2 7 k1, zAr T 0 a2_3 28 k2, zAr T 0 a3_4 7 k3, zAr T 0 a4_5 7 k4]] _ _ := G.re rfl
  refine z_lp2 (T := T) 4 (fun (i : Nat) (u : Int32) => [[zO1 h po a1_1 v0 la v1 v2 v3 v4 v5 v6 v7, zAr T 0 a1_1 7 fw], [zO4 la cr inn a1_2 a2_3 a3_4 a4_5, zAr T 0 a1_2 7 k1, zAr T 0 a2_3 28 k2, zAr T 0 a3_4 7 k3, zAr T 0 a4_5 7 k4]]) (fun (i : Nat) (u : Int32) => [(3, .int (nI i)), (2, .int u), (0, .ref h), (1, .int b)]) (fun (i : Nat) (u : Int32) => i ≤ cr.toInt.toNat ∧ i ≤ 7) (fun (i : Nat) (u : Int32) => 7 - i) ?_ 0 0 (show 0 ≤ cr.toInt.toNat ∧ 0 ≤ 7 from ⟨by omega, by omega⟩) G (lv_sub hl [0, 1, 2, 3] rfl)
  intro i u hI9 ih_4 H locs ls G hl
  replace hI9 : i ≤ cr.toInt.toNat ∧ i ≤ 7 := hI9
  refine zAn2 hI9 ?_
  intro hi hi7
  clear hI9
  replace G : zS T A s.heap s [[zO1 h po a1_1 v0 la v1 v2 v3 v4 v5 v6 v7, zAr T 0 a1_1 7 fw], [zO4 la cr inn a1_2 a2_3 a3_4 a4_5, zAr T 0 a1_2 7 k1, zAr T 0 a2_3 28 k2, zAr T 0 a3_4 7 k3, zAr T 0 a4_5 7 k4]] _ _ := G
  replace hl : lv_has ls 4 [(3, .int (nI i)), (2, .int u), (0, .ref h), (1, .int b)] := hl
  refine lv_iload_n hx hb dX1_walkersInAll_4 rfl (lv_at hl 0 rfl) ?_
  refine lv_aload_n hx hb dX1_walkersInAll_5 rfl (lv_at hl 2 rfl) ?_
  have G : zS T A s.heap s [[zO1 h po a1_1 v0 la v1 v2 v3 v4 v5 v6 v7], [zAr T 0 a1_1 7 fw], [zO4 la cr inn a1_2 a2_3 a3_4 a4_5, zAr T 0 a1_2 7 k1, zAr T 0 a2_3 28 k2, zAr T 0 a3_4 7 k3, zAr T 0 a4_5 7 k4]] _ _ := G.re rfl
  refine z_get C G clX1 0 rfl 3 (by decide) m_fl_RX1_25 rfl dX1_walkersInAll_6 ?_
  have G : zS T A s.heap s [[zO1 h po a1_1 v0 la v1 v2 v3 v4 v5 v6 v7], [zAr T 0 a1_1 7 fw], [zO4 la cr inn a1_2 a2_3 a3_4 a4_5], [zAr T 0 a1_2 7 k1], [zAr T 0 a2_3 28 k2], [zAr T 0 a3_4 7 k3], [zAr T 0 a4_5 7 k4]] _ _ := G.re rfl
  refine z_get C G clX4 2 rfl 0 (by decide) m_fl_RX1_88 rfl dX1_walkersInAll_9 ?_
  refine lv_icmp_ge (tgt := 55) hx hb dX1_walkersInAll_12 (by decide) (fun c_8 => ?_) (fun c_8 => ?_)
  · have c_8n : cr.toInt ≤ (i : Int) := by have q := (fa_le _ _).mp c_8; rw [nI_toInt (n := i) (by omega)] at q; exact q
    refine lv_iload_n hx hb dX1_walkersInAll_55 rfl (lv_at hl 1 rfl) ?_
    have hw_9 : bCourse T h po la fw v0 v1 v2 v3 v4 v5 v6 v7 [zO1 h po a1_1 v0 la v1 v2 v3 v4 v5 v6 v7, zAr T 0 a1_1 7 fw] := ⟨a1_1, rfl⟩
    have G : zS T A s.heap s [[zO1 h po a1_1 v0 la v1 v2 v3 v4 v5 v6 v7, zAr T 0 a1_1 7 fw], [zO4 la cr inn a1_2 a2_3 a3_4 a4_5], [zAr T 0 a1_2 7 k1], [zAr T 0 a2_3 28 k2], [zAr T 0 a3_4 7 k3], [zAr T 0 a4_5 7 k4]] _ _ := G.re rfl
    have hw_10 : bLand T la cr inn k1 k2 k3 k4 [zO4 la cr inn a1_2 a2_3 a3_4 a4_5, zAr T 0 a1_2 7 k1, zAr T 0 a2_3 28 k2, zAr T 0 a3_4 7 k3, zAr T 0 a4_5 7 k4] := ⟨a1_2, a2_3, a3_4, a4_5, rfl⟩
    have G : zS T A s.heap s [[zO1 h po a1_1 v0 la v1 v2 v3 v4 v5 v6 v7, zAr T 0 a1_1 7 fw], [zO4 la cr inn a1_2 a2_3 a3_4 a4_5, zAr T 0 a1_2 7 k1, zAr T 0 a2_3 28 k2, zAr T 0 a3_4 7 k3, zAr T 0 a4_5 7 k4]] _ _ := G.re rfl
    exact z_back hQz_ (z_iret C hr hlocks G (Nat.le_of_ble_eq_true rfl) (Nat.le_of_ble_eq_true rfl) dX1_walkersInAll_56 rfl)
  · have c_8n : ¬ cr.toInt ≤ (i : Int) := fun q => c_8 ((fa_le _ _).mpr (by rw [nI_toInt (n := i) (by omega)]; exact q))
    refine lv_iload_n hx hb dX1_walkersInAll_15 rfl (lv_at hl 0 rfl) ?_
    refine lv_bipush (v := 7) hx hb dX1_walkersInAll_16 (by decide) ?_
    refine lv_icmp_ge (tgt := 55) hx hb dX1_walkersInAll_18 (by decide) (fun c_11 => ?_) (fun c_11 => ?_)
    · have c_11n : 7 ≤ i := (nI_leI (a := 7) (b := i) (by omega) (by omega)).mp c_11
      refine lv_iload_n hx hb dX1_walkersInAll_55 rfl (lv_at hl 1 rfl) ?_
      have hw_12 : bCourse T h po la fw v0 v1 v2 v3 v4 v5 v6 v7 [zO1 h po a1_1 v0 la v1 v2 v3 v4 v5 v6 v7, zAr T 0 a1_1 7 fw] := ⟨a1_1, rfl⟩
      have G : zS T A s.heap s [[zO1 h po a1_1 v0 la v1 v2 v3 v4 v5 v6 v7, zAr T 0 a1_1 7 fw], [zO4 la cr inn a1_2 a2_3 a3_4 a4_5], [zAr T 0 a1_2 7 k1], [zAr T 0 a2_3 28 k2], [zAr T 0 a3_4 7 k3], [zAr T 0 a4_5 7 k4]] _ _ := G.re rfl
      have hw_13 : bLand T la cr inn k1 k2 k3 k4 [zO4 la cr inn a1_2 a2_3 a3_4 a4_5, zAr T 0 a1_2 7 k1, zAr T 0 a2_3 28 k2, zAr T 0 a3_4 7 k3, zAr T 0 a4_5 7 k4] := ⟨a1_2, a2_3, a3_4, a4_5, rfl⟩
      have G : zS T A s.heap s [[zO1 h po a1_1 v0 la v1 v2 v3 v4 v5 v6 v7, zAr T 0 a1_1 7 fw], [zO4 la cr inn a1_2 a2_3 a3_4 a4_5, zAr T 0 a1_2 7 k1, zAr T 0 a2_3 28 k2, zAr T 0 a3_4 7 k3, zAr T 0 a4_5 7 k4]] _ _ := G.re rfl
      exact z_back hQz_ (z_iret C hr hlocks G (Nat.le_of_ble_eq_true rfl) (Nat.le_of_ble_eq_true rfl) dX1_walkersInAll_56 rfl)
    · have c_11n : ¬ 7 ≤ i := fun q => c_11 ((nI_leI (a := 7) (b := i) (by omega) (by omega)).mpr q)
      refine lv_iload_n hx hb dX1_walkersInAll_21 rfl (lv_at hl 1 rfl) ?_
      refine lv_iload_n hx hb dX1_walkersInAll_22 rfl (lv_at hl 3 rfl) ?_
      refine lv_if_eq (tgt := 37) hx hb dX1_walkersInAll_23 (by decide) (fun c_14 => ?_) (fun c_14 => ?_)
      · have c_14n : b.toInt = (0 : Int) := (fa_eq _ _).mp c_14
        refine lv_aload_n hx hb dX1_walkersInAll_37 rfl (lv_at hl 2 rfl) ?_
        refine z_get C G clX1 0 rfl 1 (by decide) m_fl_RX1_18 rfl dX1_walkersInAll_38 ?_
        refine lv_iload_n hx hb dX1_walkersInAll_41 rfl (lv_at hl 0 rfl) ?_
        refine z_ild C G 1 rfl (vp_in_nI (by omega) (by decide)) dX1_walkersInAll_42 ?_
        refine lv_topi (fun v_15 ev_15 => ?_)
        rw [nI_clamp (by omega)] at ev_15
        subst ev_15
        refine lv_goto (tgt := 47) hx hb dX1_walkersInAll_43 (by decide) ?_
        refine lv_iadd hx hb dX1_walkersInAll_47 ?_
        refine lv_istore_n (lv' := [(2, .int (u + (fw i))), (3, .int (nI i)), (0, .ref h), (1, .int b)]) hx hb dX1_walkersInAll_48 rfl hl (by decide) (zLvf_h rfl) (fun ls hl => ?_)
        refine lv_iinc (v := nI (i + 1)) (lv' := [(3, .int (nI (i + 1))), (2, .int (u + (fw i))), (0, .ref h), (1, .int b)]) hx hb dX1_walkersInAll_49 hl (k := 1) rfl (z_inc i 1) (by decide) (zLvf_h rfl) (fun ls hl => ?_)
        refine lv_goto (tgt := 4) hx hb dX1_walkersInAll_52 (by decide) ?_
        have hw_16 : bCourse T h po la fw v0 v1 v2 v3 v4 v5 v6 v7 [zO1 h po a1_1 v0 la v1 v2 v3 v4 v5 v6 v7, zAr T 0 a1_1 7 fw] := ⟨a1_1, rfl⟩
        have G : zS T A s.heap s [[zO1 h po a1_1 v0 la v1 v2 v3 v4 v5 v6 v7, zAr T 0 a1_1 7 fw], [zO4 la cr inn a1_2 a2_3 a3_4 a4_5], [zAr T 0 a1_2 7 k1], [zAr T 0 a2_3 28 k2], [zAr T 0 a3_4 7 k3], [zAr T 0 a4_5 7 k4]] _ _ := G.re rfl
        have hw_17 : bLand T la cr inn k1 k2 k3 k4 [zO4 la cr inn a1_2 a2_3 a3_4 a4_5, zAr T 0 a1_2 7 k1, zAr T 0 a2_3 28 k2, zAr T 0 a3_4 7 k3, zAr T 0 a4_5 7 k4] := ⟨a1_2, a2_3, a3_4, a4_5, rfl⟩
        have G : zS T A s.heap s [[zO1 h po a1_1 v0 la v1 v2 v3 v4 v5 v6 v7, zAr T 0 a1_1 7 fw], [zO4 la cr inn a1_2 a2_3 a3_4 a4_5, zAr T 0 a1_2 7 k1, zAr T 0 a2_3 28 k2, zAr T 0 a3_4 7 k3, zAr T 0 a4_5 7 k4]] _ _ := G.re rfl
        exact ih_4 (i + 1) (u + (fw i)) (show (i + 1) ≤ cr.toInt.toNat ∧ (i + 1) ≤ 7 from ⟨by omega, by omega⟩) (show 7 - (i + 1) < 7 - i from by omega) _ _ ls G (lv_sub hl [0, 1, 2, 3] rfl)
      · have c_14n : ¬ b.toInt = (0 : Int) := fun q => c_14 ((fa_eq _ _).mpr q)
        refine lv_aload_n hx hb dX1_walkersInAll_26 rfl (lv_at hl 2 rfl) ?_
        refine z_get C G clX1 0 rfl 3 (by decide) m_fl_RX1_25 rfl dX1_walkersInAll_27 ?_
        refine lv_iload_n hx hb dX1_walkersInAll_30 rfl (lv_at hl 0 rfl) ?_
        have hw_18 : bLand T la cr inn k1 k2 k3 k4 [zO4 la cr inn a1_2 a2_3 a3_4 a4_5, zAr T 0 a1_2 7 k1, zAr T 0 a2_3 28 k2, zAr T 0 a3_4 7 k3, zAr T 0 a4_5 7 k4] := ⟨a1_2, a2_3, a3_4, a4_5, rfl⟩
        have G : zS T A s.heap s [[zO1 h po a1_1 v0 la v1 v2 v3 v4 v5 v6 v7], [zAr T 0 a1_1 7 fw], [zO4 la cr inn a1_2 a2_3 a3_4 a4_5, zAr T 0 a1_2 7 k1, zAr T 0 a2_3 28 k2, zAr T 0 a3_4 7 k3, zAr T 0 a4_5 7 k4]] _ _ := G.re rfl
        refine z_Vi (bc := [[zO4 la cr inn a1_2 a2_3 a3_4 a4_5, zAr T 0 a1_2 7 k1, zAr T 0 a2_3 28 k2, zAr T 0 a3_4 7 k3, zAr T 0 a4_5 7 k4]]) (br := [[zO1 h po a1_1 v0 la v1 v2 v3 v4 v5 v6 v7], [zAr T 0 a1_1 7 fw]]) (As := [.int (nI i)]) (rest := [.int u]) C G (c_isInn l T la cr inn k1 k2 k3 k4 ([zO4 la cr inn a1_2 a2_3 a3_4 a4_5, zAr T 0 a1_2 7 k1, zAr T 0 a2_3 28 k2, zAr T 0 a3_4 7 k3, zAr T 0 a4_5 7 k4]) (nI i) hw_18) (kV_RX1_135 C.2.2.2.2 (Nat.le_of_ble_eq_true rfl) (Nat.le_of_ble_eq_true rfl)) [2] [2] rfl rfl (ci := 4) (qc := (RX4, TX4, 6)) rfl rfl (List.mem_flatten.mpr ⟨_, List.mem_of_getElem? (i := 0) rfl, (bLand_mem hw_18).choose_spec⟩) rfl rfl hl.1 dX1_walkersInAll_31 (Nat.le_of_ble_eq_true rfl) (Nat.le_of_ble_eq_true rfl) (fun r_20 b1 H locs hw G => ?_)
        refine zAn2 hw ?_
        intro hbs9 hc_19
        clear hw
        subst hbs9
        have G : zS T A s.heap s [[zO1 h po a1_1 v0 la v1 v2 v3 v4 v5 v6 v7], [zAr T 0 a1_1 7 fw], [zO4 la cr inn a1_2 a2_3 a3_4 a4_5, zAr T 0 a1_2 7 k1, zAr T 0 a2_3 28 k2, zAr T 0 a3_4 7 k3, zAr T 0 a4_5 7 k4]] _ _ := G
        rcases hc_19 with ⟨rfl, h_21, h_22, h_23, h_24⟩ | ⟨rfl, h_25⟩
        · have h_21 : 0 ≤ (nI i).toInt := h_21
          have h_22 : (nI i).toInt < cr.toInt := h_22
          have h_23 : (nI i).toInt < 7 := h_23
          have h_24 : ¬ zBit inn (nI i) = 0 := h_24
          refine lv_if_eq (tgt := 46) hx hb dX1_walkersInAll_34 (by decide) (fun q => absurd q (by decide)) (fun _ => ?_)
          refine lv_aload_n hx hb dX1_walkersInAll_37 rfl (lv_at hl 2 rfl) ?_
          refine z_get C G clX1 0 rfl 1 (by decide) m_fl_RX1_18 rfl dX1_walkersInAll_38 ?_
          refine lv_iload_n hx hb dX1_walkersInAll_41 rfl (lv_at hl 0 rfl) ?_
          refine z_ild C G 1 rfl (vp_in_nI (by omega) (by decide)) dX1_walkersInAll_42 ?_
          refine lv_topi (fun v_26 ev_26 => ?_)
          rw [nI_clamp (by omega)] at ev_26
          subst ev_26
          refine lv_goto (tgt := 47) hx hb dX1_walkersInAll_43 (by decide) ?_
          refine lv_iadd hx hb dX1_walkersInAll_47 ?_
          refine lv_istore_n (lv' := [(2, .int (u + (fw i))), (3, .int (nI i)), (0, .ref h), (1, .int b)]) hx hb dX1_walkersInAll_48 rfl hl (by decide) (zLvf_h rfl) (fun ls hl => ?_)
          refine lv_iinc (v := nI (i + 1)) (lv' := [(3, .int (nI (i + 1))), (2, .int (u + (fw i))), (0, .ref h), (1, .int b)]) hx hb dX1_walkersInAll_49 hl (k := 1) rfl (z_inc i 1) (by decide) (zLvf_h rfl) (fun ls hl => ?_)
          refine lv_goto (tgt := 4) hx hb dX1_walkersInAll_52 (by decide) ?_
          have hw_27 : bCourse T h po la fw v0 v1 v2 v3 v4 v5 v6 v7 [zO1 h po a1_1 v0 la v1 v2 v3 v4 v5 v6 v7, zAr T 0 a1_1 7 fw] := ⟨a1_1, rfl⟩
          have G : zS T A s.heap s [[zO1 h po a1_1 v0 la v1 v2 v3 v4 v5 v6 v7, zAr T 0 a1_1 7 fw], [zO4 la cr inn a1_2 a2_3 a3_4 a4_5, zAr T 0 a1_2 7 k1, zAr T 0 a2_3 28 k2, zAr T 0 a3_4 7 k3, zAr T 0 a4_5 7 k4]] _ _ := G.re rfl
          exact ih_4 (i + 1) (u + (fw i)) (show (i + 1) ≤ cr.toInt.toNat ∧ (i + 1) ≤ 7 from ⟨by omega, by omega⟩) (show 7 - (i + 1) < 7 - i from by omega) _ _ ls G (lv_sub hl [0, 1, 2, 3] rfl)
        · have h_25 : ((nI i).toInt < 0 ∨ cr.toInt ≤ (nI i).toInt ∨ 7 ≤ (nI i).toInt ∨ zBit inn (nI i) = 0) := h_25
          refine lv_if_eq (tgt := 46) hx hb dX1_walkersInAll_34 (by decide) (fun _ => ?_) (fun q => absurd (by decide) q)
          refine lv_iconst (v := 0) hx hb dX1_walkersInAll_46 (by decide) ?_
          refine lv_iadd hx hb dX1_walkersInAll_47 ?_
          refine lv_istore_n (lv' := [(2, .int (u + 0)), (3, .int (nI i)), (0, .ref h), (1, .int b)]) hx hb dX1_walkersInAll_48 rfl hl (by decide) (zLvf_h rfl) (fun ls hl => ?_)
          refine lv_iinc (v := nI (i + 1)) (lv' := [(3, .int (nI (i + 1))), (2, .int (u + 0)), (0, .ref h), (1, .int b)]) hx hb dX1_walkersInAll_49 hl (k := 1) rfl (z_inc i 1) (by decide) (zLvf_h rfl) (fun ls hl => ?_)
          refine lv_goto (tgt := 4) hx hb dX1_walkersInAll_52 (by decide) ?_
          have hw_28 : bCourse T h po la fw v0 v1 v2 v3 v4 v5 v6 v7 [zO1 h po a1_1 v0 la v1 v2 v3 v4 v5 v6 v7, zAr T 0 a1_1 7 fw] := ⟨a1_1, rfl⟩
          have G : zS T A s.heap s [[zO1 h po a1_1 v0 la v1 v2 v3 v4 v5 v6 v7, zAr T 0 a1_1 7 fw], [zO4 la cr inn a1_2 a2_3 a3_4 a4_5, zAr T 0 a1_2 7 k1, zAr T 0 a2_3 28 k2, zAr T 0 a3_4 7 k3, zAr T 0 a4_5 7 k4]] _ _ := G.re rfl
          exact ih_4 (i + 1) (u + 0) (show (i + 1) ≤ cr.toInt.toNat ∧ (i + 1) ≤ 7 from ⟨by omega, by omega⟩) (show 7 - (i + 1) < 7 - i from by omega) _ _ ls G (lv_sub hl [0, 1, 2, 3] rfl)
set_option maxHeartbeats 4000000 in
set_option maxRecDepth 100000 in
/-- c_unlikeTold -/
theorem c_unlikeTold (l : Launch) (T : zTy) (h : Nat) (po : Nat) (la : Nat) (fw : Nat → Int32) (v0 : Int32) (v1 : Int32) (v2 : Int32) (v3 : Int32) (v4 : Int32) (v5 : Int32) (v6 : Int32) (v7 : Int32) (wc : va_W) (f1 : Nat → Int32) (f2 : Nat → Int32) (f3 : Nat → Int32) (st : Int32) (wh : Int32) (wp : va_W) (cr : Int32) (inn : Int32) (k1 : Nat → Int32) (k2 : Nat → Int32) (k3 : Nat → Int32) (k4 : Nat → Int32) (z : va_W) (hc : bCourse T h po la fw v0 v1 v2 v3 v4 v5 v6 v7 wc) (hp : bPosts T po la f1 f2 f3 st wh wp) (hz : bLand T la cr inn k1 k2 k3 k4 z) (hI : zLI cr k1 k3) : zMi l T yX1_unlikeTold cX1_unlikeTold 3 (some .int) 1 0 0 [.ref h] [wc, wp, z] (fun (r : Int32) bs => bs = [wc, wp, z]) := by
  refine zMi_of (own := RX1) (by decide) rfl (Nat.le_of_ble_eq_true rfl) ?_
  intro p e s m args below meth c A ls C hr hlocks hnm hAe G hl
  refine zHide (fun Qz_ hQz_ => ?_)
  have hx := C.1
  have hb := C.2.1
  have hl : lv_has ls 3 [(0, .ref h)] := hl
  have hcr := hI.1
  refine lv_iconst (v := 0) hx hb dX1_unlikeTold_0 (by decide) ?_
  refine lv_istore_n (lv' := [(1, .int 0), (0, .ref h)]) hx hb dX1_unlikeTold_1 rfl hl (by decide) (zLvf_h rfl) (fun ls hl => ?_)
  refine lv_iconst (v := 0) hx hb dX1_unlikeTold_2 (by decide) ?_
  refine lv_istore_n (lv' := [(2, .int 0), (1, .int 0), (0, .ref h)]) hx hb dX1_unlikeTold_3 rfl hl (by decide) (zLvf_h rfl) (fun ls hl => ?_)
  refine zEx1 hc ?_
  intro a1_1 hbs9
  clear hc
  subst hbs9
  have G : zS T A s.heap s [[zO1 h po a1_1 v0 la v1 v2 v3 v4 v5 v6 v7], [zAr T 0 a1_1 7 fw], wp, z] _ _ := G.re rfl
  refine zEx3 hp ?_
  intro a1_2 a2_3 a3_4 hbs9
  clear hp
  subst hbs9
  have G : zS T A s.heap s [[zO1 h po a1_1 v0 la v1 v2 v3 v4 v5 v6 v7], [zAr T 0 a1_1 7 fw], [zO6 po la a1_2 a2_3 st wh a3_4], [zAr T 0 a1_2 7 f1], [zAr T 0 a2_3 7 f2], [zAr T 0 a3_4 7 f3], z] _ _ := G.re rfl
  refine zEx4 hz ?_
  intro a1_5 a2_6 a3_7 a4_8 hbs9
  clear hz
  subst hbs9
  have G : zS T A s.heap s [[zO1 h po a1_1 v0 la v1 v2 v3 v4 v5 v6 v7], [zAr T 0 a1_1 7 fw], [zO6 po la a1_2 a2_3 st wh a3_4], [zAr T 0 a1_2 7 f1], [zAr T 0 a2_3 7 f2], [zAr T 0 a3_4 7 f3], [zO4 la cr inn a1_5 a2_6 a3_7 a4_8], [zAr T 0 a1_5 7 k1], [zAr T 0 a2_6 28 k2], [zAr T 0 a3_7 7 k3], [zAr T 0 a4_8 7 k4]] _ _ := G.re rfl
  have hw_9 : bCourse T h po la fw v0 v1 v2 v3 v4 v5 v6 v7 [zO1 h po a1_1 v0 la v1 v2 v3 v4 v5 v6 v7, zAr T 0 a1_1 7 fw] := ⟨a1_1, rfl⟩
  have G : zS T A s.heap s [[zO1 h po a1_1 v0 la v1 v2 v3 v4 v5 v6 v7, zAr T 0 a1_1 7 fw], [zO6 po la a1_2 a2_3 st wh a3_4], [zAr T 0 a1_2 7 f1], [zAr T 0 a2_3 7 f2], [zAr T 0 a3_4 7 f3], [zO4 la cr inn a1_5 a2_6 a3_7 a4_8], [zAr T 0 a1_5 7 k1], [zAr T 0 a2_6 28 k2], [zAr T 0 a3_7 7 k3], [zAr T 0 a4_8 7 k4]] _ _ := G.re rfl
  have hw_10 : bPosts T po la f1 f2 f3 st wh [zO6 po la a1_2 a2_3 st wh a3_4, zAr T 0 a1_2 7 f1, zAr T 0 a2_3 7 f2, zAr T 0 a3_4 7 f3] := ⟨a1_2, a2_3, a3_4, rfl⟩
  have G : zS T A s.heap s [[zO1 h po a1_1 v0 la v1 v2 v3 v4 v5 v6 v7, zAr T 0 a1_1 7 fw], [zO6 po la a1_2 a2_3 st wh a3_4, zAr T 0 a1_2 7 f1, zAr T 0 a2_3 7 f2, zAr T 0 a3_4 7 f3], [zO4 la cr inn a1_5 a2_6 a3_7 a4_8], [zAr T 0 a1_5 7 k1], [zAr T 0 a2_6 28 k2], [zAr T 0 a3_7 7 k3], [zAr T 0 a4_8 7 k4]] _ _ := G.re rfl
  have hw_11 : bLand T la cr inn k1 k2 k3 k4 [zO4 la cr inn a1_5 a2_6 a3_7 a4_8, zAr T 0 a1_5 7 k1, zAr T 0 a2_6 28 k2, zAr T 0 a3_7 7 k3, zAr T 0 a4_8 7 k4] := ⟨a1_5, a2_6, a3_7, a4_8, rfl⟩
  have G : zS T A s.heap s [[zO1 h po a1_1 v0 la v1 v2 v3 v4 v5 v6 v7, zAr T 0 a1_1 7 fw], [zO6 po la a1_2 a2_3 st wh a3_4, zAr T 0 a1_2 7 f1, zAr T 0 a2_3 7 f2, zAr T 0 a3_4 7 f3], [zO4 la cr inn a1_5 a2_6 a3_7 a4_8, zAr T 0 a1_5 7 k1, zAr T 0 a2_6 28 k2, zAr T 0 a3_7 7 k3, zAr T 0 a4_8 7 k4]] _ _ := G.re rfl
  refine z_lp2 (T := T) 4 (fun (i : Nat) (u : Int32) => [[zO1 h po a1_1 v0 la v1 v2 v3 v4 v5 v6 v7, zAr T 0 a1_1 7 fw], [zO6 po la a1_2 a2_3 st wh a3_4, zAr T 0 a1_2 7 f1, zAr T 0 a2_3 7 f2, zAr T 0 a3_4 7 f3], [zO4 la cr inn a1_5 a2_6 a3_7 a4_8, zAr T 0 a1_5 7 k1, zAr T 0 a2_6 28 k2, zAr T 0 a3_7 7 k3, zAr T 0 a4_8 7 k4]]) (fun (i : Nat) (u : Int32) => [(2, .int (nI i)), (1, .int u), (0, .ref h)]) (fun (i : Nat) (u : Int32) => i ≤ cr.toInt.toNat ∧ i ≤ 7) (fun (i : Nat) (u : Int32) => 7 - i) ?_ 0 0 (show 0 ≤ cr.toInt.toNat ∧ 0 ≤ 7 from ⟨by omega, by omega⟩) G (lv_sub hl [0, 1, 2] rfl)
  intro i u hI9 ih_4 H locs ls G hl
  replace hI9 : i ≤ cr.toInt.toNat ∧ i ≤ 7 := hI9
  refine zAn2 hI9 ?_
  intro hi hi7
  clear hI9
  replace G : zS T A s.heap s [[zO1 h po a1_1 v0 la v1 v2 v3 v4 v5 v6 v7, zAr T 0 a1_1 7 fw], [zO6 po la a1_2 a2_3 st wh a3_4, zAr T 0 a1_2 7 f1, zAr T 0 a2_3 7 f2, zAr T 0 a3_4 7 f3], [zO4 la cr inn a1_5 a2_6 a3_7 a4_8, zAr T 0 a1_5 7 k1, zAr T 0 a2_6 28 k2, zAr T 0 a3_7 7 k3, zAr T 0 a4_8 7 k4]] _ _ := G
  replace hl : lv_has ls 3 [(2, .int (nI i)), (1, .int u), (0, .ref h)] := hl
  refine lv_iload_n hx hb dX1_unlikeTold_4 rfl (lv_at hl 0 rfl) ?_
  refine lv_aload_n hx hb dX1_unlikeTold_5 rfl (lv_at hl 2 rfl) ?_
  have G : zS T A s.heap s [[zO1 h po a1_1 v0 la v1 v2 v3 v4 v5 v6 v7], [zAr T 0 a1_1 7 fw], [zO6 po la a1_2 a2_3 st wh a3_4, zAr T 0 a1_2 7 f1, zAr T 0 a2_3 7 f2, zAr T 0 a3_4 7 f3], [zO4 la cr inn a1_5 a2_6 a3_7 a4_8, zAr T 0 a1_5 7 k1, zAr T 0 a2_6 28 k2, zAr T 0 a3_7 7 k3, zAr T 0 a4_8 7 k4]] _ _ := G.re rfl
  refine z_get C G clX1 0 rfl 3 (by decide) m_fl_RX1_25 rfl dX1_unlikeTold_6 ?_
  have G : zS T A s.heap s [[zO1 h po a1_1 v0 la v1 v2 v3 v4 v5 v6 v7], [zAr T 0 a1_1 7 fw], [zO6 po la a1_2 a2_3 st wh a3_4, zAr T 0 a1_2 7 f1, zAr T 0 a2_3 7 f2, zAr T 0 a3_4 7 f3], [zO4 la cr inn a1_5 a2_6 a3_7 a4_8], [zAr T 0 a1_5 7 k1], [zAr T 0 a2_6 28 k2], [zAr T 0 a3_7 7 k3], [zAr T 0 a4_8 7 k4]] _ _ := G.re rfl
  refine z_get C G clX4 3 rfl 0 (by decide) m_fl_RX1_88 rfl dX1_unlikeTold_9 ?_
  refine lv_icmp_ge (tgt := 58) hx hb dX1_unlikeTold_12 (by decide) (fun c_12 => ?_) (fun c_12 => ?_)
  · have c_12n : cr.toInt ≤ (i : Int) := by have q := (fa_le _ _).mp c_12; rw [nI_toInt (n := i) (by omega)] at q; exact q
    refine lv_iload_n hx hb dX1_unlikeTold_58 rfl (lv_at hl 1 rfl) ?_
    have hw_13 : bCourse T h po la fw v0 v1 v2 v3 v4 v5 v6 v7 [zO1 h po a1_1 v0 la v1 v2 v3 v4 v5 v6 v7, zAr T 0 a1_1 7 fw] := ⟨a1_1, rfl⟩
    have G : zS T A s.heap s [[zO1 h po a1_1 v0 la v1 v2 v3 v4 v5 v6 v7, zAr T 0 a1_1 7 fw], [zO6 po la a1_2 a2_3 st wh a3_4, zAr T 0 a1_2 7 f1, zAr T 0 a2_3 7 f2, zAr T 0 a3_4 7 f3], [zO4 la cr inn a1_5 a2_6 a3_7 a4_8], [zAr T 0 a1_5 7 k1], [zAr T 0 a2_6 28 k2], [zAr T 0 a3_7 7 k3], [zAr T 0 a4_8 7 k4]] _ _ := G.re rfl
    have hw_14 : bLand T la cr inn k1 k2 k3 k4 [zO4 la cr inn a1_5 a2_6 a3_7 a4_8, zAr T 0 a1_5 7 k1, zAr T 0 a2_6 28 k2, zAr T 0 a3_7 7 k3, zAr T 0 a4_8 7 k4] := ⟨a1_5, a2_6, a3_7, a4_8, rfl⟩
    have G : zS T A s.heap s [[zO1 h po a1_1 v0 la v1 v2 v3 v4 v5 v6 v7, zAr T 0 a1_1 7 fw], [zO6 po la a1_2 a2_3 st wh a3_4, zAr T 0 a1_2 7 f1, zAr T 0 a2_3 7 f2, zAr T 0 a3_4 7 f3], [zO4 la cr inn a1_5 a2_6 a3_7 a4_8, zAr T 0 a1_5 7 k1, zAr T 0 a2_6 28 k2, zAr T 0 a3_7 7 k3, zAr T 0 a4_8 7 k4]] _ _ := G.re rfl
    exact z_back hQz_ (z_iret C hr hlocks G (Nat.le_of_ble_eq_true rfl) (Nat.le_of_ble_eq_true rfl) dX1_unlikeTold_59 rfl)
  · have c_12n : ¬ cr.toInt ≤ (i : Int) := fun q => c_12 ((fa_le _ _).mpr (by rw [nI_toInt (n := i) (by omega)]; exact q))
    refine lv_iload_n hx hb dX1_unlikeTold_15 rfl (lv_at hl 0 rfl) ?_
    refine lv_bipush (v := 7) hx hb dX1_unlikeTold_16 (by decide) ?_
    refine lv_icmp_ge (tgt := 58) hx hb dX1_unlikeTold_18 (by decide) (fun c_15 => ?_) (fun c_15 => ?_)
    · have c_15n : 7 ≤ i := (nI_leI (a := 7) (b := i) (by omega) (by omega)).mp c_15
      refine lv_iload_n hx hb dX1_unlikeTold_58 rfl (lv_at hl 1 rfl) ?_
      have hw_16 : bCourse T h po la fw v0 v1 v2 v3 v4 v5 v6 v7 [zO1 h po a1_1 v0 la v1 v2 v3 v4 v5 v6 v7, zAr T 0 a1_1 7 fw] := ⟨a1_1, rfl⟩
      have G : zS T A s.heap s [[zO1 h po a1_1 v0 la v1 v2 v3 v4 v5 v6 v7, zAr T 0 a1_1 7 fw], [zO6 po la a1_2 a2_3 st wh a3_4, zAr T 0 a1_2 7 f1, zAr T 0 a2_3 7 f2, zAr T 0 a3_4 7 f3], [zO4 la cr inn a1_5 a2_6 a3_7 a4_8], [zAr T 0 a1_5 7 k1], [zAr T 0 a2_6 28 k2], [zAr T 0 a3_7 7 k3], [zAr T 0 a4_8 7 k4]] _ _ := G.re rfl
      have hw_17 : bLand T la cr inn k1 k2 k3 k4 [zO4 la cr inn a1_5 a2_6 a3_7 a4_8, zAr T 0 a1_5 7 k1, zAr T 0 a2_6 28 k2, zAr T 0 a3_7 7 k3, zAr T 0 a4_8 7 k4] := ⟨a1_5, a2_6, a3_7, a4_8, rfl⟩
      have G : zS T A s.heap s [[zO1 h po a1_1 v0 la v1 v2 v3 v4 v5 v6 v7, zAr T 0 a1_1 7 fw], [zO6 po la a1_2 a2_3 st wh a3_4, zAr T 0 a1_2 7 f1, zAr T 0 a2_3 7 f2, zAr T 0 a3_4 7 f3], [zO4 la cr inn a1_5 a2_6 a3_7 a4_8, zAr T 0 a1_5 7 k1, zAr T 0 a2_6 28 k2, zAr T 0 a3_7 7 k3, zAr T 0 a4_8 7 k4]] _ _ := G.re rfl
      exact z_back hQz_ (z_iret C hr hlocks G (Nat.le_of_ble_eq_true rfl) (Nat.le_of_ble_eq_true rfl) dX1_unlikeTold_59 rfl)
    · have c_15n : ¬ 7 ≤ i := fun q => c_15 ((nI_leI (a := 7) (b := i) (by omega) (by omega)).mpr q)
      refine lv_iload_n hx hb dX1_unlikeTold_21 rfl (lv_at hl 1 rfl) ?_
      refine lv_aload_n hx hb dX1_unlikeTold_22 rfl (lv_at hl 2 rfl) ?_
      refine z_get C G clX1 0 rfl 0 (by decide) m_fl_RX1_12 rfl dX1_unlikeTold_23 ?_
      have G : zS T A s.heap s [[zO1 h po a1_1 v0 la v1 v2 v3 v4 v5 v6 v7], [zAr T 0 a1_1 7 fw], [zO6 po la a1_2 a2_3 st wh a3_4], [zAr T 0 a1_2 7 f1], [zAr T 0 a2_3 7 f2], [zAr T 0 a3_4 7 f3], [zO4 la cr inn a1_5 a2_6 a3_7 a4_8], [zAr T 0 a1_5 7 k1], [zAr T 0 a2_6 28 k2], [zAr T 0 a3_7 7 k3], [zAr T 0 a4_8 7 k4]] _ _ := G.re rfl
      refine z_get C G clX6 2 rfl 1 (by decide) m_fl_RX1_154 rfl dX1_unlikeTold_26 ?_
      refine lv_iload_n hx hb dX1_unlikeTold_29 rfl (lv_at hl 0 rfl) ?_
      refine z_ild C G 3 rfl (vp_in_nI (by omega) (by decide)) dX1_unlikeTold_30 ?_
      refine lv_topi (fun v_18 ev_18 => ?_)
      rw [nI_clamp (by omega)] at ev_18
      subst ev_18
      refine lv_aload_n hx hb dX1_unlikeTold_31 rfl (lv_at hl 2 rfl) ?_
      refine z_get C G clX1 0 rfl 3 (by decide) m_fl_RX1_25 rfl dX1_unlikeTold_32 ?_
      refine z_get C G clX4 6 rfl 4 (by decide) m_fl_RX1_163 rfl dX1_unlikeTold_35 ?_
      refine lv_iload_n hx hb dX1_unlikeTold_38 rfl (lv_at hl 0 rfl) ?_
      refine z_ild C G 9 rfl (vp_in_nI (by omega) (by decide)) dX1_unlikeTold_39 ?_
      refine lv_topi (fun v_19 ev_19 => ?_)
      rw [nI_clamp (by omega)] at ev_19
      subst ev_19
      refine lv_icmp_eq (tgt := 49) hx hb dX1_unlikeTold_40 (by decide) (fun c_20 => ?_) (fun c_20 => ?_)
      · have c_20n : (f1 i).toInt = (k3 i).toInt := (fa_eq _ _).mp c_20
        refine lv_iconst (v := 0) hx hb dX1_unlikeTold_49 (by decide) ?_
        refine lv_ior hx hb dX1_unlikeTold_50 ?_
        refine lv_istore_n (lv' := [(1, .int (u ||| 0)), (2, .int (nI i)), (0, .ref h)]) hx hb dX1_unlikeTold_51 rfl hl (by decide) (zLvf_h rfl) (fun ls hl => ?_)
        refine lv_iinc (v := nI (i + 1)) (lv' := [(2, .int (nI (i + 1))), (1, .int (u ||| 0)), (0, .ref h)]) hx hb dX1_unlikeTold_52 hl (k := 1) rfl (z_inc i 1) (by decide) (zLvf_h rfl) (fun ls hl => ?_)
        refine lv_goto (tgt := 4) hx hb dX1_unlikeTold_55 (by decide) ?_
        have hw_21 : bCourse T h po la fw v0 v1 v2 v3 v4 v5 v6 v7 [zO1 h po a1_1 v0 la v1 v2 v3 v4 v5 v6 v7, zAr T 0 a1_1 7 fw] := ⟨a1_1, rfl⟩
        have G : zS T A s.heap s [[zO1 h po a1_1 v0 la v1 v2 v3 v4 v5 v6 v7, zAr T 0 a1_1 7 fw], [zO6 po la a1_2 a2_3 st wh a3_4], [zAr T 0 a1_2 7 f1], [zAr T 0 a2_3 7 f2], [zAr T 0 a3_4 7 f3], [zO4 la cr inn a1_5 a2_6 a3_7 a4_8], [zAr T 0 a1_5 7 k1], [zAr T 0 a2_6 28 k2], [zAr T 0 a3_7 7 k3], [zAr T 0 a4_8 7 k4]] _ _ := G.re rfl
        have hw_22 : bPosts T po la f1 f2 f3 st wh [zO6 po la a1_2 a2_3 st wh a3_4, zAr T 0 a1_2 7 f1, zAr T 0 a2_3 7 f2, zAr T 0 a3_4 7 f3] := ⟨a1_2, a2_3, a3_4, rfl⟩
        have G : zS T A s.heap s [[zO1 h po a1_1 v0 la v1 v2 v3 v4 v5 v6 v7, zAr T 0 a1_1 7 fw], [zO6 po la a1_2 a2_3 st wh a3_4, zAr T 0 a1_2 7 f1, zAr T 0 a2_3 7 f2, zAr T 0 a3_4 7 f3], [zO4 la cr inn a1_5 a2_6 a3_7 a4_8], [zAr T 0 a1_5 7 k1], [zAr T 0 a2_6 28 k2], [zAr T 0 a3_7 7 k3], [zAr T 0 a4_8 7 k4]] _ _ := G.re rfl
        have hw_23 : bLand T la cr inn k1 k2 k3 k4 [zO4 la cr inn a1_5 a2_6 a3_7 a4_8, zAr T 0 a1_5 7 k1, zAr T 0 a2_6 28 k2, zAr T 0 a3_7 7 k3, zAr T 0 a4_8 7 k4] := ⟨a1_5, a2_6, a3_7, a4_8, rfl⟩
        have G : zS T A s.heap s [[zO1 h po a1_1 v0 la v1 v2 v3 v4 v5 v6 v7, zAr T 0 a1_1 7 fw], [zO6 po la a1_2 a2_3 st wh a3_4, zAr T 0 a1_2 7 f1, zAr T 0 a2_3 7 f2, zAr T 0 a3_4 7 f3], [zO4 la cr inn a1_5 a2_6 a3_7 a4_8, zAr T 0 a1_5 7 k1, zAr T 0 a2_6 28 k2, zAr T 0 a3_7 7 k3, zAr T 0 a4_8 7 k4]] _ _ := G.re rfl
        exact ih_4 (i + 1) (u ||| 0) (show (i + 1) ≤ cr.toInt.toNat ∧ (i + 1) ≤ 7 from ⟨by omega, by omega⟩) (show 7 - (i + 1) < 7 - i from by omega) _ _ ls G (lv_sub hl [0, 1, 2] rfl)
      · have c_20n : ¬ (f1 i).toInt = (k3 i).toInt := fun q => c_20 ((fa_eq _ _).mpr q)
        refine lv_iconst (v := 1) hx hb dX1_unlikeTold_43 (by decide) ?_
        refine lv_iload_n hx hb dX1_unlikeTold_44 rfl (lv_at hl 0 rfl) ?_
        refine lv_ishl hx hb dX1_unlikeTold_45 ?_
        refine lv_goto (tgt := 50) hx hb dX1_unlikeTold_46 (by decide) ?_
        refine lv_ior hx hb dX1_unlikeTold_50 ?_
        refine lv_istore_n (lv' := [(1, .int (u ||| (1 <<< ((nI i) &&& 31)))), (2, .int (nI i)), (0, .ref h)]) hx hb dX1_unlikeTold_51 rfl hl (by decide) (zLvf_h rfl) (fun ls hl => ?_)
        refine lv_iinc (v := nI (i + 1)) (lv' := [(2, .int (nI (i + 1))), (1, .int (u ||| (1 <<< ((nI i) &&& 31)))), (0, .ref h)]) hx hb dX1_unlikeTold_52 hl (k := 1) rfl (z_inc i 1) (by decide) (zLvf_h rfl) (fun ls hl => ?_)
        refine lv_goto (tgt := 4) hx hb dX1_unlikeTold_55 (by decide) ?_
        have hw_24 : bCourse T h po la fw v0 v1 v2 v3 v4 v5 v6 v7 [zO1 h po a1_1 v0 la v1 v2 v3 v4 v5 v6 v7, zAr T 0 a1_1 7 fw] := ⟨a1_1, rfl⟩
        have G : zS T A s.heap s [[zO1 h po a1_1 v0 la v1 v2 v3 v4 v5 v6 v7, zAr T 0 a1_1 7 fw], [zO6 po la a1_2 a2_3 st wh a3_4], [zAr T 0 a1_2 7 f1], [zAr T 0 a2_3 7 f2], [zAr T 0 a3_4 7 f3], [zO4 la cr inn a1_5 a2_6 a3_7 a4_8], [zAr T 0 a1_5 7 k1], [zAr T 0 a2_6 28 k2], [zAr T 0 a3_7 7 k3], [zAr T 0 a4_8 7 k4]] _ _ := G.re rfl
        have hw_25 : bPosts T po la f1 f2 f3 st wh [zO6 po la a1_2 a2_3 st wh a3_4, zAr T 0 a1_2 7 f1, zAr T 0 a2_3 7 f2, zAr T 0 a3_4 7 f3] := ⟨a1_2, a2_3, a3_4, rfl⟩
        have G : zS T A s.heap s [[zO1 h po a1_1 v0 la v1 v2 v3 v4 v5 v6 v7, zAr T 0 a1_1 7 fw], [zO6 po la a1_2 a2_3 st wh a3_4, zAr T 0 a1_2 7 f1, zAr T 0 a2_3 7 f2, zAr T 0 a3_4 7 f3], [zO4 la cr inn a1_5 a2_6 a3_7 a4_8], [zAr T 0 a1_5 7 k1], [zAr T 0 a2_6 28 k2], [zAr T 0 a3_7 7 k3], [zAr T 0 a4_8 7 k4]] _ _ := G.re rfl
        have hw_26 : bLand T la cr inn k1 k2 k3 k4 [zO4 la cr inn a1_5 a2_6 a3_7 a4_8, zAr T 0 a1_5 7 k1, zAr T 0 a2_6 28 k2, zAr T 0 a3_7 7 k3, zAr T 0 a4_8 7 k4] := ⟨a1_5, a2_6, a3_7, a4_8, rfl⟩
        have G : zS T A s.heap s [[zO1 h po a1_1 v0 la v1 v2 v3 v4 v5 v6 v7, zAr T 0 a1_1 7 fw], [zO6 po la a1_2 a2_3 st wh a3_4, zAr T 0 a1_2 7 f1, zAr T 0 a2_3 7 f2, zAr T 0 a3_4 7 f3], [zO4 la cr inn a1_5 a2_6 a3_7 a4_8, zAr T 0 a1_5 7 k1, zAr T 0 a2_6 28 k2, zAr T 0 a3_7 7 k3, zAr T 0 a4_8 7 k4]] _ _ := G.re rfl
        exact ih_4 (i + 1) (u ||| (1 <<< ((nI i) &&& 31))) (show (i + 1) ≤ cr.toInt.toNat ∧ (i + 1) ≤ 7 from ⟨by omega, by omega⟩) (show 7 - (i + 1) < 7 - i from by omega) _ _ ls G (lv_sub hl [0, 1, 2] rfl)
set_option maxHeartbeats 4000000 in
set_option maxRecDepth 100000 in
/-- c_toldAfter -/
theorem c_toldAfter (l : Launch) (T : zTy) (h : Nat) (po : Nat) (la : Nat) (fw : Nat → Int32) (v0 : Int32) (v1 : Int32) (v2 : Int32) (v3 : Int32) (v4 : Int32) (v5 : Int32) (v6 : Int32) (v7 : Int32) (wc : va_W) (f1 : Nat → Int32) (f2 : Nat → Int32) (f3 : Nat → Int32) (st : Int32) (wh : Int32) (wp : va_W) (cr : Int32) (inn : Int32) (k1 : Nat → Int32) (k2 : Nat → Int32) (k3 : Nat → Int32) (k4 : Nat → Int32) (z : va_W) (x : Int32) (hc : bCourse T h po la fw v0 v1 v2 v3 v4 v5 v6 v7 wc) (hp : bPosts T po la f1 f2 f3 st wh wp) (hz : bLand T la cr inn k1 k2 k3 k4 z) (hI : zLI cr k1 k3) : zMi l T yX1_toldAfter cX1_toldAfter 2 (some .int) 2 0 0 [.ref h, .int x] [wc, wp, z] (fun (r : Int32) bs => bs = [wc, wp, z]) := by
  refine zMi_of (own := RX1) (by decide) rfl (Nat.le_of_ble_eq_true rfl) ?_
  intro p e s m args below meth c A ls C hr hlocks hnm hAe G hl
  refine zHide (fun Qz_ hQz_ => ?_)
  have hx := C.1
  have hb := C.2.1
  have hl : lv_has ls 2 [(0, .ref h), (1, .int x)] := hl
  refine lv_iload_n hx hb dX1_toldAfter_0 rfl (lv_at hl 1 rfl) ?_
  by_cases c_1o : x.toInt < 0 ∨ 4 < x.toInt
  · refine lv_tableOut (tgt := 61) hx hb dX1_toldAfter_1 c_1o (by decide) ?_
    refine lv_bipush (v := (-2)) hx hb dX1_toldAfter_61 (by decide) ?_
    exact z_back hQz_ (z_iret C hr hlocks G (Nat.le_of_ble_eq_true rfl) (Nat.le_of_ble_eq_true rfl) dX1_toldAfter_63 rfl)
  · have c_1r : x.toInt = 0 ∨ x.toInt = 1 ∨ x.toInt = 2 ∨ x.toInt = 3 ∨ x.toInt = 4 := by omega
    rcases c_1r with c_1 | c_1 | c_1 | c_1 | c_1
    · refine lv_tableIn (tgt := 36) hx hb dX1_toldAfter_1 (by first | (rw [c_1]; decide) | omega) (by first | (rw [c_1]; decide) | omega) (by rw [c_1]; rfl) (by decide) ?_
      refine lv_aload_n hx hb dX1_toldAfter_36 rfl (lv_at hl 0 rfl) ?_
      refine zEx1 hc ?_
      intro a1_2 hbs9
      clear hc
      subst hbs9
      have G : zS T A s.heap s [[zO1 h po a1_2 v0 la v1 v2 v3 v4 v5 v6 v7], [zAr T 0 a1_2 7 fw], wp, z] _ _ := G.re rfl
      refine z_get C G clX1 0 rfl 6 (by decide) m_fl_RX1_44 rfl dX1_toldAfter_37 ?_
      have hw_3 : bCourse T h po la fw v0 v1 v2 v3 v4 v5 v6 v7 [zO1 h po a1_2 v0 la v1 v2 v3 v4 v5 v6 v7, zAr T 0 a1_2 7 fw] := ⟨a1_2, rfl⟩
      have G : zS T A s.heap s [[zO1 h po a1_2 v0 la v1 v2 v3 v4 v5 v6 v7, zAr T 0 a1_2 7 fw], wp, z] _ _ := G.re rfl
      exact z_back hQz_ (z_iret C hr hlocks G (Nat.le_of_ble_eq_true rfl) (Nat.le_of_ble_eq_true rfl) dX1_toldAfter_40 rfl)
    · refine lv_tableIn (tgt := 41) hx hb dX1_toldAfter_1 (by first | (rw [c_1]; decide) | omega) (by first | (rw [c_1]; decide) | omega) (by rw [c_1]; rfl) (by decide) ?_
      refine lv_aload_n hx hb dX1_toldAfter_41 rfl (lv_at hl 0 rfl) ?_
      refine zEx1 hc ?_
      intro a1_4 hbs9
      clear hc
      subst hbs9
      have G : zS T A s.heap s [[zO1 h po a1_4 v0 la v1 v2 v3 v4 v5 v6 v7], [zAr T 0 a1_4 7 fw], wp, z] _ _ := G.re rfl
      refine z_get C G clX1 0 rfl 7 (by decide) m_fl_RX1_47 rfl dX1_toldAfter_42 ?_
      have hw_5 : bCourse T h po la fw v0 v1 v2 v3 v4 v5 v6 v7 [zO1 h po a1_4 v0 la v1 v2 v3 v4 v5 v6 v7, zAr T 0 a1_4 7 fw] := ⟨a1_4, rfl⟩
      have G : zS T A s.heap s [[zO1 h po a1_4 v0 la v1 v2 v3 v4 v5 v6 v7, zAr T 0 a1_4 7 fw], wp, z] _ _ := G.re rfl
      exact z_back hQz_ (z_iret C hr hlocks G (Nat.le_of_ble_eq_true rfl) (Nat.le_of_ble_eq_true rfl) dX1_toldAfter_45 rfl)
    · refine lv_tableIn (tgt := 46) hx hb dX1_toldAfter_1 (by first | (rw [c_1]; decide) | omega) (by first | (rw [c_1]; decide) | omega) (by rw [c_1]; rfl) (by decide) ?_
      refine lv_aload_n hx hb dX1_toldAfter_46 rfl (lv_at hl 0 rfl) ?_
      refine zEx1 hc ?_
      intro a1_6 hbs9
      clear hc
      subst hbs9
      have G : zS T A s.heap s [[zO1 h po a1_6 v0 la v1 v2 v3 v4 v5 v6 v7], [zAr T 0 a1_6 7 fw], wp, z] _ _ := G.re rfl
      refine z_get C G clX1 0 rfl 8 (by decide) m_fl_RX1_50 rfl dX1_toldAfter_47 ?_
      have hw_7 : bCourse T h po la fw v0 v1 v2 v3 v4 v5 v6 v7 [zO1 h po a1_6 v0 la v1 v2 v3 v4 v5 v6 v7, zAr T 0 a1_6 7 fw] := ⟨a1_6, rfl⟩
      have G : zS T A s.heap s [[zO1 h po a1_6 v0 la v1 v2 v3 v4 v5 v6 v7, zAr T 0 a1_6 7 fw], wp, z] _ _ := G.re rfl
      exact z_back hQz_ (z_iret C hr hlocks G (Nat.le_of_ble_eq_true rfl) (Nat.le_of_ble_eq_true rfl) dX1_toldAfter_50 rfl)
    · refine lv_tableIn (tgt := 51) hx hb dX1_toldAfter_1 (by first | (rw [c_1]; decide) | omega) (by first | (rw [c_1]; decide) | omega) (by rw [c_1]; rfl) (by decide) ?_
      refine lv_aload_n hx hb dX1_toldAfter_51 rfl (lv_at hl 0 rfl) ?_
      refine zEx1 hc ?_
      intro a1_8 hbs9
      clear hc
      subst hbs9
      have G : zS T A s.heap s [[zO1 h po a1_8 v0 la v1 v2 v3 v4 v5 v6 v7], [zAr T 0 a1_8 7 fw], wp, z] _ _ := G.re rfl
      refine z_get C G clX1 0 rfl 9 (by decide) m_fl_RX1_53 rfl dX1_toldAfter_52 ?_
      have hw_9 : bCourse T h po la fw v0 v1 v2 v3 v4 v5 v6 v7 [zO1 h po a1_8 v0 la v1 v2 v3 v4 v5 v6 v7, zAr T 0 a1_8 7 fw] := ⟨a1_8, rfl⟩
      have G : zS T A s.heap s [[zO1 h po a1_8 v0 la v1 v2 v3 v4 v5 v6 v7, zAr T 0 a1_8 7 fw], wp, z] _ _ := G.re rfl
      exact z_back hQz_ (z_iret C hr hlocks G (Nat.le_of_ble_eq_true rfl) (Nat.le_of_ble_eq_true rfl) dX1_toldAfter_55 rfl)
    · refine lv_tableIn (tgt := 56) hx hb dX1_toldAfter_1 (by first | (rw [c_1]; decide) | omega) (by first | (rw [c_1]; decide) | omega) (by rw [c_1]; rfl) (by decide) ?_
      refine lv_aload_n hx hb dX1_toldAfter_56 rfl (lv_at hl 0 rfl) ?_
      refine z_Vi (bc := [wc, wp, z]) (br := []) (As := []) (rest := []) C G (c_unlikeTold l T h po la fw v0 v1 v2 v3 v4 v5 v6 v7 wc f1 f2 f3 st wh wp cr inn k1 k2 k3 k4 z hc hp hz (by first | with_reducible assumption | with_reducible rfl | omega | assumption | rfl)) (kV_RX1_159 C.2.2.2.2 (Nat.le_of_ble_eq_true rfl) (Nat.le_of_ble_eq_true rfl)) [0, 1, 2] [0, 0, 0] rfl rfl (ci := 1) (qc := (RX1, TX1, 11)) rfl rfl (List.mem_flatten.mpr ⟨_, List.mem_of_getElem? (i := 0) rfl, (bCourse_mem hc).choose_spec⟩) rfl rfl hl.1 dX1_toldAfter_57 (Nat.le_of_ble_eq_true rfl) (Nat.le_of_ble_eq_true rfl) (fun r_10 b1 H locs hw G => ?_)
      obtain rfl := hw
      have G : zS T A s.heap s [wc, wp, z] _ _ := G
      exact z_back hQz_ (z_iret C hr hlocks G (Nat.le_of_ble_eq_true rfl) (Nat.le_of_ble_eq_true rfl) dX1_toldAfter_60 rfl)
set_option maxHeartbeats 4000000 in
set_option maxRecDepth 100000 in
/-- c_Course_told -/
theorem c_Course_told (l : Launch) (T : zTy) (h : Nat) (po : Nat) (la : Nat) (fw : Nat → Int32) (v0 : Int32) (v1 : Int32) (v2 : Int32) (v3 : Int32) (v4 : Int32) (v5 : Int32) (v6 : Int32) (v7 : Int32) (wc : va_W) (f1 : Nat → Int32) (f2 : Nat → Int32) (f3 : Nat → Int32) (st : Int32) (wh : Int32) (wp : va_W) (cr : Int32) (inn : Int32) (k1 : Nat → Int32) (k2 : Nat → Int32) (k3 : Nat → Int32) (k4 : Nat → Int32) (z : va_W) (x : Int32) (hc : bCourse T h po la fw v0 v1 v2 v3 v4 v5 v6 v7 wc) (hp : bPosts T po la f1 f2 f3 st wh wp) (hz : bLand T la cr inn k1 k2 k3 k4 z) (hI : zLI cr k1 k3) : zMi l T yX1_told cX1_told 3 (some .int) 4 0 0 [.ref h, .int x] [wc, wp, z] (fun (r : Int32) bs => bs = [wc, wp, z]) := by
  refine zMi_of (own := RX1) (by decide) rfl (Nat.le_of_ble_eq_true rfl) ?_
  intro p e s m args below meth c A ls C hr hlocks hnm hAe G hl
  refine zHide (fun Qz_ hQz_ => ?_)
  have hx := C.1
  have hb := C.2.1
  have hl : lv_has ls 3 [(0, .ref h), (1, .int x)] := hl
  refine lv_iload_n hx hb dX1_told_0 rfl (lv_at hl 1 rfl) ?_
  by_cases c_1o : x.toInt < 0 ∨ 3 < x.toInt
  · refine lv_tableOut (tgt := 54) hx hb dX1_told_1 c_1o (by decide) ?_
    refine lv_iload_n hx hb dX1_told_54 rfl (lv_at hl 1 rfl) ?_
    refine lv_bipush (v := 10) hx hb dX1_told_55 (by decide) ?_
    refine lv_irem hx hb dX1_told_57 (by decide) ?_
    refine lv_istore_n (lv' := [(2, .int (x - x / 10 * 10)), (0, .ref h), (1, .int x)]) hx hb dX1_told_58 rfl hl (by decide) (zLvf_h rfl) (fun ls hl => ?_)
    refine lv_aload_n hx hb dX1_told_59 rfl (lv_at hl 1 rfl) ?_
    refine zEx1 hc ?_
    intro a1_2 hbs9
    clear hc
    subst hbs9
    have G : zS T A s.heap s [[zO1 h po a1_2 v0 la v1 v2 v3 v4 v5 v6 v7], [zAr T 0 a1_2 7 fw], wp, z] _ _ := G.re rfl
    refine z_get C G clX1 0 rfl 3 (by decide) m_fl_RX1_25 rfl dX1_told_60 ?_
    refine lv_iload_n hx hb dX1_told_63 rfl (lv_at hl 0 rfl) ?_
    refine z_Vi (bc := [z]) (br := [[zO1 h po a1_2 v0 la v1 v2 v3 v4 v5 v6 v7], [zAr T 0 a1_2 7 fw], wp]) (As := [.int (x - x / 10 * 10)]) (rest := []) C G (c_has l T la cr inn k1 k2 k3 k4 z (x - x / 10 * 10) hz) (kV_RX1_112 C.2.2.2.2 (Nat.le_of_ble_eq_true rfl) (Nat.le_of_ble_eq_true rfl)) [3] [3] rfl rfl (ci := 4) (qc := (RX4, TX4, 6)) rfl rfl (List.mem_flatten.mpr ⟨_, List.mem_of_getElem? (i := 0) rfl, (bLand_mem hz).choose_spec⟩) rfl rfl hl.1 dX1_told_64 (Nat.le_of_ble_eq_true rfl) (Nat.le_of_ble_eq_true rfl) (fun r_4 b1 H locs hw G => ?_)
    refine zAn2 hw ?_
    intro hbs9 hc_3
    clear hw
    subst hbs9
    have G : zS T A s.heap s [[zO1 h po a1_2 v0 la v1 v2 v3 v4 v5 v6 v7], [zAr T 0 a1_2 7 fw], wp, z] _ _ := G
    rcases hc_3 with ⟨rfl, h_5, h_6, h_7⟩ | ⟨rfl, h_8⟩
    · have h_5 : 0 ≤ (x - x / 10 * 10).toInt := h_5
      have h_6 : (x - x / 10 * 10).toInt < cr.toInt := h_6
      have h_7 : (x - x / 10 * 10).toInt < 7 := h_7
      refine lv_if_ne (tgt := 73) hx hb dX1_told_67 (by decide) (fun _ => ?_) (fun q => absurd q (by decide))
      refine lv_iload_n hx hb dX1_told_73 rfl (lv_at hl 2 rfl) ?_
      refine lv_bipush (v := 10) hx hb dX1_told_74 (by decide) ?_
      refine lv_idiv hx hb dX1_told_76 (by decide) ?_
      by_cases c_9o : (x / 10).toInt < 1 ∨ 3 < (x / 10).toInt
      · refine lv_tableOut (tgt := 131) hx hb dX1_told_77 c_9o (by decide) ?_
        refine lv_bipush (v := (-2)) hx hb dX1_told_131 (by decide) ?_
        have hw_10 : bCourse T h po la fw v0 v1 v2 v3 v4 v5 v6 v7 [zO1 h po a1_2 v0 la v1 v2 v3 v4 v5 v6 v7, zAr T 0 a1_2 7 fw] := ⟨a1_2, rfl⟩
        have G : zS T A s.heap s [[zO1 h po a1_2 v0 la v1 v2 v3 v4 v5 v6 v7, zAr T 0 a1_2 7 fw], wp, z] _ _ := G.re rfl
        exact z_back hQz_ (z_iret C hr hlocks G (Nat.le_of_ble_eq_true rfl) (Nat.le_of_ble_eq_true rfl) dX1_told_133 rfl)
      · have c_9r : (x / 10).toInt = 1 ∨ (x / 10).toInt = 2 ∨ (x / 10).toInt = 3 := by omega
        rcases c_9r with c_9 | c_9 | c_9
        · refine lv_tableIn (tgt := 104) hx hb dX1_told_77 (by first | (rw [c_9]; decide) | omega) (by first | (rw [c_9]; decide) | omega) (by rw [c_9]; rfl) (by decide) ?_
          refine lv_aload_n hx hb dX1_told_104 rfl (lv_at hl 1 rfl) ?_
          refine z_get C G clX1 0 rfl 0 (by decide) m_fl_RX1_12 rfl dX1_told_105 ?_
          refine zEx3 hp ?_
          intro a1_11 a2_12 a3_13 hbs9
          clear hp
          subst hbs9
          have G : zS T A s.heap s [[zO1 h po a1_2 v0 la v1 v2 v3 v4 v5 v6 v7], [zAr T 0 a1_2 7 fw], [zO6 po la a1_11 a2_12 st wh a3_13], [zAr T 0 a1_11 7 f1], [zAr T 0 a2_12 7 f2], [zAr T 0 a3_13 7 f3], z] _ _ := G.re rfl
          refine z_get C G clX6 2 rfl 1 (by decide) m_fl_RX1_154 rfl dX1_told_108 ?_
          refine lv_iload_n hx hb dX1_told_111 rfl (lv_at hl 0 rfl) ?_
          refine z_ild C G 3 rfl (vp_in_iff.mpr ⟨by omega, by omega⟩) dX1_told_112 ?_
          refine lv_topi (fun v_14 ev_14 => ?_)
          subst ev_14
          have hw_15 : bCourse T h po la fw v0 v1 v2 v3 v4 v5 v6 v7 [zO1 h po a1_2 v0 la v1 v2 v3 v4 v5 v6 v7, zAr T 0 a1_2 7 fw] := ⟨a1_2, rfl⟩
          have G : zS T A s.heap s [[zO1 h po a1_2 v0 la v1 v2 v3 v4 v5 v6 v7, zAr T 0 a1_2 7 fw], [zO6 po la a1_11 a2_12 st wh a3_13], [zAr T 0 a1_11 7 f1], [zAr T 0 a2_12 7 f2], [zAr T 0 a3_13 7 f3], z] _ _ := G.re rfl
          have hw_16 : bPosts T po la f1 f2 f3 st wh [zO6 po la a1_11 a2_12 st wh a3_13, zAr T 0 a1_11 7 f1, zAr T 0 a2_12 7 f2, zAr T 0 a3_13 7 f3] := ⟨a1_11, a2_12, a3_13, rfl⟩
          have G : zS T A s.heap s [[zO1 h po a1_2 v0 la v1 v2 v3 v4 v5 v6 v7, zAr T 0 a1_2 7 fw], [zO6 po la a1_11 a2_12 st wh a3_13, zAr T 0 a1_11 7 f1, zAr T 0 a2_12 7 f2, zAr T 0 a3_13 7 f3], z] _ _ := G.re rfl
          exact z_back hQz_ (z_iret C hr hlocks G (Nat.le_of_ble_eq_true rfl) (Nat.le_of_ble_eq_true rfl) dX1_told_113 rfl)
        · refine lv_tableIn (tgt := 114) hx hb dX1_told_77 (by first | (rw [c_9]; decide) | omega) (by first | (rw [c_9]; decide) | omega) (by rw [c_9]; rfl) (by decide) ?_
          refine lv_aload_n hx hb dX1_told_114 rfl (lv_at hl 1 rfl) ?_
          refine z_get C G clX1 0 rfl 1 (by decide) m_fl_RX1_18 rfl dX1_told_115 ?_
          refine lv_iload_n hx hb dX1_told_118 rfl (lv_at hl 0 rfl) ?_
          refine z_ild C G 1 rfl (vp_in_iff.mpr ⟨by omega, by omega⟩) dX1_told_119 ?_
          refine lv_topi (fun v_17 ev_17 => ?_)
          subst ev_17
          have hw_18 : bCourse T h po la fw v0 v1 v2 v3 v4 v5 v6 v7 [zO1 h po a1_2 v0 la v1 v2 v3 v4 v5 v6 v7, zAr T 0 a1_2 7 fw] := ⟨a1_2, rfl⟩
          have G : zS T A s.heap s [[zO1 h po a1_2 v0 la v1 v2 v3 v4 v5 v6 v7, zAr T 0 a1_2 7 fw], wp, z] _ _ := G.re rfl
          exact z_back hQz_ (z_iret C hr hlocks G (Nat.le_of_ble_eq_true rfl) (Nat.le_of_ble_eq_true rfl) dX1_told_120 rfl)
        · refine lv_tableIn (tgt := 121) hx hb dX1_told_77 (by first | (rw [c_9]; decide) | omega) (by first | (rw [c_9]; decide) | omega) (by rw [c_9]; rfl) (by decide) ?_
          refine lv_aload_n hx hb dX1_told_121 rfl (lv_at hl 1 rfl) ?_
          refine z_get C G clX1 0 rfl 0 (by decide) m_fl_RX1_12 rfl dX1_told_122 ?_
          refine zEx3 hp ?_
          intro a1_19 a2_20 a3_21 hbs9
          clear hp
          subst hbs9
          have G : zS T A s.heap s [[zO1 h po a1_2 v0 la v1 v2 v3 v4 v5 v6 v7], [zAr T 0 a1_2 7 fw], [zO6 po la a1_19 a2_20 st wh a3_21], [zAr T 0 a1_19 7 f1], [zAr T 0 a2_20 7 f2], [zAr T 0 a3_21 7 f3], z] _ _ := G.re rfl
          refine z_get C G clX6 2 rfl 2 (by decide) m_fl_RX1_157 rfl dX1_told_125 ?_
          refine lv_iload_n hx hb dX1_told_128 rfl (lv_at hl 0 rfl) ?_
          refine z_ild C G 4 rfl (vp_in_iff.mpr ⟨by omega, by omega⟩) dX1_told_129 ?_
          refine lv_topi (fun v_22 ev_22 => ?_)
          subst ev_22
          have hw_23 : bCourse T h po la fw v0 v1 v2 v3 v4 v5 v6 v7 [zO1 h po a1_2 v0 la v1 v2 v3 v4 v5 v6 v7, zAr T 0 a1_2 7 fw] := ⟨a1_2, rfl⟩
          have G : zS T A s.heap s [[zO1 h po a1_2 v0 la v1 v2 v3 v4 v5 v6 v7, zAr T 0 a1_2 7 fw], [zO6 po la a1_19 a2_20 st wh a3_21], [zAr T 0 a1_19 7 f1], [zAr T 0 a2_20 7 f2], [zAr T 0 a3_21 7 f3], z] _ _ := G.re rfl
          have hw_24 : bPosts T po la f1 f2 f3 st wh [zO6 po la a1_19 a2_20 st wh a3_21, zAr T 0 a1_19 7 f1, zAr T 0 a2_20 7 f2, zAr T 0 a3_21 7 f3] := ⟨a1_19, a2_20, a3_21, rfl⟩
          have G : zS T A s.heap s [[zO1 h po a1_2 v0 la v1 v2 v3 v4 v5 v6 v7, zAr T 0 a1_2 7 fw], [zO6 po la a1_19 a2_20 st wh a3_21, zAr T 0 a1_19 7 f1, zAr T 0 a2_20 7 f2, zAr T 0 a3_21 7 f3], z] _ _ := G.re rfl
          exact z_back hQz_ (z_iret C hr hlocks G (Nat.le_of_ble_eq_true rfl) (Nat.le_of_ble_eq_true rfl) dX1_told_130 rfl)
    · have h_8 : ((x - x / 10 * 10).toInt < 0 ∨ cr.toInt ≤ (x - x / 10 * 10).toInt ∨ 7 ≤ (x - x / 10 * 10).toInt) := h_8
      refine lv_if_ne (tgt := 73) hx hb dX1_told_67 (by decide) (fun q => absurd (by decide) q) (fun _ => ?_)
      refine lv_bipush (v := (-2)) hx hb dX1_told_70 (by decide) ?_
      have hw_25 : bCourse T h po la fw v0 v1 v2 v3 v4 v5 v6 v7 [zO1 h po a1_2 v0 la v1 v2 v3 v4 v5 v6 v7, zAr T 0 a1_2 7 fw] := ⟨a1_2, rfl⟩
      have G : zS T A s.heap s [[zO1 h po a1_2 v0 la v1 v2 v3 v4 v5 v6 v7, zAr T 0 a1_2 7 fw], wp, z] _ _ := G.re rfl
      exact z_back hQz_ (z_iret C hr hlocks G (Nat.le_of_ble_eq_true rfl) (Nat.le_of_ble_eq_true rfl) dX1_told_72 rfl)
  · have c_1r : x.toInt = 0 ∨ x.toInt = 1 ∨ x.toInt = 2 ∨ x.toInt = 3 := by omega
    rcases c_1r with c_1 | c_1 | c_1 | c_1
    · refine lv_tableIn (tgt := 32) hx hb dX1_told_1 (by first | (rw [c_1]; decide) | omega) (by first | (rw [c_1]; decide) | omega) (by rw [c_1]; rfl) (by decide) ?_
      refine lv_aload_n hx hb dX1_told_32 rfl (lv_at hl 0 rfl) ?_
      refine zEx1 hc ?_
      intro a1_26 hbs9
      clear hc
      subst hbs9
      have G : zS T A s.heap s [[zO1 h po a1_26 v0 la v1 v2 v3 v4 v5 v6 v7], [zAr T 0 a1_26 7 fw], wp, z] _ _ := G.re rfl
      refine z_get C G clX1 0 rfl 2 (by decide) m_fl_RX1_34 rfl dX1_told_33 ?_
      have hw_27 : bCourse T h po la fw v0 v1 v2 v3 v4 v5 v6 v7 [zO1 h po a1_26 v0 la v1 v2 v3 v4 v5 v6 v7, zAr T 0 a1_26 7 fw] := ⟨a1_26, rfl⟩
      have G : zS T A s.heap s [[zO1 h po a1_26 v0 la v1 v2 v3 v4 v5 v6 v7, zAr T 0 a1_26 7 fw], wp, z] _ _ := G.re rfl
      exact z_back hQz_ (z_iret C hr hlocks G (Nat.le_of_ble_eq_true rfl) (Nat.le_of_ble_eq_true rfl) dX1_told_36 rfl)
    · refine lv_tableIn (tgt := 37) hx hb dX1_told_1 (by first | (rw [c_1]; decide) | omega) (by first | (rw [c_1]; decide) | omega) (by rw [c_1]; rfl) (by decide) ?_
      refine lv_aload_n hx hb dX1_told_37 rfl (lv_at hl 0 rfl) ?_
      refine lv_iconst (v := 1) hx hb dX1_told_38 (by decide) ?_
      refine z_Vi (bc := [wc, z]) (br := [wp]) (As := [.int 1]) (rest := []) C G (c_walkersInAll l T h po la fw v0 v1 v2 v3 v4 v5 v6 v7 wc cr inn k1 k2 k3 k4 z 1 hc hz (by first | with_reducible assumption | with_reducible rfl | omega | assumption | rfl)) (kV_RX1_150 C.2.2.2.2 (Nat.le_of_ble_eq_true rfl) (Nat.le_of_ble_eq_true rfl)) [0, 2] [0, 1] rfl rfl (ci := 1) (qc := (RX1, TX1, 11)) rfl rfl (List.mem_flatten.mpr ⟨_, List.mem_of_getElem? (i := 0) rfl, (bCourse_mem hc).choose_spec⟩) rfl rfl hl.1 dX1_told_39 (Nat.le_of_ble_eq_true rfl) (Nat.le_of_ble_eq_true rfl) (fun r_28 b1 H locs hw G => ?_)
      obtain rfl := hw
      have G : zS T A s.heap s [wp, wc, z] _ _ := G
      have G := G.sub (bs' := [wc, wp, z]) [1, 0, 2] rfl
      exact z_back hQz_ (z_iret C hr hlocks G (Nat.le_of_ble_eq_true rfl) (Nat.le_of_ble_eq_true rfl) dX1_told_42 rfl)
    · refine lv_tableIn (tgt := 43) hx hb dX1_told_1 (by first | (rw [c_1]; decide) | omega) (by first | (rw [c_1]; decide) | omega) (by rw [c_1]; rfl) (by decide) ?_
      refine lv_aload_n hx hb dX1_told_43 rfl (lv_at hl 0 rfl) ?_
      refine lv_iconst (v := 0) hx hb dX1_told_44 (by decide) ?_
      refine z_Vi (bc := [wc, z]) (br := [wp]) (As := [.int 0]) (rest := []) C G (c_walkersInAll l T h po la fw v0 v1 v2 v3 v4 v5 v6 v7 wc cr inn k1 k2 k3 k4 z 0 hc hz (by first | with_reducible assumption | with_reducible rfl | omega | assumption | rfl)) (kV_RX1_150 C.2.2.2.2 (Nat.le_of_ble_eq_true rfl) (Nat.le_of_ble_eq_true rfl)) [0, 2] [0, 1] rfl rfl (ci := 1) (qc := (RX1, TX1, 11)) rfl rfl (List.mem_flatten.mpr ⟨_, List.mem_of_getElem? (i := 0) rfl, (bCourse_mem hc).choose_spec⟩) rfl rfl hl.1 dX1_told_45 (Nat.le_of_ble_eq_true rfl) (Nat.le_of_ble_eq_true rfl) (fun r_29 b1 H locs hw G => ?_)
      obtain rfl := hw
      have G : zS T A s.heap s [wp, wc, z] _ _ := G
      have G := G.sub (bs' := [wc, wp, z]) [1, 0, 2] rfl
      exact z_back hQz_ (z_iret C hr hlocks G (Nat.le_of_ble_eq_true rfl) (Nat.le_of_ble_eq_true rfl) dX1_told_48 rfl)
    · refine lv_tableIn (tgt := 49) hx hb dX1_told_1 (by first | (rw [c_1]; decide) | omega) (by first | (rw [c_1]; decide) | omega) (by rw [c_1]; rfl) (by decide) ?_
      refine lv_aload_n hx hb dX1_told_49 rfl (lv_at hl 0 rfl) ?_
      refine zEx1 hc ?_
      intro a1_30 hbs9
      clear hc
      subst hbs9
      have G : zS T A s.heap s [[zO1 h po a1_30 v0 la v1 v2 v3 v4 v5 v6 v7], [zAr T 0 a1_30 7 fw], wp, z] _ _ := G.re rfl
      refine z_get C G clX1 0 rfl 4 (by decide) m_fl_RX1_38 rfl dX1_told_50 ?_
      have hw_31 : bCourse T h po la fw v0 v1 v2 v3 v4 v5 v6 v7 [zO1 h po a1_30 v0 la v1 v2 v3 v4 v5 v6 v7, zAr T 0 a1_30 7 fw] := ⟨a1_30, rfl⟩
      have G : zS T A s.heap s [[zO1 h po a1_30 v0 la v1 v2 v3 v4 v5 v6 v7, zAr T 0 a1_30 7 fw], wp, z] _ _ := G.re rfl
      exact z_back hQz_ (z_iret C hr hlocks G (Nat.le_of_ble_eq_true rfl) (Nat.le_of_ble_eq_true rfl) dX1_told_53 rfl)
set_option maxHeartbeats 4000000 in
set_option maxRecDepth 100000 in
/-- c_move -/
theorem c_move (l : Launch) (T : zTy) (h : Nat) (po : Nat) (la : Nat) (fw : Nat → Int32) (v0 : Int32) (v1 : Int32) (v2 : Int32) (v3 : Int32) (v4 : Int32) (v5 : Int32) (v6 : Int32) (v7 : Int32) (wc : va_W) (cr : Int32) (inn : Int32) (k1 : Nat → Int32) (k2 : Nat → Int32) (k3 : Nat → Int32) (k4 : Nat → Int32) (z : va_W) (x : Int32) (y : Int32) (hc : bCourse T h po la fw v0 v1 v2 v3 v4 v5 v6 v7 wc) (hz : bLand T la cr inn k1 k2 k3 k4 z) : zMv l T yX1_move cX1_move 3 3 0 0 [.ref h, .int x, .int y] [wc, z] (fun bs => ∃ (wc2 : va_W) (gw : Nat → Int32) (u0 : Int32) (u1 : Int32) (u2 : Int32) (u3 : Int32) (u4 : Int32) (u5 : Int32) (u6 : Int32) (u7 : Int32), bs = [wc2, z] ∧ bCourse T h po la gw u0 u1 u2 u3 u4 u5 u6 u7 wc2) := by
  refine zMv_of (own := RX1) (by decide) rfl (Nat.le_of_ble_eq_true rfl) ?_
  intro p e s m args below meth c A ls C hr hlocks hnm hAe G hl
  refine zHide (fun Qz_ hQz_ => ?_)
  have hx := C.1
  have hb := C.2.1
  have hl : lv_has ls 3 [(0, .ref h), (1, .int x), (2, .int y)] := hl
  refine lv_aload_n hx hb dX1_move_0 rfl (lv_at hl 0 rfl) ?_
  refine zEx1 hc ?_
  intro a1_1 hbs9
  clear hc
  subst hbs9
  have G : zS T A s.heap s [[zO1 h po a1_1 v0 la v1 v2 v3 v4 v5 v6 v7], [zAr T 0 a1_1 7 fw], z] _ _ := G.re rfl
  refine z_get C G clX1 0 rfl 3 (by decide) m_fl_RX1_25 rfl dX1_move_1 ?_
  refine lv_iload_n hx hb dX1_move_4 rfl (lv_at hl 1 rfl) ?_
  refine z_Vi (bc := [z]) (br := [[zO1 h po a1_1 v0 la v1 v2 v3 v4 v5 v6 v7], [zAr T 0 a1_1 7 fw]]) (As := [.int x]) (rest := []) C G (c_has l T la cr inn k1 k2 k3 k4 z x hz) (kV_RX1_112 C.2.2.2.2 (Nat.le_of_ble_eq_true rfl) (Nat.le_of_ble_eq_true rfl)) [2] [2] rfl rfl (ci := 4) (qc := (RX4, TX4, 6)) rfl rfl (List.mem_flatten.mpr ⟨_, List.mem_of_getElem? (i := 0) rfl, (bLand_mem hz).choose_spec⟩) rfl rfl hl.1 dX1_move_5 (Nat.le_of_ble_eq_true rfl) (Nat.le_of_ble_eq_true rfl) (fun r_3 b1 H locs hw G => ?_)
  refine zAn2 hw ?_
  intro hbs9 hc_2
  clear hw
  subst hbs9
  have G : zS T A s.heap s [[zO1 h po a1_1 v0 la v1 v2 v3 v4 v5 v6 v7], [zAr T 0 a1_1 7 fw], z] _ _ := G
  rcases hc_2 with ⟨rfl, h_4, h_5, h_6⟩ | ⟨rfl, h_7⟩
  · have h_4 : 0 ≤ x.toInt := h_4
    have h_5 : x.toInt < cr.toInt := h_5
    have h_6 : x.toInt < 7 := h_6
    refine lv_if_eq (tgt := 22) hx hb dX1_move_8 (by decide) (fun q => absurd q (by decide)) (fun _ => ?_)
    refine lv_aload_n hx hb dX1_move_11 rfl (lv_at hl 0 rfl) ?_
    refine z_get C G clX1 0 rfl 3 (by decide) m_fl_RX1_25 rfl dX1_move_12 ?_
    refine lv_iload_n hx hb dX1_move_15 rfl (lv_at hl 2 rfl) ?_
    refine z_Vi (bc := [z]) (br := [[zO1 h po a1_1 v0 la v1 v2 v3 v4 v5 v6 v7], [zAr T 0 a1_1 7 fw]]) (As := [.int y]) (rest := []) C G (c_has l T la cr inn k1 k2 k3 k4 z y hz) (kV_RX1_112 C.2.2.2.2 (Nat.le_of_ble_eq_true rfl) (Nat.le_of_ble_eq_true rfl)) [2] [2] rfl rfl (ci := 4) (qc := (RX4, TX4, 6)) rfl rfl (List.mem_flatten.mpr ⟨_, List.mem_of_getElem? (i := 0) rfl, (bLand_mem hz).choose_spec⟩) rfl rfl hl.1 dX1_move_16 (Nat.le_of_ble_eq_true rfl) (Nat.le_of_ble_eq_true rfl) (fun r_9 b1 H locs hw G => ?_)
    refine zAn2 hw ?_
    intro hbs9 hc_8
    clear hw
    subst hbs9
    have G : zS T A s.heap s [[zO1 h po a1_1 v0 la v1 v2 v3 v4 v5 v6 v7], [zAr T 0 a1_1 7 fw], z] _ _ := G
    rcases hc_8 with ⟨rfl, h_10, h_11, h_12⟩ | ⟨rfl, h_13⟩
    · have h_10 : 0 ≤ y.toInt := h_10
      have h_11 : y.toInt < cr.toInt := h_11
      have h_12 : y.toInt < 7 := h_12
      refine lv_if_ne (tgt := 23) hx hb dX1_move_19 (by decide) (fun _ => ?_) (fun q => absurd q (by decide))
      refine lv_aload_n hx hb dX1_move_23 rfl (lv_at hl 0 rfl) ?_
      refine z_get C G clX1 0 rfl 1 (by decide) m_fl_RX1_18 rfl dX1_move_24 ?_
      refine lv_iload_n hx hb dX1_move_27 rfl (lv_at hl 1 rfl) ?_
      refine lv_dup2_11 hx hb dX1_move_28 rfl rfl ?_
      refine z_ild C G 1 rfl (vp_in_iff.mpr ⟨by omega, by omega⟩) dX1_move_29 ?_
      refine lv_topi (fun v_14 ev_14 => ?_)
      subst ev_14
      refine lv_iconst (v := 1) hx hb dX1_move_30 (by decide) ?_
      refine lv_isub hx hb dX1_move_31 ?_
      refine z_ist C G 1 rfl (vp_in_iff.mpr ⟨by omega, by omega⟩) dX1_move_32 (fun H locs G => ?_)
      have G : zS T A s.heap s [[zO1 h po a1_1 v0 la v1 v2 v3 v4 v5 v6 v7], [zAr T 0 a1_1 7 (upd fw x.toNatClampNeg ((fw x.toNatClampNeg) - 1))], z] _ _ := G
      refine lv_aload_n hx hb dX1_move_33 rfl (lv_at hl 0 rfl) ?_
      refine z_get C G clX1 0 rfl 1 (by decide) m_fl_RX1_18 rfl dX1_move_34 ?_
      refine lv_iload_n hx hb dX1_move_37 rfl (lv_at hl 2 rfl) ?_
      refine lv_dup2_11 hx hb dX1_move_38 rfl rfl ?_
      refine z_ild C G 1 rfl (vp_in_iff.mpr ⟨by omega, by omega⟩) dX1_move_39 ?_
      refine lv_topi (fun v_15 ev_15 => ?_)
      subst ev_15
      refine lv_iconst (v := 1) hx hb dX1_move_40 (by decide) ?_
      refine lv_iadd hx hb dX1_move_41 ?_
      refine z_ist C G 1 rfl (vp_in_iff.mpr ⟨by omega, by omega⟩) dX1_move_42 (fun H locs G => ?_)
      have G : zS T A s.heap s [[zO1 h po a1_1 v0 la v1 v2 v3 v4 v5 v6 v7], [zAr T 0 a1_1 7 (upd (upd fw x.toNatClampNeg ((fw x.toNatClampNeg) - 1)) y.toNatClampNeg (((upd fw x.toNatClampNeg ((fw x.toNatClampNeg) - 1)) y.toNatClampNeg) + 1))], z] _ _ := G
      refine lv_iload_n hx hb dX1_move_43 rfl (lv_at hl 1 rfl) ?_
      refine lv_iload_n hx hb dX1_move_44 rfl (lv_at hl 2 rfl) ?_
      refine lv_icmp_eq (tgt := 58) hx hb dX1_move_45 (by decide) (fun c_16 => ?_) (fun c_16 => ?_)
      · have c_16n : x.toInt = y.toInt := (fa_eq _ _).mp c_16
        refine lv_aload_n hx hb dX1_move_58 rfl (lv_at hl 0 rfl) ?_
        refine z_get C G clX1 0 rfl 6 (by decide) m_fl_RX1_44 rfl dX1_move_59 ?_
        refine lv_iconst (v := (-1)) hx hb dX1_move_62 (by decide) ?_
        refine lv_icmp_ne (tgt := 96) hx hb dX1_move_63 (by decide) (fun c_17 => ?_) (fun c_17 => ?_)
        · have c_17n : ¬ v3.toInt = (-1 : Int) := fun q => c_17 ((fa_eq _ _).mpr q)
          have hw_18 : bCourse T h po la (upd (upd fw x.toNatClampNeg ((fw x.toNatClampNeg) - 1)) y.toNatClampNeg (((upd fw x.toNatClampNeg ((fw x.toNatClampNeg) - 1)) y.toNatClampNeg) + 1)) v0 v1 v2 v3 v4 v5 v6 v7 [zO1 h po a1_1 v0 la v1 v2 v3 v4 v5 v6 v7, zAr T 0 a1_1 7 (upd (upd fw x.toNatClampNeg ((fw x.toNatClampNeg) - 1)) y.toNatClampNeg (((upd fw x.toNatClampNeg ((fw x.toNatClampNeg) - 1)) y.toNatClampNeg) + 1))] := ⟨a1_1, rfl⟩
          have G : zS T A s.heap s [[zO1 h po a1_1 v0 la v1 v2 v3 v4 v5 v6 v7, zAr T 0 a1_1 7 (upd (upd fw x.toNatClampNeg ((fw x.toNatClampNeg) - 1)) y.toNatClampNeg (((upd fw x.toNatClampNeg ((fw x.toNatClampNeg) - 1)) y.toNatClampNeg) + 1))], z] _ _ := G.re rfl
          exact z_back hQz_ (z_vret C hr hlocks G (Nat.le_of_ble_eq_true rfl) (Nat.le_of_ble_eq_true rfl) dX1_move_96 ⟨([zO1 h po a1_1 v0 la v1 v2 v3 v4 v5 v6 v7, zAr T 0 a1_1 7 (upd (upd fw x.toNatClampNeg ((fw x.toNatClampNeg) - 1)) y.toNatClampNeg (((upd fw x.toNatClampNeg ((fw x.toNatClampNeg) - 1)) y.toNatClampNeg) + 1))]), (upd (upd fw x.toNatClampNeg ((fw x.toNatClampNeg) - 1)) y.toNatClampNeg (((upd fw x.toNatClampNeg ((fw x.toNatClampNeg) - 1)) y.toNatClampNeg) + 1)), v0, v1, v2, v3, v4, v5, v6, v7, rfl, hw_18⟩)
        · have c_17n : v3.toInt = (-1 : Int) := (fa_eq _ _).mp c_17
          refine lv_aload_n hx hb dX1_move_66 rfl (lv_at hl 0 rfl) ?_
          refine z_get C G clX1 0 rfl 3 (by decide) m_fl_RX1_25 rfl dX1_move_67 ?_
          refine lv_iload_n hx hb dX1_move_70 rfl (lv_at hl 2 rfl) ?_
          refine z_Vi (bc := [z]) (br := [[zO1 h po a1_1 v0 la v1 v2 v3 v4 v5 v6 v7], [zAr T 0 a1_1 7 (upd (upd fw x.toNatClampNeg ((fw x.toNatClampNeg) - 1)) y.toNatClampNeg (((upd fw x.toNatClampNeg ((fw x.toNatClampNeg) - 1)) y.toNatClampNeg) + 1))]]) (As := [.int y]) (rest := []) C G (c_isInn l T la cr inn k1 k2 k3 k4 z y hz) (kV_RX1_135 C.2.2.2.2 (Nat.le_of_ble_eq_true rfl) (Nat.le_of_ble_eq_true rfl)) [2] [2] rfl rfl (ci := 4) (qc := (RX4, TX4, 6)) rfl rfl (List.mem_flatten.mpr ⟨_, List.mem_of_getElem? (i := 0) rfl, (bLand_mem hz).choose_spec⟩) rfl rfl hl.1 dX1_move_71 (Nat.le_of_ble_eq_true rfl) (Nat.le_of_ble_eq_true rfl) (fun r_20 b1 H locs hw G => ?_)
          refine zAn2 hw ?_
          intro hbs9 hc_19
          clear hw
          subst hbs9
          have G : zS T A s.heap s [[zO1 h po a1_1 v0 la v1 v2 v3 v4 v5 v6 v7], [zAr T 0 a1_1 7 (upd (upd fw x.toNatClampNeg ((fw x.toNatClampNeg) - 1)) y.toNatClampNeg (((upd fw x.toNatClampNeg ((fw x.toNatClampNeg) - 1)) y.toNatClampNeg) + 1))], z] _ _ := G
          rcases hc_19 with ⟨rfl, h_21, h_22, h_23, h_24⟩ | ⟨rfl, h_25⟩
          · have h_21 : 0 ≤ y.toInt := h_21
            have h_22 : y.toInt < cr.toInt := h_22
            have h_23 : y.toInt < 7 := h_23
            have h_24 : ¬ zBit inn y = 0 := h_24
            refine lv_if_eq (tgt := 96) hx hb dX1_move_74 (by decide) (fun q => absurd q (by decide)) (fun _ => ?_)
            refine lv_aload_n hx hb dX1_move_77 rfl (lv_at hl 0 rfl) ?_
            refine z_get C G clX1 0 rfl 3 (by decide) m_fl_RX1_25 rfl dX1_move_78 ?_
            refine lv_iload_n hx hb dX1_move_81 rfl (lv_at hl 1 rfl) ?_
            refine z_Vi (bc := [z]) (br := [[zO1 h po a1_1 v0 la v1 v2 v3 v4 v5 v6 v7], [zAr T 0 a1_1 7 (upd (upd fw x.toNatClampNeg ((fw x.toNatClampNeg) - 1)) y.toNatClampNeg (((upd fw x.toNatClampNeg ((fw x.toNatClampNeg) - 1)) y.toNatClampNeg) + 1))]]) (As := [.int x]) (rest := []) C G (c_isInn l T la cr inn k1 k2 k3 k4 z x hz) (kV_RX1_135 C.2.2.2.2 (Nat.le_of_ble_eq_true rfl) (Nat.le_of_ble_eq_true rfl)) [2] [2] rfl rfl (ci := 4) (qc := (RX4, TX4, 6)) rfl rfl (List.mem_flatten.mpr ⟨_, List.mem_of_getElem? (i := 0) rfl, (bLand_mem hz).choose_spec⟩) rfl rfl hl.1 dX1_move_82 (Nat.le_of_ble_eq_true rfl) (Nat.le_of_ble_eq_true rfl) (fun r_27 b1 H locs hw G => ?_)
            refine zAn2 hw ?_
            intro hbs9 hc_26
            clear hw
            subst hbs9
            have G : zS T A s.heap s [[zO1 h po a1_1 v0 la v1 v2 v3 v4 v5 v6 v7], [zAr T 0 a1_1 7 (upd (upd fw x.toNatClampNeg ((fw x.toNatClampNeg) - 1)) y.toNatClampNeg (((upd fw x.toNatClampNeg ((fw x.toNatClampNeg) - 1)) y.toNatClampNeg) + 1))], z] _ _ := G
            rcases hc_26 with ⟨rfl, h_28, h_29, h_30, h_31⟩ | ⟨rfl, h_32⟩
            · have h_28 : 0 ≤ x.toInt := h_28
              have h_29 : x.toInt < cr.toInt := h_29
              have h_30 : x.toInt < 7 := h_30
              have h_31 : ¬ zBit inn x = 0 := h_31
              refine lv_if_ne (tgt := 96) hx hb dX1_move_85 (by decide) (fun _ => ?_) (fun q => absurd q (by decide))
              have hw_33 : bCourse T h po la (upd (upd fw x.toNatClampNeg ((fw x.toNatClampNeg) - 1)) y.toNatClampNeg (((upd fw x.toNatClampNeg ((fw x.toNatClampNeg) - 1)) y.toNatClampNeg) + 1)) v0 v1 v2 v3 v4 v5 v6 v7 [zO1 h po a1_1 v0 la v1 v2 v3 v4 v5 v6 v7, zAr T 0 a1_1 7 (upd (upd fw x.toNatClampNeg ((fw x.toNatClampNeg) - 1)) y.toNatClampNeg (((upd fw x.toNatClampNeg ((fw x.toNatClampNeg) - 1)) y.toNatClampNeg) + 1))] := ⟨a1_1, rfl⟩
              have G : zS T A s.heap s [[zO1 h po a1_1 v0 la v1 v2 v3 v4 v5 v6 v7, zAr T 0 a1_1 7 (upd (upd fw x.toNatClampNeg ((fw x.toNatClampNeg) - 1)) y.toNatClampNeg (((upd fw x.toNatClampNeg ((fw x.toNatClampNeg) - 1)) y.toNatClampNeg) + 1))], z] _ _ := G.re rfl
              exact z_back hQz_ (z_vret C hr hlocks G (Nat.le_of_ble_eq_true rfl) (Nat.le_of_ble_eq_true rfl) dX1_move_96 ⟨([zO1 h po a1_1 v0 la v1 v2 v3 v4 v5 v6 v7, zAr T 0 a1_1 7 (upd (upd fw x.toNatClampNeg ((fw x.toNatClampNeg) - 1)) y.toNatClampNeg (((upd fw x.toNatClampNeg ((fw x.toNatClampNeg) - 1)) y.toNatClampNeg) + 1))]), (upd (upd fw x.toNatClampNeg ((fw x.toNatClampNeg) - 1)) y.toNatClampNeg (((upd fw x.toNatClampNeg ((fw x.toNatClampNeg) - 1)) y.toNatClampNeg) + 1)), v0, v1, v2, v3, v4, v5, v6, v7, rfl, hw_33⟩)
            · have h_32 : (x.toInt < 0 ∨ cr.toInt ≤ x.toInt ∨ 7 ≤ x.toInt ∨ zBit inn x = 0) := h_32
              refine lv_if_ne (tgt := 96) hx hb dX1_move_85 (by decide) (fun q => absurd (by decide) q) (fun _ => ?_)
              refine lv_aload_n hx hb dX1_move_88 rfl (lv_at hl 0 rfl) ?_
              refine lv_aload_n hx hb dX1_move_89 rfl (lv_at hl 0 rfl) ?_
              refine z_get C G clX1 0 rfl 5 (by decide) m_fl_RX1_41 rfl dX1_move_90 ?_
              refine z_put C G clX1 0 rfl 6 (by decide) m_fl_RX1_44 rfl rfl rfl (Nat.le_of_ble_eq_true rfl) dX1_move_93 (fun H locs G => ?_)
              have G : zS T A s.heap s [[zO1 h po a1_1 v0 la v1 v2 v2 v4 v5 v6 v7], [zAr T 0 a1_1 7 (upd (upd fw x.toNatClampNeg ((fw x.toNatClampNeg) - 1)) y.toNatClampNeg (((upd fw x.toNatClampNeg ((fw x.toNatClampNeg) - 1)) y.toNatClampNeg) + 1))], z] _ _ := G
              have hw_34 : bCourse T h po la (upd (upd fw x.toNatClampNeg ((fw x.toNatClampNeg) - 1)) y.toNatClampNeg (((upd fw x.toNatClampNeg ((fw x.toNatClampNeg) - 1)) y.toNatClampNeg) + 1)) v0 v1 v2 v2 v4 v5 v6 v7 [zO1 h po a1_1 v0 la v1 v2 v2 v4 v5 v6 v7, zAr T 0 a1_1 7 (upd (upd fw x.toNatClampNeg ((fw x.toNatClampNeg) - 1)) y.toNatClampNeg (((upd fw x.toNatClampNeg ((fw x.toNatClampNeg) - 1)) y.toNatClampNeg) + 1))] := ⟨a1_1, rfl⟩
              have G : zS T A s.heap s [[zO1 h po a1_1 v0 la v1 v2 v2 v4 v5 v6 v7, zAr T 0 a1_1 7 (upd (upd fw x.toNatClampNeg ((fw x.toNatClampNeg) - 1)) y.toNatClampNeg (((upd fw x.toNatClampNeg ((fw x.toNatClampNeg) - 1)) y.toNatClampNeg) + 1))], z] _ _ := G.re rfl
              exact z_back hQz_ (z_vret C hr hlocks G (Nat.le_of_ble_eq_true rfl) (Nat.le_of_ble_eq_true rfl) dX1_move_96 ⟨([zO1 h po a1_1 v0 la v1 v2 v2 v4 v5 v6 v7, zAr T 0 a1_1 7 (upd (upd fw x.toNatClampNeg ((fw x.toNatClampNeg) - 1)) y.toNatClampNeg (((upd fw x.toNatClampNeg ((fw x.toNatClampNeg) - 1)) y.toNatClampNeg) + 1))]), (upd (upd fw x.toNatClampNeg ((fw x.toNatClampNeg) - 1)) y.toNatClampNeg (((upd fw x.toNatClampNeg ((fw x.toNatClampNeg) - 1)) y.toNatClampNeg) + 1)), v0, v1, v2, v2, v4, v5, v6, v7, rfl, hw_34⟩)
          · have h_25 : (y.toInt < 0 ∨ cr.toInt ≤ y.toInt ∨ 7 ≤ y.toInt ∨ zBit inn y = 0) := h_25
            refine lv_if_eq (tgt := 96) hx hb dX1_move_74 (by decide) (fun _ => ?_) (fun q => absurd (by decide) q)
            have hw_35 : bCourse T h po la (upd (upd fw x.toNatClampNeg ((fw x.toNatClampNeg) - 1)) y.toNatClampNeg (((upd fw x.toNatClampNeg ((fw x.toNatClampNeg) - 1)) y.toNatClampNeg) + 1)) v0 v1 v2 v3 v4 v5 v6 v7 [zO1 h po a1_1 v0 la v1 v2 v3 v4 v5 v6 v7, zAr T 0 a1_1 7 (upd (upd fw x.toNatClampNeg ((fw x.toNatClampNeg) - 1)) y.toNatClampNeg (((upd fw x.toNatClampNeg ((fw x.toNatClampNeg) - 1)) y.toNatClampNeg) + 1))] := ⟨a1_1, rfl⟩
            have G : zS T A s.heap s [[zO1 h po a1_1 v0 la v1 v2 v3 v4 v5 v6 v7, zAr T 0 a1_1 7 (upd (upd fw x.toNatClampNeg ((fw x.toNatClampNeg) - 1)) y.toNatClampNeg (((upd fw x.toNatClampNeg ((fw x.toNatClampNeg) - 1)) y.toNatClampNeg) + 1))], z] _ _ := G.re rfl
            exact z_back hQz_ (z_vret C hr hlocks G (Nat.le_of_ble_eq_true rfl) (Nat.le_of_ble_eq_true rfl) dX1_move_96 ⟨([zO1 h po a1_1 v0 la v1 v2 v3 v4 v5 v6 v7, zAr T 0 a1_1 7 (upd (upd fw x.toNatClampNeg ((fw x.toNatClampNeg) - 1)) y.toNatClampNeg (((upd fw x.toNatClampNeg ((fw x.toNatClampNeg) - 1)) y.toNatClampNeg) + 1))]), (upd (upd fw x.toNatClampNeg ((fw x.toNatClampNeg) - 1)) y.toNatClampNeg (((upd fw x.toNatClampNeg ((fw x.toNatClampNeg) - 1)) y.toNatClampNeg) + 1)), v0, v1, v2, v3, v4, v5, v6, v7, rfl, hw_35⟩)
      · have c_16n : ¬ x.toInt = y.toInt := fun q => c_16 ((fa_eq _ _).mpr q)
        refine lv_aload_n hx hb dX1_move_48 rfl (lv_at hl 0 rfl) ?_
        refine lv_dup hx hb dX1_move_49 rfl ?_
        refine z_get C G clX1 0 rfl 8 (by decide) m_fl_RX1_50 rfl dX1_move_50 ?_
        refine lv_iconst (v := 1) hx hb dX1_move_53 (by decide) ?_
        refine lv_iadd hx hb dX1_move_54 ?_
        refine z_put C G clX1 0 rfl 8 (by decide) m_fl_RX1_50 rfl rfl rfl (Nat.le_of_ble_eq_true rfl) dX1_move_55 (fun H locs G => ?_)
        have G : zS T A s.heap s [[zO1 h po a1_1 v0 la v1 v2 v3 v4 (v5 + 1) v6 v7], [zAr T 0 a1_1 7 (upd (upd fw x.toNatClampNeg ((fw x.toNatClampNeg) - 1)) y.toNatClampNeg (((upd fw x.toNatClampNeg ((fw x.toNatClampNeg) - 1)) y.toNatClampNeg) + 1))], z] _ _ := G
        refine lv_aload_n hx hb dX1_move_58 rfl (lv_at hl 0 rfl) ?_
        refine z_get C G clX1 0 rfl 6 (by decide) m_fl_RX1_44 rfl dX1_move_59 ?_
        refine lv_iconst (v := (-1)) hx hb dX1_move_62 (by decide) ?_
        refine lv_icmp_ne (tgt := 96) hx hb dX1_move_63 (by decide) (fun c_36 => ?_) (fun c_36 => ?_)
        · have c_36n : ¬ v3.toInt = (-1 : Int) := fun q => c_36 ((fa_eq _ _).mpr q)
          have hw_37 : bCourse T h po la (upd (upd fw x.toNatClampNeg ((fw x.toNatClampNeg) - 1)) y.toNatClampNeg (((upd fw x.toNatClampNeg ((fw x.toNatClampNeg) - 1)) y.toNatClampNeg) + 1)) v0 v1 v2 v3 v4 (v5 + 1) v6 v7 [zO1 h po a1_1 v0 la v1 v2 v3 v4 (v5 + 1) v6 v7, zAr T 0 a1_1 7 (upd (upd fw x.toNatClampNeg ((fw x.toNatClampNeg) - 1)) y.toNatClampNeg (((upd fw x.toNatClampNeg ((fw x.toNatClampNeg) - 1)) y.toNatClampNeg) + 1))] := ⟨a1_1, rfl⟩
          have G : zS T A s.heap s [[zO1 h po a1_1 v0 la v1 v2 v3 v4 (v5 + 1) v6 v7, zAr T 0 a1_1 7 (upd (upd fw x.toNatClampNeg ((fw x.toNatClampNeg) - 1)) y.toNatClampNeg (((upd fw x.toNatClampNeg ((fw x.toNatClampNeg) - 1)) y.toNatClampNeg) + 1))], z] _ _ := G.re rfl
          exact z_back hQz_ (z_vret C hr hlocks G (Nat.le_of_ble_eq_true rfl) (Nat.le_of_ble_eq_true rfl) dX1_move_96 ⟨([zO1 h po a1_1 v0 la v1 v2 v3 v4 (v5 + 1) v6 v7, zAr T 0 a1_1 7 (upd (upd fw x.toNatClampNeg ((fw x.toNatClampNeg) - 1)) y.toNatClampNeg (((upd fw x.toNatClampNeg ((fw x.toNatClampNeg) - 1)) y.toNatClampNeg) + 1))]), (upd (upd fw x.toNatClampNeg ((fw x.toNatClampNeg) - 1)) y.toNatClampNeg (((upd fw x.toNatClampNeg ((fw x.toNatClampNeg) - 1)) y.toNatClampNeg) + 1)), v0, v1, v2, v3, v4, (v5 + 1), v6, v7, rfl, hw_37⟩)
        · have c_36n : v3.toInt = (-1 : Int) := (fa_eq _ _).mp c_36
          refine lv_aload_n hx hb dX1_move_66 rfl (lv_at hl 0 rfl) ?_
          refine z_get C G clX1 0 rfl 3 (by decide) m_fl_RX1_25 rfl dX1_move_67 ?_
          refine lv_iload_n hx hb dX1_move_70 rfl (lv_at hl 2 rfl) ?_
          refine z_Vi (bc := [z]) (br := [[zO1 h po a1_1 v0 la v1 v2 v3 v4 (v5 + 1) v6 v7], [zAr T 0 a1_1 7 (upd (upd fw x.toNatClampNeg ((fw x.toNatClampNeg) - 1)) y.toNatClampNeg (((upd fw x.toNatClampNeg ((fw x.toNatClampNeg) - 1)) y.toNatClampNeg) + 1))]]) (As := [.int y]) (rest := []) C G (c_isInn l T la cr inn k1 k2 k3 k4 z y hz) (kV_RX1_135 C.2.2.2.2 (Nat.le_of_ble_eq_true rfl) (Nat.le_of_ble_eq_true rfl)) [2] [2] rfl rfl (ci := 4) (qc := (RX4, TX4, 6)) rfl rfl (List.mem_flatten.mpr ⟨_, List.mem_of_getElem? (i := 0) rfl, (bLand_mem hz).choose_spec⟩) rfl rfl hl.1 dX1_move_71 (Nat.le_of_ble_eq_true rfl) (Nat.le_of_ble_eq_true rfl) (fun r_39 b1 H locs hw G => ?_)
          refine zAn2 hw ?_
          intro hbs9 hc_38
          clear hw
          subst hbs9
          have G : zS T A s.heap s [[zO1 h po a1_1 v0 la v1 v2 v3 v4 (v5 + 1) v6 v7], [zAr T 0 a1_1 7 (upd (upd fw x.toNatClampNeg ((fw x.toNatClampNeg) - 1)) y.toNatClampNeg (((upd fw x.toNatClampNeg ((fw x.toNatClampNeg) - 1)) y.toNatClampNeg) + 1))], z] _ _ := G
          rcases hc_38 with ⟨rfl, h_40, h_41, h_42, h_43⟩ | ⟨rfl, h_44⟩
          · have h_40 : 0 ≤ y.toInt := h_40
            have h_41 : y.toInt < cr.toInt := h_41
            have h_42 : y.toInt < 7 := h_42
            have h_43 : ¬ zBit inn y = 0 := h_43
            refine lv_if_eq (tgt := 96) hx hb dX1_move_74 (by decide) (fun q => absurd q (by decide)) (fun _ => ?_)
            refine lv_aload_n hx hb dX1_move_77 rfl (lv_at hl 0 rfl) ?_
            refine z_get C G clX1 0 rfl 3 (by decide) m_fl_RX1_25 rfl dX1_move_78 ?_
            refine lv_iload_n hx hb dX1_move_81 rfl (lv_at hl 1 rfl) ?_
            refine z_Vi (bc := [z]) (br := [[zO1 h po a1_1 v0 la v1 v2 v3 v4 (v5 + 1) v6 v7], [zAr T 0 a1_1 7 (upd (upd fw x.toNatClampNeg ((fw x.toNatClampNeg) - 1)) y.toNatClampNeg (((upd fw x.toNatClampNeg ((fw x.toNatClampNeg) - 1)) y.toNatClampNeg) + 1))]]) (As := [.int x]) (rest := []) C G (c_isInn l T la cr inn k1 k2 k3 k4 z x hz) (kV_RX1_135 C.2.2.2.2 (Nat.le_of_ble_eq_true rfl) (Nat.le_of_ble_eq_true rfl)) [2] [2] rfl rfl (ci := 4) (qc := (RX4, TX4, 6)) rfl rfl (List.mem_flatten.mpr ⟨_, List.mem_of_getElem? (i := 0) rfl, (bLand_mem hz).choose_spec⟩) rfl rfl hl.1 dX1_move_82 (Nat.le_of_ble_eq_true rfl) (Nat.le_of_ble_eq_true rfl) (fun r_46 b1 H locs hw G => ?_)
            refine zAn2 hw ?_
            intro hbs9 hc_45
            clear hw
            subst hbs9
            have G : zS T A s.heap s [[zO1 h po a1_1 v0 la v1 v2 v3 v4 (v5 + 1) v6 v7], [zAr T 0 a1_1 7 (upd (upd fw x.toNatClampNeg ((fw x.toNatClampNeg) - 1)) y.toNatClampNeg (((upd fw x.toNatClampNeg ((fw x.toNatClampNeg) - 1)) y.toNatClampNeg) + 1))], z] _ _ := G
            rcases hc_45 with ⟨rfl, h_47, h_48, h_49, h_50⟩ | ⟨rfl, h_51⟩
            · have h_47 : 0 ≤ x.toInt := h_47
              have h_48 : x.toInt < cr.toInt := h_48
              have h_49 : x.toInt < 7 := h_49
              have h_50 : ¬ zBit inn x = 0 := h_50
              refine lv_if_ne (tgt := 96) hx hb dX1_move_85 (by decide) (fun _ => ?_) (fun q => absurd q (by decide))
              have hw_52 : bCourse T h po la (upd (upd fw x.toNatClampNeg ((fw x.toNatClampNeg) - 1)) y.toNatClampNeg (((upd fw x.toNatClampNeg ((fw x.toNatClampNeg) - 1)) y.toNatClampNeg) + 1)) v0 v1 v2 v3 v4 (v5 + 1) v6 v7 [zO1 h po a1_1 v0 la v1 v2 v3 v4 (v5 + 1) v6 v7, zAr T 0 a1_1 7 (upd (upd fw x.toNatClampNeg ((fw x.toNatClampNeg) - 1)) y.toNatClampNeg (((upd fw x.toNatClampNeg ((fw x.toNatClampNeg) - 1)) y.toNatClampNeg) + 1))] := ⟨a1_1, rfl⟩
              have G : zS T A s.heap s [[zO1 h po a1_1 v0 la v1 v2 v3 v4 (v5 + 1) v6 v7, zAr T 0 a1_1 7 (upd (upd fw x.toNatClampNeg ((fw x.toNatClampNeg) - 1)) y.toNatClampNeg (((upd fw x.toNatClampNeg ((fw x.toNatClampNeg) - 1)) y.toNatClampNeg) + 1))], z] _ _ := G.re rfl
              exact z_back hQz_ (z_vret C hr hlocks G (Nat.le_of_ble_eq_true rfl) (Nat.le_of_ble_eq_true rfl) dX1_move_96 ⟨([zO1 h po a1_1 v0 la v1 v2 v3 v4 (v5 + 1) v6 v7, zAr T 0 a1_1 7 (upd (upd fw x.toNatClampNeg ((fw x.toNatClampNeg) - 1)) y.toNatClampNeg (((upd fw x.toNatClampNeg ((fw x.toNatClampNeg) - 1)) y.toNatClampNeg) + 1))]), (upd (upd fw x.toNatClampNeg ((fw x.toNatClampNeg) - 1)) y.toNatClampNeg (((upd fw x.toNatClampNeg ((fw x.toNatClampNeg) - 1)) y.toNatClampNeg) + 1)), v0, v1, v2, v3, v4, (v5 + 1), v6, v7, rfl, hw_52⟩)
            · have h_51 : (x.toInt < 0 ∨ cr.toInt ≤ x.toInt ∨ 7 ≤ x.toInt ∨ zBit inn x = 0) := h_51
              refine lv_if_ne (tgt := 96) hx hb dX1_move_85 (by decide) (fun q => absurd (by decide) q) (fun _ => ?_)
              refine lv_aload_n hx hb dX1_move_88 rfl (lv_at hl 0 rfl) ?_
              refine lv_aload_n hx hb dX1_move_89 rfl (lv_at hl 0 rfl) ?_
              refine z_get C G clX1 0 rfl 5 (by decide) m_fl_RX1_41 rfl dX1_move_90 ?_
              refine z_put C G clX1 0 rfl 6 (by decide) m_fl_RX1_44 rfl rfl rfl (Nat.le_of_ble_eq_true rfl) dX1_move_93 (fun H locs G => ?_)
              have G : zS T A s.heap s [[zO1 h po a1_1 v0 la v1 v2 v2 v4 (v5 + 1) v6 v7], [zAr T 0 a1_1 7 (upd (upd fw x.toNatClampNeg ((fw x.toNatClampNeg) - 1)) y.toNatClampNeg (((upd fw x.toNatClampNeg ((fw x.toNatClampNeg) - 1)) y.toNatClampNeg) + 1))], z] _ _ := G
              have hw_53 : bCourse T h po la (upd (upd fw x.toNatClampNeg ((fw x.toNatClampNeg) - 1)) y.toNatClampNeg (((upd fw x.toNatClampNeg ((fw x.toNatClampNeg) - 1)) y.toNatClampNeg) + 1)) v0 v1 v2 v2 v4 (v5 + 1) v6 v7 [zO1 h po a1_1 v0 la v1 v2 v2 v4 (v5 + 1) v6 v7, zAr T 0 a1_1 7 (upd (upd fw x.toNatClampNeg ((fw x.toNatClampNeg) - 1)) y.toNatClampNeg (((upd fw x.toNatClampNeg ((fw x.toNatClampNeg) - 1)) y.toNatClampNeg) + 1))] := ⟨a1_1, rfl⟩
              have G : zS T A s.heap s [[zO1 h po a1_1 v0 la v1 v2 v2 v4 (v5 + 1) v6 v7, zAr T 0 a1_1 7 (upd (upd fw x.toNatClampNeg ((fw x.toNatClampNeg) - 1)) y.toNatClampNeg (((upd fw x.toNatClampNeg ((fw x.toNatClampNeg) - 1)) y.toNatClampNeg) + 1))], z] _ _ := G.re rfl
              exact z_back hQz_ (z_vret C hr hlocks G (Nat.le_of_ble_eq_true rfl) (Nat.le_of_ble_eq_true rfl) dX1_move_96 ⟨([zO1 h po a1_1 v0 la v1 v2 v2 v4 (v5 + 1) v6 v7, zAr T 0 a1_1 7 (upd (upd fw x.toNatClampNeg ((fw x.toNatClampNeg) - 1)) y.toNatClampNeg (((upd fw x.toNatClampNeg ((fw x.toNatClampNeg) - 1)) y.toNatClampNeg) + 1))]), (upd (upd fw x.toNatClampNeg ((fw x.toNatClampNeg) - 1)) y.toNatClampNeg (((upd fw x.toNatClampNeg ((fw x.toNatClampNeg) - 1)) y.toNatClampNeg) + 1)), v0, v1, v2, v2, v4, (v5 + 1), v6, v7, rfl, hw_53⟩)
          · have h_44 : (y.toInt < 0 ∨ cr.toInt ≤ y.toInt ∨ 7 ≤ y.toInt ∨ zBit inn y = 0) := h_44
            refine lv_if_eq (tgt := 96) hx hb dX1_move_74 (by decide) (fun _ => ?_) (fun q => absurd (by decide) q)
            have hw_54 : bCourse T h po la (upd (upd fw x.toNatClampNeg ((fw x.toNatClampNeg) - 1)) y.toNatClampNeg (((upd fw x.toNatClampNeg ((fw x.toNatClampNeg) - 1)) y.toNatClampNeg) + 1)) v0 v1 v2 v3 v4 (v5 + 1) v6 v7 [zO1 h po a1_1 v0 la v1 v2 v3 v4 (v5 + 1) v6 v7, zAr T 0 a1_1 7 (upd (upd fw x.toNatClampNeg ((fw x.toNatClampNeg) - 1)) y.toNatClampNeg (((upd fw x.toNatClampNeg ((fw x.toNatClampNeg) - 1)) y.toNatClampNeg) + 1))] := ⟨a1_1, rfl⟩
            have G : zS T A s.heap s [[zO1 h po a1_1 v0 la v1 v2 v3 v4 (v5 + 1) v6 v7, zAr T 0 a1_1 7 (upd (upd fw x.toNatClampNeg ((fw x.toNatClampNeg) - 1)) y.toNatClampNeg (((upd fw x.toNatClampNeg ((fw x.toNatClampNeg) - 1)) y.toNatClampNeg) + 1))], z] _ _ := G.re rfl
            exact z_back hQz_ (z_vret C hr hlocks G (Nat.le_of_ble_eq_true rfl) (Nat.le_of_ble_eq_true rfl) dX1_move_96 ⟨([zO1 h po a1_1 v0 la v1 v2 v3 v4 (v5 + 1) v6 v7, zAr T 0 a1_1 7 (upd (upd fw x.toNatClampNeg ((fw x.toNatClampNeg) - 1)) y.toNatClampNeg (((upd fw x.toNatClampNeg ((fw x.toNatClampNeg) - 1)) y.toNatClampNeg) + 1))]), (upd (upd fw x.toNatClampNeg ((fw x.toNatClampNeg) - 1)) y.toNatClampNeg (((upd fw x.toNatClampNeg ((fw x.toNatClampNeg) - 1)) y.toNatClampNeg) + 1)), v0, v1, v2, v3, v4, (v5 + 1), v6, v7, rfl, hw_54⟩)
    · have h_13 : (y.toInt < 0 ∨ cr.toInt ≤ y.toInt ∨ 7 ≤ y.toInt) := h_13
      refine lv_if_ne (tgt := 23) hx hb dX1_move_19 (by decide) (fun q => absurd (by decide) q) (fun _ => ?_)
      have hw_55 : bCourse T h po la fw v0 v1 v2 v3 v4 v5 v6 v7 [zO1 h po a1_1 v0 la v1 v2 v3 v4 v5 v6 v7, zAr T 0 a1_1 7 fw] := ⟨a1_1, rfl⟩
      have G : zS T A s.heap s [[zO1 h po a1_1 v0 la v1 v2 v3 v4 v5 v6 v7, zAr T 0 a1_1 7 fw], z] _ _ := G.re rfl
      exact z_back hQz_ (z_vret C hr hlocks G (Nat.le_of_ble_eq_true rfl) (Nat.le_of_ble_eq_true rfl) dX1_move_22 ⟨([zO1 h po a1_1 v0 la v1 v2 v3 v4 v5 v6 v7, zAr T 0 a1_1 7 fw]), fw, v0, v1, v2, v3, v4, v5, v6, v7, rfl, hw_55⟩)
  · have h_7 : (x.toInt < 0 ∨ cr.toInt ≤ x.toInt ∨ 7 ≤ x.toInt) := h_7
    refine lv_if_eq (tgt := 22) hx hb dX1_move_8 (by decide) (fun _ => ?_) (fun q => absurd (by decide) q)
    have hw_56 : bCourse T h po la fw v0 v1 v2 v3 v4 v5 v6 v7 [zO1 h po a1_1 v0 la v1 v2 v3 v4 v5 v6 v7, zAr T 0 a1_1 7 fw] := ⟨a1_1, rfl⟩
    have G : zS T A s.heap s [[zO1 h po a1_1 v0 la v1 v2 v3 v4 v5 v6 v7, zAr T 0 a1_1 7 fw], z] _ _ := G.re rfl
    exact z_back hQz_ (z_vret C hr hlocks G (Nat.le_of_ble_eq_true rfl) (Nat.le_of_ble_eq_true rfl) dX1_move_22 ⟨([zO1 h po a1_1 v0 la v1 v2 v3 v4 v5 v6 v7, zAr T 0 a1_1 7 fw]), fw, v0, v1, v2, v3, v4, v5, v6, v7, rfl, hw_56⟩)
set_option maxHeartbeats 4000000 in
set_option maxRecDepth 100000 in
/-- c_Course_add -/
theorem c_Course_add (l : Launch) (T : zTy) (h : Nat) (po : Nat) (la : Nat) (fw : Nat → Int32) (v0 : Int32) (v1 : Int32) (v2 : Int32) (v3 : Int32) (v4 : Int32) (v5 : Int32) (v6 : Int32) (v7 : Int32) (wc : va_W) (cr : Int32) (inn : Int32) (k1 : Nat → Int32) (k2 : Nat → Int32) (k3 : Nat → Int32) (k4 : Nat → Int32) (z : va_W) (x : Int32) (hc : bCourse T h po la fw v0 v1 v2 v3 v4 v5 v6 v7 wc) (hz : bLand T la cr inn k1 k2 k3 k4 z) : zMi l T yX1_add cX1_add 2 (some .boolean) 2 0 0 [.ref h, .int x] [wc, z] (fun (r : Int32) bs => ∃ (wc2 : va_W) (gw : Nat → Int32) (u0 : Int32) (u1 : Int32) (u2 : Int32) (u3 : Int32) (u4 : Int32) (u5 : Int32) (u6 : Int32) (u7 : Int32), bs = [wc2, z] ∧ bCourse T h po la gw u0 u1 u2 u3 u4 u5 u6 u7 wc2 ∧ (r = 0 ∨ r = 1)) := by
  refine zMi_of (own := RX1) (by decide) rfl (Nat.le_of_ble_eq_true rfl) ?_
  intro p e s m args below meth c A ls C hr hlocks hnm hAe G hl
  refine zHide (fun Qz_ hQz_ => ?_)
  have hx := C.1
  have hb := C.2.1
  have hl : lv_has ls 2 [(0, .ref h), (1, .int x)] := hl
  refine lv_aload_n hx hb dX1_add_0 rfl (lv_at hl 0 rfl) ?_
  refine zEx1 hc ?_
  intro a1_1 hbs9
  clear hc
  subst hbs9
  have G : zS T A s.heap s [[zO1 h po a1_1 v0 la v1 v2 v3 v4 v5 v6 v7], [zAr T 0 a1_1 7 fw], z] _ _ := G.re rfl
  refine z_get C G clX1 0 rfl 3 (by decide) m_fl_RX1_25 rfl dX1_add_1 ?_
  refine lv_iload_n hx hb dX1_add_4 rfl (lv_at hl 1 rfl) ?_
  refine z_Vi (bc := [z]) (br := [[zO1 h po a1_1 v0 la v1 v2 v3 v4 v5 v6 v7], [zAr T 0 a1_1 7 fw]]) (As := [.int x]) (rest := []) C G (c_has l T la cr inn k1 k2 k3 k4 z x hz) (kV_RX1_112 C.2.2.2.2 (Nat.le_of_ble_eq_true rfl) (Nat.le_of_ble_eq_true rfl)) [2] [2] rfl rfl (ci := 4) (qc := (RX4, TX4, 6)) rfl rfl (List.mem_flatten.mpr ⟨_, List.mem_of_getElem? (i := 0) rfl, (bLand_mem hz).choose_spec⟩) rfl rfl hl.1 dX1_add_5 (Nat.le_of_ble_eq_true rfl) (Nat.le_of_ble_eq_true rfl) (fun r_3 b1 H locs hw G => ?_)
  refine zAn2 hw ?_
  intro hbs9 hc_2
  clear hw
  subst hbs9
  have G : zS T A s.heap s [[zO1 h po a1_1 v0 la v1 v2 v3 v4 v5 v6 v7], [zAr T 0 a1_1 7 fw], z] _ _ := G
  rcases hc_2 with ⟨rfl, h_4, h_5, h_6⟩ | ⟨rfl, h_7⟩
  · have h_4 : 0 ≤ x.toInt := h_4
    have h_5 : x.toInt < cr.toInt := h_5
    have h_6 : x.toInt < 7 := h_6
    refine lv_if_eq (tgt := 22) hx hb dX1_add_8 (by decide) (fun q => absurd q (by decide)) (fun _ => ?_)
    refine lv_aload_n hx hb dX1_add_11 rfl (lv_at hl 0 rfl) ?_
    refine z_get C G clX1 0 rfl 1 (by decide) m_fl_RX1_18 rfl dX1_add_12 ?_
    refine lv_iload_n hx hb dX1_add_15 rfl (lv_at hl 1 rfl) ?_
    refine z_ild C G 1 rfl (vp_in_iff.mpr ⟨by omega, by omega⟩) dX1_add_16 ?_
    refine lv_topi (fun v_8 ev_8 => ?_)
    subst ev_8
    refine lv_bipush (v := 99) hx hb dX1_add_17 (by decide) ?_
    refine lv_icmp_lt (tgt := 24) hx hb dX1_add_19 (by decide) (fun c_9 => ?_) (fun c_9 => ?_)
    · have c_9n : (fw x.toNatClampNeg).toInt < (99 : Int) := (fa_lt _ _).mp c_9
      refine lv_aload_n hx hb dX1_add_24 rfl (lv_at hl 0 rfl) ?_
      refine z_get C G clX1 0 rfl 1 (by decide) m_fl_RX1_18 rfl dX1_add_25 ?_
      refine lv_iload_n hx hb dX1_add_28 rfl (lv_at hl 1 rfl) ?_
      refine lv_dup2_11 hx hb dX1_add_29 rfl rfl ?_
      refine z_ild C G 1 rfl (vp_in_iff.mpr ⟨by omega, by omega⟩) dX1_add_30 ?_
      refine lv_topi (fun v_10 ev_10 => ?_)
      subst ev_10
      refine lv_iconst (v := 1) hx hb dX1_add_31 (by decide) ?_
      refine lv_iadd hx hb dX1_add_32 ?_
      refine z_ist C G 1 rfl (vp_in_iff.mpr ⟨by omega, by omega⟩) dX1_add_33 (fun H locs G => ?_)
      have G : zS T A s.heap s [[zO1 h po a1_1 v0 la v1 v2 v3 v4 v5 v6 v7], [zAr T 0 a1_1 7 (upd fw x.toNatClampNeg ((fw x.toNatClampNeg) + 1))], z] _ _ := G
      refine lv_iconst (v := 1) hx hb dX1_add_34 (by decide) ?_
      have hw_11 : bCourse T h po la (upd fw x.toNatClampNeg ((fw x.toNatClampNeg) + 1)) v0 v1 v2 v3 v4 v5 v6 v7 [zO1 h po a1_1 v0 la v1 v2 v3 v4 v5 v6 v7, zAr T 0 a1_1 7 (upd fw x.toNatClampNeg ((fw x.toNatClampNeg) + 1))] := ⟨a1_1, rfl⟩
      have G : zS T A s.heap s [[zO1 h po a1_1 v0 la v1 v2 v3 v4 v5 v6 v7, zAr T 0 a1_1 7 (upd fw x.toNatClampNeg ((fw x.toNatClampNeg) + 1))], z] _ _ := G.re rfl
      exact z_back hQz_ (z_zret C hr hlocks G (Nat.le_of_ble_eq_true rfl) (Nat.le_of_ble_eq_true rfl) dX1_add_35 rfl ⟨([zO1 h po a1_1 v0 la v1 v2 v3 v4 v5 v6 v7, zAr T 0 a1_1 7 (upd fw x.toNatClampNeg ((fw x.toNatClampNeg) + 1))]), (upd fw x.toNatClampNeg ((fw x.toNatClampNeg) + 1)), v0, v1, v2, v3, v4, v5, v6, v7, rfl, hw_11, (by first | exact Or.inl rfl | exact Or.inr rfl)⟩)
    · have c_9n : ¬ (fw x.toNatClampNeg).toInt < (99 : Int) := fun q => c_9 ((fa_lt _ _).mpr q)
      refine lv_iconst (v := 0) hx hb dX1_add_22 (by decide) ?_
      have hw_12 : bCourse T h po la fw v0 v1 v2 v3 v4 v5 v6 v7 [zO1 h po a1_1 v0 la v1 v2 v3 v4 v5 v6 v7, zAr T 0 a1_1 7 fw] := ⟨a1_1, rfl⟩
      have G : zS T A s.heap s [[zO1 h po a1_1 v0 la v1 v2 v3 v4 v5 v6 v7, zAr T 0 a1_1 7 fw], z] _ _ := G.re rfl
      exact z_back hQz_ (z_zret C hr hlocks G (Nat.le_of_ble_eq_true rfl) (Nat.le_of_ble_eq_true rfl) dX1_add_23 rfl ⟨([zO1 h po a1_1 v0 la v1 v2 v3 v4 v5 v6 v7, zAr T 0 a1_1 7 fw]), fw, v0, v1, v2, v3, v4, v5, v6, v7, rfl, hw_12, (by first | exact Or.inl rfl | exact Or.inr rfl)⟩)
  · have h_7 : (x.toInt < 0 ∨ cr.toInt ≤ x.toInt ∨ 7 ≤ x.toInt) := h_7
    refine lv_if_eq (tgt := 22) hx hb dX1_add_8 (by decide) (fun _ => ?_) (fun q => absurd (by decide) q)
    refine lv_iconst (v := 0) hx hb dX1_add_22 (by decide) ?_
    have hw_13 : bCourse T h po la fw v0 v1 v2 v3 v4 v5 v6 v7 [zO1 h po a1_1 v0 la v1 v2 v3 v4 v5 v6 v7, zAr T 0 a1_1 7 fw] := ⟨a1_1, rfl⟩
    have G : zS T A s.heap s [[zO1 h po a1_1 v0 la v1 v2 v3 v4 v5 v6 v7, zAr T 0 a1_1 7 fw], z] _ _ := G.re rfl
    exact z_back hQz_ (z_zret C hr hlocks G (Nat.le_of_ble_eq_true rfl) (Nat.le_of_ble_eq_true rfl) dX1_add_23 rfl ⟨([zO1 h po a1_1 v0 la v1 v2 v3 v4 v5 v6 v7, zAr T 0 a1_1 7 fw]), fw, v0, v1, v2, v3, v4, v5, v6, v7, rfl, hw_13, (by first | exact Or.inl rfl | exact Or.inr rfl)⟩)
set_option maxHeartbeats 4000000 in
set_option maxRecDepth 100000 in
/-- c_go -/
theorem c_go (l : Launch) (T : zTy) (h : Nat) (po : Nat) (la : Nat) (fw : Nat → Int32) (v0 : Int32) (v1 : Int32) (v2 : Int32) (v3 : Int32) (v4 : Int32) (v5 : Int32) (v6 : Int32) (v7 : Int32) (wc : va_W) (f1 : Nat → Int32) (f2 : Nat → Int32) (f3 : Nat → Int32) (st : Int32) (wh : Int32) (wp : va_W) (cr : Int32) (inn : Int32) (k1 : Nat → Int32) (k2 : Nat → Int32) (k3 : Nat → Int32) (k4 : Nat → Int32) (z : va_W) (x : Int32) (hc : bCourse T h po la fw v0 v1 v2 v3 v4 v5 v6 v7 wc) (hp : bPosts T po la f1 f2 f3 st wh wp) (hz : bLand T la cr inn k1 k2 k3 k4 z) (hP : zP3 f1 f3) : zMi l T yX1_go cX1_go 3 (some .boolean) 4 0 0 [.ref h, .int x] [wc, wp, z] (fun (r : Int32) bs => ∃ (wc2 : va_W) (gw : Nat → Int32) (u0 : Int32) (u1 : Int32) (u2 : Int32) (u3 : Int32) (u4 : Int32) (u5 : Int32) (u6 : Int32) (u7 : Int32) (wp2 : va_W) (g1 : Nat → Int32) (g2 : Nat → Int32) (sa : Int32) (wa : Int32), bs = [wc2, wp2, z] ∧ bCourse T h po la gw u0 u1 u2 u3 u4 u5 u6 u7 wc2 ∧ bPosts T po la g1 g2 f3 sa wa wp2 ∧ zP3 g1 f3 ∧ (r = 0 ∨ r = 1)) := by
  refine zMi_of (own := RX1) (by decide) rfl (Nat.le_of_ble_eq_true rfl) ?_
  intro p e s m args below meth c A ls C hr hlocks hnm hAe G hl
  refine zHide (fun Qz_ hQz_ => ?_)
  have hx := C.1
  have hb := C.2.1
  have hl : lv_has ls 3 [(0, .ref h), (1, .int x)] := hl
  refine lv_aload_n hx hb dX1_go_0 rfl (lv_at hl 0 rfl) ?_
  refine zEx1 hc ?_
  intro a1_1 hbs9
  clear hc
  subst hbs9
  have G : zS T A s.heap s [[zO1 h po a1_1 v0 la v1 v2 v3 v4 v5 v6 v7], [zAr T 0 a1_1 7 fw], wp, z] _ _ := G.re rfl
  refine z_get C G clX1 0 rfl 3 (by decide) m_fl_RX1_25 rfl dX1_go_1 ?_
  refine lv_iload_n hx hb dX1_go_4 rfl (lv_at hl 1 rfl) ?_
  refine z_Vi (bc := [z]) (br := [[zO1 h po a1_1 v0 la v1 v2 v3 v4 v5 v6 v7], [zAr T 0 a1_1 7 fw], wp]) (As := [.int x]) (rest := []) C G (c_has l T la cr inn k1 k2 k3 k4 z x hz) (kV_RX1_112 C.2.2.2.2 (Nat.le_of_ble_eq_true rfl) (Nat.le_of_ble_eq_true rfl)) [3] [3] rfl rfl (ci := 4) (qc := (RX4, TX4, 6)) rfl rfl (List.mem_flatten.mpr ⟨_, List.mem_of_getElem? (i := 0) rfl, (bLand_mem hz).choose_spec⟩) rfl rfl hl.1 dX1_go_5 (Nat.le_of_ble_eq_true rfl) (Nat.le_of_ble_eq_true rfl) (fun r_3 b1 H locs hw G => ?_)
  refine zAn2 hw ?_
  intro hbs9 hc_2
  clear hw
  subst hbs9
  have G : zS T A s.heap s [[zO1 h po a1_1 v0 la v1 v2 v3 v4 v5 v6 v7], [zAr T 0 a1_1 7 fw], wp, z] _ _ := G
  rcases hc_2 with ⟨rfl, h_4, h_5, h_6⟩ | ⟨rfl, h_7⟩
  · have h_4 : 0 ≤ x.toInt := h_4
    have h_5 : x.toInt < cr.toInt := h_5
    have h_6 : x.toInt < 7 := h_6
    refine lv_if_eq (tgt := 21) hx hb dX1_go_8 (by decide) (fun q => absurd q (by decide)) (fun _ => ?_)
    refine lv_aload_n hx hb dX1_go_11 rfl (lv_at hl 0 rfl) ?_
    refine z_get C G clX1 0 rfl 1 (by decide) m_fl_RX1_18 rfl dX1_go_12 ?_
    refine lv_iload_n hx hb dX1_go_15 rfl (lv_at hl 1 rfl) ?_
    refine z_ild C G 1 rfl (vp_in_iff.mpr ⟨by omega, by omega⟩) dX1_go_16 ?_
    refine lv_topi (fun v_8 ev_8 => ?_)
    subst ev_8
    refine lv_iconst (v := 1) hx hb dX1_go_17 (by decide) ?_
    refine lv_icmp_ge (tgt := 23) hx hb dX1_go_18 (by decide) (fun c_9 => ?_) (fun c_9 => ?_)
    · have c_9n : (1 : Int) ≤ (fw x.toNatClampNeg).toInt := (fa_le _ _).mp c_9
      refine lv_aload_n hx hb dX1_go_23 rfl (lv_at hl 0 rfl) ?_
      refine z_get C G clX1 0 rfl 0 (by decide) m_fl_RX1_12 rfl dX1_go_24 ?_
      refine lv_iload_n hx hb dX1_go_27 rfl (lv_at hl 1 rfl) ?_
      refine z_Vi (bc := [wp, z]) (br := [[zO1 h po a1_1 v0 la v1 v2 v3 v4 v5 v6 v7], [zAr T 0 a1_1 7 fw]]) (As := [.int x]) (rest := []) C G (c_step l T po la f1 f2 f3 st wh wp cr inn k1 k2 k3 k4 z x hp hz hP) (kV_RX1_115 C.2.2.2.2 (Nat.le_of_ble_eq_true rfl) (Nat.le_of_ble_eq_true rfl)) [2, 3] [2, 0] rfl rfl (ci := 6) (qc := (RX6, TX6, 6)) rfl rfl (List.mem_flatten.mpr ⟨_, List.mem_of_getElem? (i := 0) rfl, (bPosts_mem hp).choose_spec⟩) rfl rfl hl.1 dX1_go_28 (Nat.le_of_ble_eq_true rfl) (Nat.le_of_ble_eq_true rfl) (fun r_15 b1 H locs hw G => ?_)
      refine zEx2 hw ?_
      intro w2_10 g1_11
      refine zCu4 ?_
      intro hbs9 h_12 h_13 h_14
      clear hw
      subst hbs9
      have G : zS T A s.heap s [[zO1 h po a1_1 v0 la v1 v2 v3 v4 v5 v6 v7], [zAr T 0 a1_1 7 fw], w2_10, z] _ _ := G
      subst h_12
      have hQ2 : zP3 g1_11 f3 := by rw [h_14]; exact zPost_I hP _
      refine lv_istore_n (lv' := [(2, .int (zStep f1 f2 f3 k2 x)), (0, .ref h), (1, .int x)]) hx hb dX1_go_31 rfl hl (by decide) (zLvf_h rfl) (fun ls hl => ?_)
      refine lv_iload_n hx hb dX1_go_32 rfl (lv_at hl 0 rfl) ?_
      refine lv_iconst (v := (-1)) hx hb dX1_go_33 (by decide) ?_
      refine lv_icmp_ne (tgt := 39) hx hb dX1_go_34 (by decide) (fun c_16 => ?_) (fun c_16 => ?_)
      · have c_16n : ¬ (zStep f1 f2 f3 k2 x).toInt = (-1 : Int) := fun q => c_16 ((fa_eq _ _).mpr q)
        refine lv_aload_n hx hb dX1_go_39 rfl (lv_at hl 1 rfl) ?_
        refine lv_dup hx hb dX1_go_40 rfl ?_
        refine z_get C G clX1 0 rfl 2 (by decide) m_fl_RX1_34 rfl dX1_go_41 ?_
        refine lv_iconst (v := 1) hx hb dX1_go_44 (by decide) ?_
        refine lv_iadd hx hb dX1_go_45 ?_
        refine z_put C G clX1 0 rfl 2 (by decide) m_fl_RX1_34 rfl rfl rfl (Nat.le_of_ble_eq_true rfl) dX1_go_46 (fun H locs G => ?_)
        have G : zS T A s.heap s [[zO1 h po a1_1 (v0 + 1) la v1 v2 v3 v4 v5 v6 v7], [zAr T 0 a1_1 7 fw], w2_10, z] _ _ := G
        refine lv_aload_n hx hb dX1_go_49 rfl (lv_at hl 1 rfl) ?_
        refine lv_iload_n hx hb dX1_go_50 rfl (lv_at hl 2 rfl) ?_
        refine lv_iload_n hx hb dX1_go_51 rfl (lv_at hl 0 rfl) ?_
        have hw_17 : bCourse T h po la fw (v0 + 1) v1 v2 v3 v4 v5 v6 v7 [zO1 h po a1_1 (v0 + 1) la v1 v2 v3 v4 v5 v6 v7, zAr T 0 a1_1 7 fw] := ⟨a1_1, rfl⟩
        have G : zS T A s.heap s [[zO1 h po a1_1 (v0 + 1) la v1 v2 v3 v4 v5 v6 v7, zAr T 0 a1_1 7 fw], w2_10, z] _ _ := G.re rfl
        refine z_Vv (bc := [[zO1 h po a1_1 (v0 + 1) la v1 v2 v3 v4 v5 v6 v7, zAr T 0 a1_1 7 fw], z]) (br := [w2_10]) (As := [.int x, .int (zStep f1 f2 f3 k2 x)]) (rest := []) C G (c_move l T h po la fw (v0 + 1) v1 v2 v3 v4 v5 v6 v7 ([zO1 h po a1_1 (v0 + 1) la v1 v2 v3 v4 v5 v6 v7, zAr T 0 a1_1 7 fw]) cr inn k1 k2 k3 k4 z x (zStep f1 f2 f3 k2 x) hw_17 hz) (kV_RX1_118 C.2.2.2.2 (Nat.le_of_ble_eq_true rfl) (Nat.le_of_ble_eq_true rfl)) [0, 2] [0, 1] rfl rfl (ci := 1) (qc := (RX1, TX1, 11)) rfl rfl (List.mem_flatten.mpr ⟨_, List.mem_of_getElem? (i := 0) rfl, (bCourse_mem hw_17).choose_spec⟩) rfl rfl hl.1 dX1_go_52 (Nat.le_of_ble_eq_true rfl) (Nat.le_of_ble_eq_true rfl) (fun b1 H locs hw G => ?_)
        refine zEx10 hw ?_
        intro wc2_18 gw_19 u0_20 u1_21 u2_22 u3_23 u4_24 u5_25 u6_26 u7_27
        refine zCu2 ?_
        intro hbs9 h_28
        clear hw
        subst hbs9
        have G : zS T A s.heap s [w2_10, wc2_18, z] _ _ := G
        refine lv_iconst (v := 1) hx hb dX1_go_55 (by decide) ?_
        have G := G.sub (bs' := [wc2_18, w2_10, z]) [1, 0, 2] rfl
        exact z_back hQz_ (z_zret C hr hlocks G (Nat.le_of_ble_eq_true rfl) (Nat.le_of_ble_eq_true rfl) dX1_go_56 rfl ⟨wc2_18, gw_19, u0_20, u1_21, u2_22, u3_23, u4_24, u5_25, u6_26, u7_27, w2_10, g1_11, f2, st, wh, rfl, h_28, h_13, hQ2, (by first | exact Or.inl rfl | exact Or.inr rfl)⟩)
      · have c_16n : (zStep f1 f2 f3 k2 x).toInt = (-1 : Int) := (fa_eq _ _).mp c_16
        refine lv_iconst (v := 0) hx hb dX1_go_37 (by decide) ?_
        have hw_30 : bCourse T h po la fw v0 v1 v2 v3 v4 v5 v6 v7 [zO1 h po a1_1 v0 la v1 v2 v3 v4 v5 v6 v7, zAr T 0 a1_1 7 fw] := ⟨a1_1, rfl⟩
        have G : zS T A s.heap s [[zO1 h po a1_1 v0 la v1 v2 v3 v4 v5 v6 v7, zAr T 0 a1_1 7 fw], w2_10, z] _ _ := G.re rfl
        exact z_back hQz_ (z_zret C hr hlocks G (Nat.le_of_ble_eq_true rfl) (Nat.le_of_ble_eq_true rfl) dX1_go_38 rfl ⟨([zO1 h po a1_1 v0 la v1 v2 v3 v4 v5 v6 v7, zAr T 0 a1_1 7 fw]), fw, v0, v1, v2, v3, v4, v5, v6, v7, w2_10, g1_11, f2, st, wh, rfl, hw_30, h_13, hQ2, (by first | exact Or.inl rfl | exact Or.inr rfl)⟩)
    · have c_9n : ¬ (1 : Int) ≤ (fw x.toNatClampNeg).toInt := fun q => c_9 ((fa_le _ _).mpr q)
      refine lv_iconst (v := 0) hx hb dX1_go_21 (by decide) ?_
      have hw_31 : bCourse T h po la fw v0 v1 v2 v3 v4 v5 v6 v7 [zO1 h po a1_1 v0 la v1 v2 v3 v4 v5 v6 v7, zAr T 0 a1_1 7 fw] := ⟨a1_1, rfl⟩
      have G : zS T A s.heap s [[zO1 h po a1_1 v0 la v1 v2 v3 v4 v5 v6 v7, zAr T 0 a1_1 7 fw], wp, z] _ _ := G.re rfl
      exact z_back hQz_ (z_zret C hr hlocks G (Nat.le_of_ble_eq_true rfl) (Nat.le_of_ble_eq_true rfl) dX1_go_22 rfl ⟨([zO1 h po a1_1 v0 la v1 v2 v3 v4 v5 v6 v7, zAr T 0 a1_1 7 fw]), fw, v0, v1, v2, v3, v4, v5, v6, v7, wp, f1, f2, st, wh, rfl, hw_31, hp, hP, (by first | exact Or.inl rfl | exact Or.inr rfl)⟩)
  · have h_7 : (x.toInt < 0 ∨ cr.toInt ≤ x.toInt ∨ 7 ≤ x.toInt) := h_7
    refine lv_if_eq (tgt := 21) hx hb dX1_go_8 (by decide) (fun _ => ?_) (fun q => absurd (by decide) q)
    refine lv_iconst (v := 0) hx hb dX1_go_21 (by decide) ?_
    have hw_32 : bCourse T h po la fw v0 v1 v2 v3 v4 v5 v6 v7 [zO1 h po a1_1 v0 la v1 v2 v3 v4 v5 v6 v7, zAr T 0 a1_1 7 fw] := ⟨a1_1, rfl⟩
    have G : zS T A s.heap s [[zO1 h po a1_1 v0 la v1 v2 v3 v4 v5 v6 v7, zAr T 0 a1_1 7 fw], wp, z] _ _ := G.re rfl
    exact z_back hQz_ (z_zret C hr hlocks G (Nat.le_of_ble_eq_true rfl) (Nat.le_of_ble_eq_true rfl) dX1_go_22 rfl ⟨([zO1 h po a1_1 v0 la v1 v2 v3 v4 v5 v6 v7, zAr T 0 a1_1 7 fw]), fw, v0, v1, v2, v3, v4, v5, v6, v7, wp, f1, f2, st, wh, rfl, hw_32, hp, hP, (by first | exact Or.inl rfl | exact Or.inr rfl)⟩)
set_option maxHeartbeats 4000000 in
set_option maxRecDepth 100000 in
/-- c_Course_run -/
theorem c_Course_run (l : Launch) (T : zTy) (h : Nat) (po : Nat) (la : Nat) (fw : Nat → Int32) (v0 : Int32) (v1 : Int32) (v2 : Int32) (v3 : Int32) (v4 : Int32) (v5 : Int32) (v6 : Int32) (v7 : Int32) (wc : va_W) (f1 : Nat → Int32) (f2 : Nat → Int32) (f3 : Nat → Int32) (st : Int32) (wh : Int32) (wp : va_W) (cr : Int32) (inn : Int32) (k1 : Nat → Int32) (k2 : Nat → Int32) (k3 : Nat → Int32) (k4 : Nat → Int32) (z : va_W) (x : Int32) (hc : bCourse T h po la fw v0 v1 v2 v3 v4 v5 v6 v7 wc) (hp : bPosts T po la f1 f2 f3 st wh wp) (hz : bLand T la cr inn k1 k2 k3 k4 z) (hP : zP3 f1 f3) : zMi l T yX1_run cX1_run 2 (some .boolean) 4 0 0 [.ref h, .int x] [wc, wp, z] (fun (r : Int32) bs => ∃ (wc2 : va_W) (gw : Nat → Int32) (u0 : Int32) (u1 : Int32) (u2 : Int32) (u3 : Int32) (u4 : Int32) (u5 : Int32) (u6 : Int32) (u7 : Int32) (wp2 : va_W) (g1 : Nat → Int32) (g2 : Nat → Int32) (sa : Int32) (wa : Int32), bs = [wc2, wp2, z] ∧ bCourse T h po la gw u0 u1 u2 u3 u4 u5 u6 u7 wc2 ∧ bPosts T po la g1 g2 f3 sa wa wp2 ∧ zP3 g1 f3 ∧ (r = 0 ∨ r = 1)) := by
  refine zMi_of (own := RX1) (by decide) rfl (Nat.le_of_ble_eq_true rfl) ?_
  intro p e s m args below meth c A ls C hr hlocks hnm hAe G hl
  refine zHide (fun Qz_ hQz_ => ?_)
  have hx := C.1
  have hb := C.2.1
  have hl : lv_has ls 2 [(0, .ref h), (1, .int x)] := hl
  refine lv_aload_n hx hb dX1_run_0 rfl (lv_at hl 0 rfl) ?_
  refine zEx1 hc ?_
  intro a1_1 hbs9
  clear hc
  subst hbs9
  have G : zS T A s.heap s [[zO1 h po a1_1 v0 la v1 v2 v3 v4 v5 v6 v7], [zAr T 0 a1_1 7 fw], wp, z] _ _ := G.re rfl
  refine z_get C G clX1 0 rfl 3 (by decide) m_fl_RX1_25 rfl dX1_run_1 ?_
  refine lv_iload_n hx hb dX1_run_4 rfl (lv_at hl 1 rfl) ?_
  refine z_Vi (bc := [z]) (br := [[zO1 h po a1_1 v0 la v1 v2 v3 v4 v5 v6 v7], [zAr T 0 a1_1 7 fw], wp]) (As := [.int x]) (rest := []) C G (c_has l T la cr inn k1 k2 k3 k4 z x hz) (kV_RX1_112 C.2.2.2.2 (Nat.le_of_ble_eq_true rfl) (Nat.le_of_ble_eq_true rfl)) [3] [3] rfl rfl (ci := 4) (qc := (RX4, TX4, 6)) rfl rfl (List.mem_flatten.mpr ⟨_, List.mem_of_getElem? (i := 0) rfl, (bLand_mem hz).choose_spec⟩) rfl rfl hl.1 dX1_run_5 (Nat.le_of_ble_eq_true rfl) (Nat.le_of_ble_eq_true rfl) (fun r_3 b1 H locs hw G => ?_)
  refine zAn2 hw ?_
  intro hbs9 hc_2
  clear hw
  subst hbs9
  have G : zS T A s.heap s [[zO1 h po a1_1 v0 la v1 v2 v3 v4 v5 v6 v7], [zAr T 0 a1_1 7 fw], wp, z] _ _ := G
  rcases hc_2 with ⟨rfl, h_4, h_5, h_6⟩ | ⟨rfl, h_7⟩
  · have h_4 : 0 ≤ x.toInt := h_4
    have h_5 : x.toInt < cr.toInt := h_5
    have h_6 : x.toInt < 7 := h_6
    refine lv_if_eq (tgt := 21) hx hb dX1_run_8 (by decide) (fun q => absurd q (by decide)) (fun _ => ?_)
    refine lv_aload_n hx hb dX1_run_11 rfl (lv_at hl 0 rfl) ?_
    refine z_get C G clX1 0 rfl 1 (by decide) m_fl_RX1_18 rfl dX1_run_12 ?_
    refine lv_iload_n hx hb dX1_run_15 rfl (lv_at hl 1 rfl) ?_
    refine z_ild C G 1 rfl (vp_in_iff.mpr ⟨by omega, by omega⟩) dX1_run_16 ?_
    refine lv_topi (fun v_8 ev_8 => ?_)
    subst ev_8
    refine lv_iconst (v := 1) hx hb dX1_run_17 (by decide) ?_
    refine lv_icmp_ge (tgt := 23) hx hb dX1_run_18 (by decide) (fun c_9 => ?_) (fun c_9 => ?_)
    · have c_9n : (1 : Int) ≤ (fw x.toNatClampNeg).toInt := (fa_le _ _).mp c_9
      refine lv_aload_n hx hb dX1_run_23 rfl (lv_at hl 0 rfl) ?_
      refine z_get C G clX1 0 rfl 0 (by decide) m_fl_RX1_12 rfl dX1_run_24 ?_
      refine lv_iload_n hx hb dX1_run_27 rfl (lv_at hl 1 rfl) ?_
      refine z_Vv (bc := [wp, z]) (br := [[zO1 h po a1_1 v0 la v1 v2 v3 v4 v5 v6 v7], [zAr T 0 a1_1 7 fw]]) (As := [.int x]) (rest := []) C G (c_Posts_run l T po la f1 f2 f3 st wh wp cr inn k1 k2 k3 k4 z x hp hz hP) (kV_RX1_122 C.2.2.2.2 (Nat.le_of_ble_eq_true rfl) (Nat.le_of_ble_eq_true rfl)) [2, 3] [2, 0] rfl rfl (ci := 6) (qc := (RX6, TX6, 6)) rfl rfl (List.mem_flatten.mpr ⟨_, List.mem_of_getElem? (i := 0) rfl, (bPosts_mem hp).choose_spec⟩) rfl rfl hl.1 dX1_run_28 (Nat.le_of_ble_eq_true rfl) (Nat.le_of_ble_eq_true rfl) (fun b1 H locs hw G => ?_)
      refine zEx4 hw ?_
      intro w2_10 g1_11 s2_12 x2_13
      refine zCu5 ?_
      intro hbs9 h_14 h_15 h_16 h_17
      clear hw
      subst hbs9
      have G : zS T A s.heap s [[zO1 h po a1_1 v0 la v1 v2 v3 v4 v5 v6 v7], [zAr T 0 a1_1 7 fw], w2_10, z] _ _ := G
      have hQ2 : zP3 g1_11 f3 := by rw [h_15]; exact zRunN_I _ _ _ _ hP
      refine lv_aload_n hx hb dX1_run_31 rfl (lv_at hl 0 rfl) ?_
      refine lv_dup hx hb dX1_run_32 rfl ?_
      refine z_get C G clX1 0 rfl 2 (by decide) m_fl_RX1_34 rfl dX1_run_33 ?_
      refine lv_aload_n hx hb dX1_run_36 rfl (lv_at hl 0 rfl) ?_
      refine z_get C G clX1 0 rfl 0 (by decide) m_fl_RX1_12 rfl dX1_run_37 ?_
      refine zEx3 h_14 ?_
      intro a1_19 a2_20 a3_21 hbs9
      clear h_14
      subst hbs9
      have G : zS T A s.heap s [[zO1 h po a1_1 v0 la v1 v2 v3 v4 v5 v6 v7], [zAr T 0 a1_1 7 fw], [zO6 po la a1_19 a2_20 s2_12 x2_13 a3_21], [zAr T 0 a1_19 7 g1_11], [zAr T 0 a2_20 7 f2], [zAr T 0 a3_21 7 f3], z] _ _ := G.re rfl
      refine z_get C G clX6 2 rfl 3 (by decide) m_fl_RX1_125 rfl dX1_run_40 ?_
      refine lv_iadd hx hb dX1_run_43 ?_
      refine z_put C G clX1 0 rfl 2 (by decide) m_fl_RX1_34 rfl rfl rfl (Nat.le_of_ble_eq_true rfl) dX1_run_44 (fun H locs G => ?_)
      have G : zS T A s.heap s [[zO1 h po a1_1 (v0 + s2_12) la v1 v2 v3 v4 v5 v6 v7], [zAr T 0 a1_1 7 fw], [zO6 po la a1_19 a2_20 s2_12 x2_13 a3_21], [zAr T 0 a1_19 7 g1_11], [zAr T 0 a2_20 7 f2], [zAr T 0 a3_21 7 f3], z] _ _ := G
      refine lv_aload_n hx hb dX1_run_47 rfl (lv_at hl 0 rfl) ?_
      refine lv_aload_n hx hb dX1_run_48 rfl (lv_at hl 0 rfl) ?_
      refine z_get C G clX1 0 rfl 7 (by decide) m_fl_RX1_47 rfl dX1_run_49 ?_
      refine lv_aload_n hx hb dX1_run_52 rfl (lv_at hl 0 rfl) ?_
      refine z_get C G clX1 0 rfl 0 (by decide) m_fl_RX1_12 rfl dX1_run_53 ?_
      refine z_get C G clX6 2 rfl 3 (by decide) m_fl_RX1_125 rfl dX1_run_56 ?_
      refine va_mmax hx hb (C.2.2.1.trans hl.1.symm) C.2.2.2.1 (C.2.2.2.2 _ m_ml_RX1_126) (C.2.2.2.2 _ m_st_math_max) (C.2.2.2.2 _ m_ii_math) (C.2.2.2.2 _ m_co_math_max) (Nat.le_of_ble_eq_true rfl) (Nat.le_of_ble_eq_true rfl) (Nat.le_of_ble_eq_true rfl) (Nat.le_of_ble_eq_true rfl) dX1_run_59 ?_
      refine lv_topi (fun v_22 ev_22 => ?_)
      subst ev_22
      refine z_put C G clX1 0 rfl 7 (by decide) m_fl_RX1_47 rfl rfl rfl (Nat.le_of_ble_eq_true rfl) dX1_run_62 (fun H locs G => ?_)
      have G : zS T A s.heap s [[zO1 h po a1_1 (v0 + s2_12) la v1 v2 v3 (if v4 < s2_12 then s2_12 else v4) v5 v6 v7], [zAr T 0 a1_1 7 fw], [zO6 po la a1_19 a2_20 s2_12 x2_13 a3_21], [zAr T 0 a1_19 7 g1_11], [zAr T 0 a2_20 7 f2], [zAr T 0 a3_21 7 f3], z] _ _ := G
      refine lv_aload_n hx hb dX1_run_65 rfl (lv_at hl 0 rfl) ?_
      refine z_get C G clX1 0 rfl 3 (by decide) m_fl_RX1_25 rfl dX1_run_66 ?_
      refine lv_aload_n hx hb dX1_run_69 rfl (lv_at hl 0 rfl) ?_
      refine z_get C G clX1 0 rfl 0 (by decide) m_fl_RX1_12 rfl dX1_run_70 ?_
      refine z_get C G clX6 2 rfl 4 (by decide) m_fl_RX1_132 rfl dX1_run_73 ?_
      refine z_Vi (bc := [z]) (br := [[zO1 h po a1_1 (v0 + s2_12) la v1 v2 v3 (if v4 < s2_12 then s2_12 else v4) v5 v6 v7], [zAr T 0 a1_1 7 fw], [zO6 po la a1_19 a2_20 s2_12 x2_13 a3_21], [zAr T 0 a1_19 7 g1_11], [zAr T 0 a2_20 7 f2], [zAr T 0 a3_21 7 f3]]) (As := [.int x2_13]) (rest := []) C G (c_isInn l T la cr inn k1 k2 k3 k4 z x2_13 hz) (kV_RX1_135 C.2.2.2.2 (Nat.le_of_ble_eq_true rfl) (Nat.le_of_ble_eq_true rfl)) [6] [6] rfl rfl (ci := 4) (qc := (RX4, TX4, 6)) rfl rfl (List.mem_flatten.mpr ⟨_, List.mem_of_getElem? (i := 0) rfl, (bLand_mem hz).choose_spec⟩) rfl rfl hl.1 dX1_run_76 (Nat.le_of_ble_eq_true rfl) (Nat.le_of_ble_eq_true rfl) (fun r_24 b1 H locs hw G => ?_)
      refine zAn2 hw ?_
      intro hbs9 hc_23
      clear hw
      subst hbs9
      have G : zS T A s.heap s [[zO1 h po a1_1 (v0 + s2_12) la v1 v2 v3 (if v4 < s2_12 then s2_12 else v4) v5 v6 v7], [zAr T 0 a1_1 7 fw], [zO6 po la a1_19 a2_20 s2_12 x2_13 a3_21], [zAr T 0 a1_19 7 g1_11], [zAr T 0 a2_20 7 f2], [zAr T 0 a3_21 7 f3], z] _ _ := G
      rcases hc_23 with ⟨rfl, h_25, h_26, h_27, h_28⟩ | ⟨rfl, h_29⟩
      · have h_25 : 0 ≤ x2_13.toInt := h_25
        have h_26 : x2_13.toInt < cr.toInt := h_26
        have h_27 : x2_13.toInt < 7 := h_27
        have h_28 : ¬ zBit inn x2_13 = 0 := h_28
        refine lv_if_ne (tgt := 92) hx hb dX1_run_79 (by decide) (fun _ => ?_) (fun q => absurd q (by decide))
        refine lv_aload_n hx hb dX1_run_92 rfl (lv_at hl 0 rfl) ?_
        refine lv_iload_n hx hb dX1_run_93 rfl (lv_at hl 1 rfl) ?_
        refine lv_aload_n hx hb dX1_run_94 rfl (lv_at hl 0 rfl) ?_
        refine z_get C G clX1 0 rfl 0 (by decide) m_fl_RX1_12 rfl dX1_run_95 ?_
        refine z_get C G clX6 2 rfl 4 (by decide) m_fl_RX1_132 rfl dX1_run_98 ?_
        have hw_30 : bCourse T h po la fw (v0 + s2_12) v1 v2 v3 (if v4 < s2_12 then s2_12 else v4) v5 v6 v7 [zO1 h po a1_1 (v0 + s2_12) la v1 v2 v3 (if v4 < s2_12 then s2_12 else v4) v5 v6 v7, zAr T 0 a1_1 7 fw] := ⟨a1_1, rfl⟩
        have G : zS T A s.heap s [[zO1 h po a1_1 (v0 + s2_12) la v1 v2 v3 (if v4 < s2_12 then s2_12 else v4) v5 v6 v7, zAr T 0 a1_1 7 fw], [zO6 po la a1_19 a2_20 s2_12 x2_13 a3_21], [zAr T 0 a1_19 7 g1_11], [zAr T 0 a2_20 7 f2], [zAr T 0 a3_21 7 f3], z] _ _ := G.re rfl
        refine z_Vv (bc := [[zO1 h po a1_1 (v0 + s2_12) la v1 v2 v3 (if v4 < s2_12 then s2_12 else v4) v5 v6 v7, zAr T 0 a1_1 7 fw], z]) (br := [[zO6 po la a1_19 a2_20 s2_12 x2_13 a3_21], [zAr T 0 a1_19 7 g1_11], [zAr T 0 a2_20 7 f2], [zAr T 0 a3_21 7 f3]]) (As := [.int x, .int x2_13]) (rest := []) C G (c_move l T h po la fw (v0 + s2_12) v1 v2 v3 (if v4 < s2_12 then s2_12 else v4) v5 v6 v7 ([zO1 h po a1_1 (v0 + s2_12) la v1 v2 v3 (if v4 < s2_12 then s2_12 else v4) v5 v6 v7, zAr T 0 a1_1 7 fw]) cr inn k1 k2 k3 k4 z x x2_13 hw_30 hz) (kV_RX1_118 C.2.2.2.2 (Nat.le_of_ble_eq_true rfl) (Nat.le_of_ble_eq_true rfl)) [0, 5] [0, 4] rfl rfl (ci := 1) (qc := (RX1, TX1, 11)) rfl rfl (List.mem_flatten.mpr ⟨_, List.mem_of_getElem? (i := 0) rfl, (bCourse_mem hw_30).choose_spec⟩) rfl rfl hl.1 dX1_run_101 (Nat.le_of_ble_eq_true rfl) (Nat.le_of_ble_eq_true rfl) (fun b1 H locs hw G => ?_)
        refine zEx10 hw ?_
        intro wc2_31 gw_32 u0_33 u1_34 u2_35 u3_36 u4_37 u5_38 u6_39 u7_40
        refine zCu2 ?_
        intro hbs9 h_41
        clear hw
        subst hbs9
        have G : zS T A s.heap s [[zO6 po la a1_19 a2_20 s2_12 x2_13 a3_21], [zAr T 0 a1_19 7 g1_11], [zAr T 0 a2_20 7 f2], [zAr T 0 a3_21 7 f3], wc2_31, z] _ _ := G
        refine lv_iconst (v := 1) hx hb dX1_run_104 (by decide) ?_
        have hw_43 : bPosts T po la g1_11 f2 f3 s2_12 x2_13 [zO6 po la a1_19 a2_20 s2_12 x2_13 a3_21, zAr T 0 a1_19 7 g1_11, zAr T 0 a2_20 7 f2, zAr T 0 a3_21 7 f3] := ⟨a1_19, a2_20, a3_21, rfl⟩
        have G : zS T A s.heap s [[zO6 po la a1_19 a2_20 s2_12 x2_13 a3_21, zAr T 0 a1_19 7 g1_11, zAr T 0 a2_20 7 f2, zAr T 0 a3_21 7 f3], wc2_31, z] _ _ := G.re rfl
        have G := G.sub (bs' := [wc2_31, [zO6 po la a1_19 a2_20 s2_12 x2_13 a3_21, zAr T 0 a1_19 7 g1_11, zAr T 0 a2_20 7 f2, zAr T 0 a3_21 7 f3], z]) [1, 0, 2] rfl
        exact z_back hQz_ (z_zret C hr hlocks G (Nat.le_of_ble_eq_true rfl) (Nat.le_of_ble_eq_true rfl) dX1_run_105 rfl ⟨wc2_31, gw_32, u0_33, u1_34, u2_35, u3_36, u4_37, u5_38, u6_39, u7_40, ([zO6 po la a1_19 a2_20 s2_12 x2_13 a3_21, zAr T 0 a1_19 7 g1_11, zAr T 0 a2_20 7 f2, zAr T 0 a3_21 7 f3]), g1_11, f2, s2_12, x2_13, rfl, h_41, hw_43, hQ2, (by first | exact Or.inl rfl | exact Or.inr rfl)⟩)
      · have h_29 : (x2_13.toInt < 0 ∨ cr.toInt ≤ x2_13.toInt ∨ 7 ≤ x2_13.toInt ∨ zBit inn x2_13 = 0) := h_29
        refine lv_if_ne (tgt := 92) hx hb dX1_run_79 (by decide) (fun q => absurd (by decide) q) (fun _ => ?_)
        refine lv_aload_n hx hb dX1_run_82 rfl (lv_at hl 0 rfl) ?_
        refine lv_dup hx hb dX1_run_83 rfl ?_
        refine z_get C G clX1 0 rfl 4 (by decide) m_fl_RX1_38 rfl dX1_run_84 ?_
        refine lv_iconst (v := 1) hx hb dX1_run_87 (by decide) ?_
        refine lv_iadd hx hb dX1_run_88 ?_
        refine z_put C G clX1 0 rfl 4 (by decide) m_fl_RX1_38 rfl rfl rfl (Nat.le_of_ble_eq_true rfl) dX1_run_89 (fun H locs G => ?_)
        have G : zS T A s.heap s [[zO1 h po a1_1 (v0 + s2_12) la (v1 + 1) v2 v3 (if v4 < s2_12 then s2_12 else v4) v5 v6 v7], [zAr T 0 a1_1 7 fw], [zO6 po la a1_19 a2_20 s2_12 x2_13 a3_21], [zAr T 0 a1_19 7 g1_11], [zAr T 0 a2_20 7 f2], [zAr T 0 a3_21 7 f3], z] _ _ := G
        refine lv_aload_n hx hb dX1_run_92 rfl (lv_at hl 0 rfl) ?_
        refine lv_iload_n hx hb dX1_run_93 rfl (lv_at hl 1 rfl) ?_
        refine lv_aload_n hx hb dX1_run_94 rfl (lv_at hl 0 rfl) ?_
        refine z_get C G clX1 0 rfl 0 (by decide) m_fl_RX1_12 rfl dX1_run_95 ?_
        refine z_get C G clX6 2 rfl 4 (by decide) m_fl_RX1_132 rfl dX1_run_98 ?_
        have hw_44 : bCourse T h po la fw (v0 + s2_12) (v1 + 1) v2 v3 (if v4 < s2_12 then s2_12 else v4) v5 v6 v7 [zO1 h po a1_1 (v0 + s2_12) la (v1 + 1) v2 v3 (if v4 < s2_12 then s2_12 else v4) v5 v6 v7, zAr T 0 a1_1 7 fw] := ⟨a1_1, rfl⟩
        have G : zS T A s.heap s [[zO1 h po a1_1 (v0 + s2_12) la (v1 + 1) v2 v3 (if v4 < s2_12 then s2_12 else v4) v5 v6 v7, zAr T 0 a1_1 7 fw], [zO6 po la a1_19 a2_20 s2_12 x2_13 a3_21], [zAr T 0 a1_19 7 g1_11], [zAr T 0 a2_20 7 f2], [zAr T 0 a3_21 7 f3], z] _ _ := G.re rfl
        refine z_Vv (bc := [[zO1 h po a1_1 (v0 + s2_12) la (v1 + 1) v2 v3 (if v4 < s2_12 then s2_12 else v4) v5 v6 v7, zAr T 0 a1_1 7 fw], z]) (br := [[zO6 po la a1_19 a2_20 s2_12 x2_13 a3_21], [zAr T 0 a1_19 7 g1_11], [zAr T 0 a2_20 7 f2], [zAr T 0 a3_21 7 f3]]) (As := [.int x, .int x2_13]) (rest := []) C G (c_move l T h po la fw (v0 + s2_12) (v1 + 1) v2 v3 (if v4 < s2_12 then s2_12 else v4) v5 v6 v7 ([zO1 h po a1_1 (v0 + s2_12) la (v1 + 1) v2 v3 (if v4 < s2_12 then s2_12 else v4) v5 v6 v7, zAr T 0 a1_1 7 fw]) cr inn k1 k2 k3 k4 z x x2_13 hw_44 hz) (kV_RX1_118 C.2.2.2.2 (Nat.le_of_ble_eq_true rfl) (Nat.le_of_ble_eq_true rfl)) [0, 5] [0, 4] rfl rfl (ci := 1) (qc := (RX1, TX1, 11)) rfl rfl (List.mem_flatten.mpr ⟨_, List.mem_of_getElem? (i := 0) rfl, (bCourse_mem hw_44).choose_spec⟩) rfl rfl hl.1 dX1_run_101 (Nat.le_of_ble_eq_true rfl) (Nat.le_of_ble_eq_true rfl) (fun b1 H locs hw G => ?_)
        refine zEx10 hw ?_
        intro wc2_45 gw_46 u0_47 u1_48 u2_49 u3_50 u4_51 u5_52 u6_53 u7_54
        refine zCu2 ?_
        intro hbs9 h_55
        clear hw
        subst hbs9
        have G : zS T A s.heap s [[zO6 po la a1_19 a2_20 s2_12 x2_13 a3_21], [zAr T 0 a1_19 7 g1_11], [zAr T 0 a2_20 7 f2], [zAr T 0 a3_21 7 f3], wc2_45, z] _ _ := G
        refine lv_iconst (v := 1) hx hb dX1_run_104 (by decide) ?_
        have hw_57 : bPosts T po la g1_11 f2 f3 s2_12 x2_13 [zO6 po la a1_19 a2_20 s2_12 x2_13 a3_21, zAr T 0 a1_19 7 g1_11, zAr T 0 a2_20 7 f2, zAr T 0 a3_21 7 f3] := ⟨a1_19, a2_20, a3_21, rfl⟩
        have G : zS T A s.heap s [[zO6 po la a1_19 a2_20 s2_12 x2_13 a3_21, zAr T 0 a1_19 7 g1_11, zAr T 0 a2_20 7 f2, zAr T 0 a3_21 7 f3], wc2_45, z] _ _ := G.re rfl
        have G := G.sub (bs' := [wc2_45, [zO6 po la a1_19 a2_20 s2_12 x2_13 a3_21, zAr T 0 a1_19 7 g1_11, zAr T 0 a2_20 7 f2, zAr T 0 a3_21 7 f3], z]) [1, 0, 2] rfl
        exact z_back hQz_ (z_zret C hr hlocks G (Nat.le_of_ble_eq_true rfl) (Nat.le_of_ble_eq_true rfl) dX1_run_105 rfl ⟨wc2_45, gw_46, u0_47, u1_48, u2_49, u3_50, u4_51, u5_52, u6_53, u7_54, ([zO6 po la a1_19 a2_20 s2_12 x2_13 a3_21, zAr T 0 a1_19 7 g1_11, zAr T 0 a2_20 7 f2, zAr T 0 a3_21 7 f3]), g1_11, f2, s2_12, x2_13, rfl, h_55, hw_57, hQ2, (by first | exact Or.inl rfl | exact Or.inr rfl)⟩)
    · have c_9n : ¬ (1 : Int) ≤ (fw x.toNatClampNeg).toInt := fun q => c_9 ((fa_le _ _).mpr q)
      refine lv_iconst (v := 0) hx hb dX1_run_21 (by decide) ?_
      have hw_58 : bCourse T h po la fw v0 v1 v2 v3 v4 v5 v6 v7 [zO1 h po a1_1 v0 la v1 v2 v3 v4 v5 v6 v7, zAr T 0 a1_1 7 fw] := ⟨a1_1, rfl⟩
      have G : zS T A s.heap s [[zO1 h po a1_1 v0 la v1 v2 v3 v4 v5 v6 v7, zAr T 0 a1_1 7 fw], wp, z] _ _ := G.re rfl
      exact z_back hQz_ (z_zret C hr hlocks G (Nat.le_of_ble_eq_true rfl) (Nat.le_of_ble_eq_true rfl) dX1_run_22 rfl ⟨([zO1 h po a1_1 v0 la v1 v2 v3 v4 v5 v6 v7, zAr T 0 a1_1 7 fw]), fw, v0, v1, v2, v3, v4, v5, v6, v7, wp, f1, f2, st, wh, rfl, hw_58, hp, hP, (by first | exact Or.inl rfl | exact Or.inr rfl)⟩)
  · have h_7 : (x.toInt < 0 ∨ cr.toInt ≤ x.toInt ∨ 7 ≤ x.toInt) := h_7
    refine lv_if_eq (tgt := 21) hx hb dX1_run_8 (by decide) (fun _ => ?_) (fun q => absurd (by decide) q)
    refine lv_iconst (v := 0) hx hb dX1_run_21 (by decide) ?_
    have hw_59 : bCourse T h po la fw v0 v1 v2 v3 v4 v5 v6 v7 [zO1 h po a1_1 v0 la v1 v2 v3 v4 v5 v6 v7, zAr T 0 a1_1 7 fw] := ⟨a1_1, rfl⟩
    have G : zS T A s.heap s [[zO1 h po a1_1 v0 la v1 v2 v3 v4 v5 v6 v7, zAr T 0 a1_1 7 fw], wp, z] _ _ := G.re rfl
    exact z_back hQz_ (z_zret C hr hlocks G (Nat.le_of_ble_eq_true rfl) (Nat.le_of_ble_eq_true rfl) dX1_run_22 rfl ⟨([zO1 h po a1_1 v0 la v1 v2 v3 v4 v5 v6 v7, zAr T 0 a1_1 7 fw]), fw, v0, v1, v2, v3, v4, v5, v6, v7, wp, f1, f2, st, wh, rfl, hw_59, hp, hP, (by first | exact Or.inl rfl | exact Or.inr rfl)⟩)
set_option maxHeartbeats 4000000 in
set_option maxRecDepth 100000 in
/-- c_Course_shut -/
theorem c_Course_shut (l : Launch) (T : zTy) (h : Nat) (po : Nat) (la : Nat) (fw : Nat → Int32) (v0 : Int32) (v1 : Int32) (v2 : Int32) (v3 : Int32) (v4 : Int32) (v5 : Int32) (v6 : Int32) (v7 : Int32) (wc : va_W) (f1 : Nat → Int32) (f2 : Nat → Int32) (f3 : Nat → Int32) (st : Int32) (wh : Int32) (wp : va_W) (cr : Int32) (inn : Int32) (k1 : Nat → Int32) (k2 : Nat → Int32) (k3 : Nat → Int32) (k4 : Nat → Int32) (z : va_W) (x : Int32) (y : Int32) (hc : bCourse T h po la fw v0 v1 v2 v3 v4 v5 v6 v7 wc) (hp : bPosts T po la f1 f2 f3 st wh wp) (hz : bLand T la cr inn k1 k2 k3 k4 z) (hP : zP3 f1 f3) : zMi l T yX1_shut cX1_shut 4 (some .boolean) 3 0 0 [.ref h, .int x, .int y] [wc, wp, z] (fun (r : Int32) bs => ∃ (wc2 : va_W) (gw : Nat → Int32) (u0 : Int32) (u1 : Int32) (u2 : Int32) (u3 : Int32) (u4 : Int32) (u5 : Int32) (u6 : Int32) (u7 : Int32) (wp2 : va_W) (g1 : Nat → Int32) (g2 : Nat → Int32) (sa : Int32) (wa : Int32), bs = [wc2, wp2, z] ∧ bCourse T h po la gw u0 u1 u2 u3 u4 u5 u6 u7 wc2 ∧ bPosts T po la g1 g2 f3 sa wa wp2 ∧ zP3 g1 f3 ∧ (r = 0 ∨ r = 1)) := by
  refine zMi_of (own := RX1) (by decide) rfl (Nat.le_of_ble_eq_true rfl) ?_
  intro p e s m args below meth c A ls C hr hlocks hnm hAe G hl
  refine zHide (fun Qz_ hQz_ => ?_)
  have hx := C.1
  have hb := C.2.1
  have hl : lv_has ls 4 [(0, .ref h), (1, .int x), (2, .int y)] := hl
  refine lv_aload_n hx hb dX1_shut_0 rfl (lv_at hl 0 rfl) ?_
  refine zEx1 hc ?_
  intro a1_1 hbs9
  clear hc
  subst hbs9
  have G : zS T A s.heap s [[zO1 h po a1_1 v0 la v1 v2 v3 v4 v5 v6 v7], [zAr T 0 a1_1 7 fw], wp, z] _ _ := G.re rfl
  refine z_get C G clX1 0 rfl 3 (by decide) m_fl_RX1_25 rfl dX1_shut_1 ?_
  refine lv_iload_n hx hb dX1_shut_4 rfl (lv_at hl 1 rfl) ?_
  refine lv_iload_n hx hb dX1_shut_5 rfl (lv_at hl 2 rfl) ?_
  refine z_Vi (bc := [z]) (br := [[zO1 h po a1_1 v0 la v1 v2 v3 v4 v5 v6 v7], [zAr T 0 a1_1 7 fw], wp]) (As := [.int x, .int y]) (rest := []) C G (c_hasRoad l T la cr inn k1 k2 k3 k4 z x y hz) (kV_RX1_138 C.2.2.2.2 (Nat.le_of_ble_eq_true rfl) (Nat.le_of_ble_eq_true rfl)) [3] [3] rfl rfl (ci := 4) (qc := (RX4, TX4, 6)) rfl rfl (List.mem_flatten.mpr ⟨_, List.mem_of_getElem? (i := 0) rfl, (bLand_mem hz).choose_spec⟩) rfl rfl hl.1 dX1_shut_6 (Nat.le_of_ble_eq_true rfl) (Nat.le_of_ble_eq_true rfl) (fun r_3 b1 H locs hw G => ?_)
  refine zAn2 hw ?_
  intro hbs9 hc_2
  clear hw
  subst hbs9
  have G : zS T A s.heap s [[zO1 h po a1_1 v0 la v1 v2 v3 v4 v5 v6 v7], [zAr T 0 a1_1 7 fw], wp, z] _ _ := G
  rcases hc_2 with ⟨rfl, h_4, h_5, h_6, h_7, h_8, h_9⟩ | ⟨rfl, h_10⟩
  · have h_4 : 0 ≤ x.toInt := h_4
    have h_5 : x.toInt < cr.toInt := h_5
    have h_6 : x.toInt < 7 := h_6
    have h_7 : 0 ≤ y.toInt := h_7
    have h_8 : y.toInt < (k1 x.toNatClampNeg).toInt := h_8
    have h_9 : y.toInt < 4 := h_9
    refine lv_if_eq (tgt := 28) hx hb dX1_shut_9 (by decide) (fun q => absurd q (by decide)) (fun _ => ?_)
    refine lv_aload_n hx hb dX1_shut_12 rfl (lv_at hl 0 rfl) ?_
    refine z_get C G clX1 0 rfl 0 (by decide) m_fl_RX1_12 rfl dX1_shut_13 ?_
    refine lv_iload_n hx hb dX1_shut_16 rfl (lv_at hl 1 rfl) ?_
    refine lv_iload_n hx hb dX1_shut_17 rfl (lv_at hl 2 rfl) ?_
    refine z_Vi (bc := [wp, z]) (br := [[zO1 h po a1_1 v0 la v1 v2 v3 v4 v5 v6 v7], [zAr T 0 a1_1 7 fw]]) (As := [.int x, .int y]) (rest := []) C G (c_isShut l T po la f1 f2 f3 st wh wp cr inn k1 k2 k3 k4 z x y hp hz) (kV_RX1_141 C.2.2.2.2 (Nat.le_of_ble_eq_true rfl) (Nat.le_of_ble_eq_true rfl)) [2, 3] [2, 0] rfl rfl (ci := 6) (qc := (RX6, TX6, 6)) rfl rfl (List.mem_flatten.mpr ⟨_, List.mem_of_getElem? (i := 0) rfl, (bPosts_mem hp).choose_spec⟩) rfl rfl hl.1 dX1_shut_18 (Nat.le_of_ble_eq_true rfl) (Nat.le_of_ble_eq_true rfl) (fun r_12 b1 H locs hw G => ?_)
    refine zAn2 hw ?_
    intro hbs9 hc_11
    clear hw
    subst hbs9
    have G : zS T A s.heap s [[zO1 h po a1_1 v0 la v1 v2 v3 v4 v5 v6 v7], [zAr T 0 a1_1 7 fw], wp, z] _ _ := G
    rcases hc_11 with ⟨rfl, h_13, h_14, h_15, h_16, h_17, h_18, h_19⟩ | ⟨rfl, h_20⟩
    · have h_13 : 0 ≤ x.toInt := h_13
      have h_14 : x.toInt < cr.toInt := h_14
      have h_15 : x.toInt < 7 := h_15
      have h_16 : 0 ≤ y.toInt := h_16
      have h_17 : y.toInt < (k1 x.toNatClampNeg).toInt := h_17
      have h_18 : y.toInt < 4 := h_18
      have h_19 : ¬ zBit (f2 x.toNatClampNeg) y = 0 := h_19
      refine lv_if_ne (tgt := 28) hx hb dX1_shut_21 (by decide) (fun _ => ?_) (fun q => absurd q (by decide))
      refine lv_iconst (v := 0) hx hb dX1_shut_28 (by decide) ?_
      refine lv_istore_n (lv' := [(3, .int 0), (0, .ref h), (1, .int x), (2, .int y)]) hx hb dX1_shut_29 rfl hl (by decide) (zLvf_h rfl) (fun ls hl => ?_)
      refine lv_iload_n hx hb dX1_shut_30 rfl (lv_at hl 0 rfl) ?_
      refine lv_if_eq (tgt := 43) hx hb dX1_shut_31 (by decide) (fun _ => ?_) (fun q => absurd (by decide) q)
      refine lv_iload_n hx hb dX1_shut_43 rfl (lv_at hl 0 rfl) ?_
      have hw_21 : bCourse T h po la fw v0 v1 v2 v3 v4 v5 v6 v7 [zO1 h po a1_1 v0 la v1 v2 v3 v4 v5 v6 v7, zAr T 0 a1_1 7 fw] := ⟨a1_1, rfl⟩
      have G : zS T A s.heap s [[zO1 h po a1_1 v0 la v1 v2 v3 v4 v5 v6 v7, zAr T 0 a1_1 7 fw], wp, z] _ _ := G.re rfl
      exact z_back hQz_ (z_zret C hr hlocks G (Nat.le_of_ble_eq_true rfl) (Nat.le_of_ble_eq_true rfl) dX1_shut_44 rfl ⟨([zO1 h po a1_1 v0 la v1 v2 v3 v4 v5 v6 v7, zAr T 0 a1_1 7 fw]), fw, v0, v1, v2, v3, v4, v5, v6, v7, wp, f1, f2, st, wh, rfl, hw_21, hp, hP, (by first | exact Or.inl rfl | exact Or.inr rfl)⟩)
    · have h_20 : (x.toInt < 0 ∨ cr.toInt ≤ x.toInt ∨ 7 ≤ x.toInt ∨ y.toInt < 0 ∨ (k1 x.toNatClampNeg).toInt ≤ y.toInt ∨ 4 ≤ y.toInt ∨ zBit (f2 x.toNatClampNeg) y = 0) := h_20
      refine lv_if_ne (tgt := 28) hx hb dX1_shut_21 (by decide) (fun q => absurd (by decide) q) (fun _ => ?_)
      refine lv_iconst (v := 1) hx hb dX1_shut_24 (by decide) ?_
      refine lv_goto (tgt := 29) hx hb dX1_shut_25 (by decide) ?_
      refine lv_istore_n (lv' := [(3, .int 1), (0, .ref h), (1, .int x), (2, .int y)]) hx hb dX1_shut_29 rfl hl (by decide) (zLvf_h rfl) (fun ls hl => ?_)
      refine lv_iload_n hx hb dX1_shut_30 rfl (lv_at hl 0 rfl) ?_
      refine lv_if_eq (tgt := 43) hx hb dX1_shut_31 (by decide) (fun q => absurd q (by decide)) (fun _ => ?_)
      refine lv_aload_n hx hb dX1_shut_34 rfl (lv_at hl 1 rfl) ?_
      refine z_get C G clX1 0 rfl 0 (by decide) m_fl_RX1_12 rfl dX1_shut_35 ?_
      refine lv_iload_n hx hb dX1_shut_38 rfl (lv_at hl 2 rfl) ?_
      refine lv_iload_n hx hb dX1_shut_39 rfl (lv_at hl 3 rfl) ?_
      refine z_Vv (bc := [wp, z]) (br := [[zO1 h po a1_1 v0 la v1 v2 v3 v4 v5 v6 v7], [zAr T 0 a1_1 7 fw]]) (As := [.int x, .int y]) (rest := []) C G (c_shutRoad l T po la f1 f2 f3 st wh wp cr inn k1 k2 k3 k4 z x y hp hz) (kV_RX1_144 C.2.2.2.2 (Nat.le_of_ble_eq_true rfl) (Nat.le_of_ble_eq_true rfl)) [2, 3] [2, 0] rfl rfl (ci := 6) (qc := (RX6, TX6, 6)) rfl rfl (List.mem_flatten.mpr ⟨_, List.mem_of_getElem? (i := 0) rfl, (bPosts_mem hp).choose_spec⟩) rfl rfl hl.1 dX1_shut_40 (Nat.le_of_ble_eq_true rfl) (Nat.le_of_ble_eq_true rfl) (fun b1 H locs hw G => ?_)
      refine zEx2 hw ?_
      intro w2_22 g2_23
      refine zCu3 ?_
      intro hbs9 h_24 h_25
      clear hw
      subst hbs9
      have G : zS T A s.heap s [[zO1 h po a1_1 v0 la v1 v2 v3 v4 v5 v6 v7], [zAr T 0 a1_1 7 fw], w2_22, z] _ _ := G
      refine lv_iload_n hx hb dX1_shut_43 rfl (lv_at hl 0 rfl) ?_
      have hw_27 : bCourse T h po la fw v0 v1 v2 v3 v4 v5 v6 v7 [zO1 h po a1_1 v0 la v1 v2 v3 v4 v5 v6 v7, zAr T 0 a1_1 7 fw] := ⟨a1_1, rfl⟩
      have G : zS T A s.heap s [[zO1 h po a1_1 v0 la v1 v2 v3 v4 v5 v6 v7, zAr T 0 a1_1 7 fw], w2_22, z] _ _ := G.re rfl
      exact z_back hQz_ (z_zret C hr hlocks G (Nat.le_of_ble_eq_true rfl) (Nat.le_of_ble_eq_true rfl) dX1_shut_44 rfl ⟨([zO1 h po a1_1 v0 la v1 v2 v3 v4 v5 v6 v7, zAr T 0 a1_1 7 fw]), fw, v0, v1, v2, v3, v4, v5, v6, v7, w2_22, f1, g2_23, st, wh, rfl, hw_27, h_24, hP, (by first | exact Or.inl rfl | exact Or.inr rfl)⟩)
  · have h_10 : (x.toInt < 0 ∨ cr.toInt ≤ x.toInt ∨ 7 ≤ x.toInt ∨ y.toInt < 0 ∨ (k1 x.toNatClampNeg).toInt ≤ y.toInt ∨ 4 ≤ y.toInt) := h_10
    refine lv_if_eq (tgt := 28) hx hb dX1_shut_9 (by decide) (fun _ => ?_) (fun q => absurd (by decide) q)
    refine lv_iconst (v := 0) hx hb dX1_shut_28 (by decide) ?_
    refine lv_istore_n (lv' := [(3, .int 0), (0, .ref h), (1, .int x), (2, .int y)]) hx hb dX1_shut_29 rfl hl (by decide) (zLvf_h rfl) (fun ls hl => ?_)
    refine lv_iload_n hx hb dX1_shut_30 rfl (lv_at hl 0 rfl) ?_
    refine lv_if_eq (tgt := 43) hx hb dX1_shut_31 (by decide) (fun _ => ?_) (fun q => absurd (by decide) q)
    refine lv_iload_n hx hb dX1_shut_43 rfl (lv_at hl 0 rfl) ?_
    have hw_28 : bCourse T h po la fw v0 v1 v2 v3 v4 v5 v6 v7 [zO1 h po a1_1 v0 la v1 v2 v3 v4 v5 v6 v7, zAr T 0 a1_1 7 fw] := ⟨a1_1, rfl⟩
    have G : zS T A s.heap s [[zO1 h po a1_1 v0 la v1 v2 v3 v4 v5 v6 v7, zAr T 0 a1_1 7 fw], wp, z] _ _ := G.re rfl
    exact z_back hQz_ (z_zret C hr hlocks G (Nat.le_of_ble_eq_true rfl) (Nat.le_of_ble_eq_true rfl) dX1_shut_44 rfl ⟨([zO1 h po a1_1 v0 la v1 v2 v3 v4 v5 v6 v7, zAr T 0 a1_1 7 fw]), fw, v0, v1, v2, v3, v4, v5, v6, v7, wp, f1, f2, st, wh, rfl, hw_28, hp, hP, (by first | exact Or.inl rfl | exact Or.inr rfl)⟩)
set_option maxHeartbeats 4000000 in
set_option maxRecDepth 100000 in
/-- c_Course_open -/
theorem c_Course_open (l : Launch) (T : zTy) (h : Nat) (po : Nat) (la : Nat) (fw : Nat → Int32) (v0 : Int32) (v1 : Int32) (v2 : Int32) (v3 : Int32) (v4 : Int32) (v5 : Int32) (v6 : Int32) (v7 : Int32) (wc : va_W) (f1 : Nat → Int32) (f2 : Nat → Int32) (f3 : Nat → Int32) (st : Int32) (wh : Int32) (wp : va_W) (cr : Int32) (inn : Int32) (k1 : Nat → Int32) (k2 : Nat → Int32) (k3 : Nat → Int32) (k4 : Nat → Int32) (z : va_W) (x : Int32) (y : Int32) (hc : bCourse T h po la fw v0 v1 v2 v3 v4 v5 v6 v7 wc) (hp : bPosts T po la f1 f2 f3 st wh wp) (hz : bLand T la cr inn k1 k2 k3 k4 z) (hP : zP3 f1 f3) : zMi l T yX1_open cX1_open 4 (some .boolean) 3 0 0 [.ref h, .int x, .int y] [wc, wp, z] (fun (r : Int32) bs => ∃ (wc2 : va_W) (gw : Nat → Int32) (u0 : Int32) (u1 : Int32) (u2 : Int32) (u3 : Int32) (u4 : Int32) (u5 : Int32) (u6 : Int32) (u7 : Int32) (wp2 : va_W) (g1 : Nat → Int32) (g2 : Nat → Int32) (sa : Int32) (wa : Int32), bs = [wc2, wp2, z] ∧ bCourse T h po la gw u0 u1 u2 u3 u4 u5 u6 u7 wc2 ∧ bPosts T po la g1 g2 f3 sa wa wp2 ∧ zP3 g1 f3 ∧ (r = 0 ∨ r = 1)) := by
  refine zMi_of (own := RX1) (by decide) rfl (Nat.le_of_ble_eq_true rfl) ?_
  intro p e s m args below meth c A ls C hr hlocks hnm hAe G hl
  refine zHide (fun Qz_ hQz_ => ?_)
  have hx := C.1
  have hb := C.2.1
  have hl : lv_has ls 4 [(0, .ref h), (1, .int x), (2, .int y)] := hl
  refine lv_aload_n hx hb dX1_open_0 rfl (lv_at hl 0 rfl) ?_
  refine zEx1 hc ?_
  intro a1_1 hbs9
  clear hc
  subst hbs9
  have G : zS T A s.heap s [[zO1 h po a1_1 v0 la v1 v2 v3 v4 v5 v6 v7], [zAr T 0 a1_1 7 fw], wp, z] _ _ := G.re rfl
  refine z_get C G clX1 0 rfl 0 (by decide) m_fl_RX1_12 rfl dX1_open_1 ?_
  refine lv_iload_n hx hb dX1_open_4 rfl (lv_at hl 1 rfl) ?_
  refine lv_iload_n hx hb dX1_open_5 rfl (lv_at hl 2 rfl) ?_
  refine z_Vi (bc := [wp, z]) (br := [[zO1 h po a1_1 v0 la v1 v2 v3 v4 v5 v6 v7], [zAr T 0 a1_1 7 fw]]) (As := [.int x, .int y]) (rest := []) C G (c_isShut l T po la f1 f2 f3 st wh wp cr inn k1 k2 k3 k4 z x y hp hz) (kV_RX1_141 C.2.2.2.2 (Nat.le_of_ble_eq_true rfl) (Nat.le_of_ble_eq_true rfl)) [2, 3] [2, 0] rfl rfl (ci := 6) (qc := (RX6, TX6, 6)) rfl rfl (List.mem_flatten.mpr ⟨_, List.mem_of_getElem? (i := 0) rfl, (bPosts_mem hp).choose_spec⟩) rfl rfl hl.1 dX1_open_6 (Nat.le_of_ble_eq_true rfl) (Nat.le_of_ble_eq_true rfl) (fun r_3 b1 H locs hw G => ?_)
  refine zAn2 hw ?_
  intro hbs9 hc_2
  clear hw
  subst hbs9
  have G : zS T A s.heap s [[zO1 h po a1_1 v0 la v1 v2 v3 v4 v5 v6 v7], [zAr T 0 a1_1 7 fw], wp, z] _ _ := G
  rcases hc_2 with ⟨rfl, h_4, h_5, h_6, h_7, h_8, h_9, h_10⟩ | ⟨rfl, h_11⟩
  · have h_4 : 0 ≤ x.toInt := h_4
    have h_5 : x.toInt < cr.toInt := h_5
    have h_6 : x.toInt < 7 := h_6
    have h_7 : 0 ≤ y.toInt := h_7
    have h_8 : y.toInt < (k1 x.toNatClampNeg).toInt := h_8
    have h_9 : y.toInt < 4 := h_9
    have h_10 : ¬ zBit (f2 x.toNatClampNeg) y = 0 := h_10
    refine lv_istore_n (lv' := [(3, .int 1), (0, .ref h), (1, .int x), (2, .int y)]) hx hb dX1_open_9 rfl hl (by decide) (zLvf_h rfl) (fun ls hl => ?_)
    refine lv_iload_n hx hb dX1_open_10 rfl (lv_at hl 0 rfl) ?_
    refine lv_if_eq (tgt := 23) hx hb dX1_open_11 (by decide) (fun q => absurd q (by decide)) (fun _ => ?_)
    refine lv_aload_n hx hb dX1_open_14 rfl (lv_at hl 1 rfl) ?_
    refine z_get C G clX1 0 rfl 0 (by decide) m_fl_RX1_12 rfl dX1_open_15 ?_
    refine lv_iload_n hx hb dX1_open_18 rfl (lv_at hl 2 rfl) ?_
    refine lv_iload_n hx hb dX1_open_19 rfl (lv_at hl 3 rfl) ?_
    refine z_Vv (bc := [wp, z]) (br := [[zO1 h po a1_1 v0 la v1 v2 v3 v4 v5 v6 v7], [zAr T 0 a1_1 7 fw]]) (As := [.int x, .int y]) (rest := []) C G (c_openRoad l T po la f1 f2 f3 st wh wp cr inn k1 k2 k3 k4 z x y hp hz) (kV_RX1_147 C.2.2.2.2 (Nat.le_of_ble_eq_true rfl) (Nat.le_of_ble_eq_true rfl)) [2, 3] [2, 0] rfl rfl (ci := 6) (qc := (RX6, TX6, 6)) rfl rfl (List.mem_flatten.mpr ⟨_, List.mem_of_getElem? (i := 0) rfl, (bPosts_mem hp).choose_spec⟩) rfl rfl hl.1 dX1_open_20 (Nat.le_of_ble_eq_true rfl) (Nat.le_of_ble_eq_true rfl) (fun b1 H locs hw G => ?_)
    refine zEx2 hw ?_
    intro w2_12 g2_13
    refine zCu3 ?_
    intro hbs9 h_14 h_15
    clear hw
    subst hbs9
    have G : zS T A s.heap s [[zO1 h po a1_1 v0 la v1 v2 v3 v4 v5 v6 v7], [zAr T 0 a1_1 7 fw], w2_12, z] _ _ := G
    refine lv_iload_n hx hb dX1_open_23 rfl (lv_at hl 0 rfl) ?_
    have hw_17 : bCourse T h po la fw v0 v1 v2 v3 v4 v5 v6 v7 [zO1 h po a1_1 v0 la v1 v2 v3 v4 v5 v6 v7, zAr T 0 a1_1 7 fw] := ⟨a1_1, rfl⟩
    have G : zS T A s.heap s [[zO1 h po a1_1 v0 la v1 v2 v3 v4 v5 v6 v7, zAr T 0 a1_1 7 fw], w2_12, z] _ _ := G.re rfl
    exact z_back hQz_ (z_zret C hr hlocks G (Nat.le_of_ble_eq_true rfl) (Nat.le_of_ble_eq_true rfl) dX1_open_24 rfl ⟨([zO1 h po a1_1 v0 la v1 v2 v3 v4 v5 v6 v7, zAr T 0 a1_1 7 fw]), fw, v0, v1, v2, v3, v4, v5, v6, v7, w2_12, f1, g2_13, st, wh, rfl, hw_17, h_14, hP, (by first | exact Or.inl rfl | exact Or.inr rfl)⟩)
  · have h_11 : (x.toInt < 0 ∨ cr.toInt ≤ x.toInt ∨ 7 ≤ x.toInt ∨ y.toInt < 0 ∨ (k1 x.toNatClampNeg).toInt ≤ y.toInt ∨ 4 ≤ y.toInt ∨ zBit (f2 x.toNatClampNeg) y = 0) := h_11
    refine lv_istore_n (lv' := [(3, .int 0), (0, .ref h), (1, .int x), (2, .int y)]) hx hb dX1_open_9 rfl hl (by decide) (zLvf_h rfl) (fun ls hl => ?_)
    refine lv_iload_n hx hb dX1_open_10 rfl (lv_at hl 0 rfl) ?_
    refine lv_if_eq (tgt := 23) hx hb dX1_open_11 (by decide) (fun _ => ?_) (fun q => absurd (by decide) q)
    refine lv_iload_n hx hb dX1_open_23 rfl (lv_at hl 0 rfl) ?_
    have hw_18 : bCourse T h po la fw v0 v1 v2 v3 v4 v5 v6 v7 [zO1 h po a1_1 v0 la v1 v2 v3 v4 v5 v6 v7, zAr T 0 a1_1 7 fw] := ⟨a1_1, rfl⟩
    have G : zS T A s.heap s [[zO1 h po a1_1 v0 la v1 v2 v3 v4 v5 v6 v7, zAr T 0 a1_1 7 fw], wp, z] _ _ := G.re rfl
    exact z_back hQz_ (z_zret C hr hlocks G (Nat.le_of_ble_eq_true rfl) (Nat.le_of_ble_eq_true rfl) dX1_open_24 rfl ⟨([zO1 h po a1_1 v0 la v1 v2 v3 v4 v5 v6 v7, zAr T 0 a1_1 7 fw]), fw, v0, v1, v2, v3, v4, v5, v6, v7, wp, f1, f2, st, wh, rfl, hw_18, hp, hP, (by first | exact Or.inl rfl | exact Or.inr rfl)⟩)
